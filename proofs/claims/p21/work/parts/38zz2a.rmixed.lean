noncomputable section
theorem cr_fears2 {h : List ik_E} {pl : Int} {f : Nat → Int} {s : Nat} {cn : List Int} {go : List Int} {ch : List Int} {gt : List Int} {gd : List Int} {xs : List Int} {ys : List Int} {ka : Int} {pa : Int} {fa : Int} {kb : Int} {pb : Int} {fb : Int} {r1 : List Int} {r2 : List Int} {p : Int} {fr : List Int} (q0 : 1 ≤ pl ∧ pl ≤ 12) (q1 : s < 4096) (q2 : ∀ x : Int, 0 ≤ x → x < pl - 1 → 0 ≤ cn.getD x.toNat 0 ∧ cn.getD x.toNat 0 ≤ 4) (q3 : ∀ x : Int, 0 ≤ x → x < pl - 1 → 1 ≤ cn.getD x.toNat 0 ∧ ∀ j : Int, 4 * x ≤ j → j < 4 * x + cn.getD x.toNat 0 → 0 ≤ ch.getD j.toNat 0 ∧ ch.getD j.toNat 0 ≤ 100) (q4 : ∀ x : Int, 0 ≤ x → x < pl - 1 → mx_ok pl (mx_w cn go ch s x)) (q5 : 0 ≤ ka ∧ ka ≤ 2) (q6 : 0 ≤ kb ∧ kb ≤ 2) (q7 : 0 ≤ p ∧ p + 2 < pl) (h66 : cE h 66 (.inr (10, [fI pl, .ref 67, .ref 68, .ref 69, fI ((s : Nat) : Int), .ref 70, .ref 71, fI (f 7), fI (f 8), .ref 72, fI (f 10), fI (f 11), fI (f 12), fJ (f 13), fI (f 14), fI (f 15), fI (f 16), fI (f 17), .ref 73, .ref 74, .ref 75, .ref 76, .ref 77, .ref 78, fI (f 24), .ref 79, .ref 80, .ref 81, .ref 82, .ref 83, .ref 84, .ref 85, fJ (f 32), fJ (f 33), .ref 86, .ref 87, fI (f 36), .ref 88, .ref 89, .ref 90, .ref 91, .ref 92, .ref 93]))) (h67 : cE h 67 (.inl (.int, fA cn))) (n67 : cn.length = 12) (h68 : cE h 68 (.inl (.int, fA go))) (n68 : go.length = 48) (h69 : cE h 69 (.inl (.int, fA ch))) (n69 : ch.length = 48) (h77 : cE h 77 (.inl (.int, fA gt))) (n77 : gt.length = 5) (h78 : cE h 78 (.inl (.int, fA gd))) (n78 : gd.length = 5) (h79 : cE h 79 (.inl (.long, fL xs))) (n79 : xs.length = 12) (h80 : cE h 80 (.inl (.long, fL ys))) (n80 : ys.length = 12) (h70 : cE h 70 (.inl (.int, fA [ka, pa, fa, kb, pb, fb]))) (h81 : cE h 81 (.inl (.long, fL r1))) (n81 : r1.length = 201) (h82 : cE h 82 (.inl (.long, fL r2))) (n82 : r2.length = 201) (h83 : cE h 83 (.inl (.long, fL fr))) (n83 : fr.length = 9) (hl : h.length = 94) : ik_F 178 [.ref 66, fI p, fI 2] h (fun rv h' => ∃ (w' : Int) (gt' : List Int) (gd' : List Int) (xs' : List Int) (ys' : List Int) (r1' : List Int) (r2' : List Int) (fr' : List Int), rv = [] ∧ cE h' 66 (.inr (10, [fI pl, .ref 67, .ref 68, .ref 69, fI ((s : Nat) : Int), .ref 70, .ref 71, fI (f 7), fI (f 8), .ref 72, fI (f 10), fI (f 11), fI (f 12), fJ (f 13), fI (f 14), fI (f 15), fI (f 16), fI (f 17), .ref 73, .ref 74, .ref 75, .ref 76, .ref 77, .ref 78, fI w', .ref 79, .ref 80, .ref 81, .ref 82, .ref 83, .ref 84, .ref 85, fJ (f 32), fJ (f 33), .ref 86, .ref 87, fI (f 36), .ref 88, .ref 89, .ref 90, .ref 91, .ref 92, .ref 93])) ∧ cE h' 77 (.inl (.int, fA gt')) ∧ gt'.length = 5 ∧ cE h' 78 (.inl (.int, fA gd')) ∧ gd'.length = 5 ∧ cE h' 79 (.inl (.long, fL xs')) ∧ xs'.length = 12 ∧ cE h' 80 (.inl (.long, fL ys')) ∧ ys'.length = 12 ∧ cE h' 81 (.inl (.long, fL r1')) ∧ r1'.length = 201 ∧ cE h' 82 (.inl (.long, fL r2')) ∧ r2'.length = 201 ∧ cE h' 70 (.inl (.int, fA [ka, pa, fa, kb, pb, fb])) ∧ cE h' 83 (.inl (.long, fL fr')) ∧ fr'.length = 9 ∧ hfr [66, 77, 78, 79, 80, 81, 82, 70, 83] h h') := by
  refine ik_Wk 1 (pc' := 1) (loc' := [some (.ref 66), some (fI p), some (fI 2), none, none, none, none, none, none]) (st' := [.ref 66]) (h' := h) (cl' := 0) (sl' := 0) rfl ?_
  refine fw_gf rfl rfl h66 rfl ?_
  refine ik_Wk 1 (pc' := 5) (loc' := [some (.ref 66), some (fI p), some (fI 2), none, none, none, none, none, none]) (st' := [fI 1, .ref 70]) (h' := h) (cl' := 0) (sl' := 0) rfl ?_
  refine fw_ial (z := 1) rfl h70 (by decide) (Nat.le_of_ble_eq_true rfl) (by decide) ?_
  refine ik_Wk 0 (pc' := 6) (loc' := [some (.ref 66), some (fI p), some (fI 2), none, none, none, none, none, none]) (st' := [fI pa]) (h' := h) (cl' := 0) (sl' := 0) rfl ?_
  refine ik_Wk 2 (pc' := 8) (loc' := [some (.ref 66), some (fI p), some (fI 2), some (fI pa), none, none, none, none, none]) (st' := [.ref 66]) (h' := h) (cl' := 0) (sl' := 0) rfl ?_
  refine fw_gf rfl rfl h66 rfl ?_
  refine ik_Wk 1 (pc' := 12) (loc' := [some (.ref 66), some (fI p), some (fI 2), some (fI pa), none, none, none, none, none]) (st' := [fI 2, .ref 70]) (h' := h) (cl' := 0) (sl' := 0) rfl ?_
  refine fw_ial (z := 2) rfl h70 (by decide) (Nat.le_of_ble_eq_true rfl) (by decide) ?_
  refine ik_Wk 0 (pc' := 13) (loc' := [some (.ref 66), some (fI p), some (fI 2), some (fI pa), none, none, none, none, none]) (st' := [fI fa]) (h' := h) (cl' := 0) (sl' := 0) rfl ?_
  refine ik_Wk 2 (pc' := 16) (loc' := [some (.ref 66), some (fI p), some (fI 2), some (fI pa), some (fI fa), none, none, none, none]) (st' := [.ref 66]) (h' := h) (cl' := 0) (sl' := 0) rfl ?_
  refine fw_gf rfl rfl h66 rfl ?_
  refine ik_Wk 1 (pc' := 20) (loc' := [some (.ref 66), some (fI p), some (fI 2), some (fI pa), some (fI fa), none, none, none, none]) (st' := [fI 4, .ref 70]) (h' := h) (cl' := 0) (sl' := 0) rfl ?_
  refine fw_ial (z := 4) rfl h70 (by decide) (Nat.le_of_ble_eq_true rfl) (by decide) ?_
  refine ik_Wk 0 (pc' := 21) (loc' := [some (.ref 66), some (fI p), some (fI 2), some (fI pa), some (fI fa), none, none, none, none]) (st' := [fI pb]) (h' := h) (cl' := 0) (sl' := 0) rfl ?_
  refine ik_Wk 2 (pc' := 24) (loc' := [some (.ref 66), some (fI p), some (fI 2), some (fI pa), some (fI fa), some (fI pb), none, none, none]) (st' := [.ref 66]) (h' := h) (cl' := 0) (sl' := 0) rfl ?_
  refine fw_gf rfl rfl h66 rfl ?_
  refine ik_Wk 1 (pc' := 28) (loc' := [some (.ref 66), some (fI p), some (fI 2), some (fI pa), some (fI fa), some (fI pb), none, none, none]) (st' := [fI 5, .ref 70]) (h' := h) (cl' := 0) (sl' := 0) rfl ?_
  refine fw_ial (z := 5) rfl h70 (by decide) (Nat.le_of_ble_eq_true rfl) (by decide) ?_
  refine ik_Wk 0 (pc' := 29) (loc' := [some (.ref 66), some (fI p), some (fI 2), some (fI pa), some (fI fa), some (fI pb), none, none, none]) (st' := [fI fb]) (h' := h) (cl' := 0) (sl' := 0) rfl ?_
  refine ik_Wk 2 (pc' := 32) (loc' := [some (.ref 66), some (fI p), some (fI 2), some (fI pa), some (fI fa), some (fI pb), some (fI fb), none, none]) (st' := [.ref 66]) (h' := h) (cl' := 0) (sl' := 0) rfl ?_
  refine fw_gf rfl rfl h66 rfl ?_
  refine ik_Wk 2 (pc' := 37) (loc' := [some (.ref 66), some (fI p), some (fI 2), some (fI pa), some (fI fa), some (fI pb), some (fI fb), none, none]) (st' := [fI 0, fI 2, .ref 70]) (h' := h) (cl' := 0) (sl' := 0) rfl ?_
  refine fx_ias (z := 2) rfl h70 (by decide) (Nat.le_of_ble_eq_true rfl) (by decide) ?_
  intro h_913 e_913 f_913 l_913
  have k_913 := l_913.trans hl
  have fr_913 := hfr_w (hfr_refl [66, 77, 78, 79, 80, 81, 82, 70, 83] h) f_913 l_913 (by decide)
  have g_913_66 := (f_913 66 (by decide)).trans h66
  have g_913_67 := (f_913 67 (by decide)).trans h67
  have g_913_68 := (f_913 68 (by decide)).trans h68
  have g_913_69 := (f_913 69 (by decide)).trans h69
  have g_913_77 := (f_913 77 (by decide)).trans h77
  have g_913_78 := (f_913 78 (by decide)).trans h78
  have g_913_79 := (f_913 79 (by decide)).trans h79
  have g_913_80 := (f_913 80 (by decide)).trans h80
  have g_913_81 := (f_913 81 (by decide)).trans h81
  have g_913_82 := (f_913 82 (by decide)).trans h82
  have g_913_83 := (f_913 83 (by decide)).trans h83
  have g_913_70 : cE h_913 70 (.inl (.int, fA [ka, pa, 0, kb, pb, fb])) := e_913
  refine ik_Wk 1 (pc' := 39) (loc' := [some (.ref 66), some (fI p), some (fI 2), some (fI pa), some (fI fa), some (fI pb), some (fI fb), none, none]) (st' := [.ref 66]) (h' := h_913) (cl' := 0) (sl' := 0) rfl ?_
  refine fw_gf rfl rfl g_913_66 rfl ?_
  refine ik_Wk 2 (pc' := 44) (loc' := [some (.ref 66), some (fI p), some (fI 2), some (fI pa), some (fI fa), some (fI pb), some (fI fb), none, none]) (st' := [fI 0, fI 5, .ref 70]) (h' := h_913) (cl' := 0) (sl' := 0) rfl ?_
  refine fx_ias (z := 5) rfl g_913_70 (by decide) (Nat.le_of_ble_eq_true rfl) (by decide) ?_
  intro h_914 e_914 f_914 l_914
  have k_914 := l_914.trans k_913
  have fr_914 := hfr_w fr_913 f_914 l_914 (by decide)
  have g_914_66 := (f_914 66 (by decide)).trans g_913_66
  have g_914_67 := (f_914 67 (by decide)).trans g_913_67
  have g_914_68 := (f_914 68 (by decide)).trans g_913_68
  have g_914_69 := (f_914 69 (by decide)).trans g_913_69
  have g_914_77 := (f_914 77 (by decide)).trans g_913_77
  have g_914_78 := (f_914 78 (by decide)).trans g_913_78
  have g_914_79 := (f_914 79 (by decide)).trans g_913_79
  have g_914_80 := (f_914 80 (by decide)).trans g_913_80
  have g_914_81 := (f_914 81 (by decide)).trans g_913_81
  have g_914_82 := (f_914 82 (by decide)).trans g_913_82
  have g_914_83 := (f_914 83 (by decide)).trans g_913_83
  have g_914_70 : cE h_914 70 (.inl (.int, fA [ka, pa, 0, kb, pb, 0])) := e_914
  refine ik_Wk 4 (pc' := 51) (loc' := [some (.ref 66), some (fI p), some (fI 2), some (fI pa), some (fI fa), some (fI pb), some (fI fb), some (fI 0), none]) (st' := [fI 2, fI 0]) (h' := h_914) (cl' := 0) (sl' := 0) rfl ?_
  refine fw_ic_ge rfl rfl (by omega) (by omega) (by omega) (by omega) (fun hc1 => absurd hc1 (by omega)) (fun hc1 => ?_)
  refine ik_Wk 4 (pc' := 60) (loc' := [some (.ref 66), some (fI p), some (fI 2), some (fI pa), some (fI fa), some (fI pb), some (fI fb), some (fI 0), some (fI 0)]) (st' := [fI 2, fI 0]) (h' := h_914) (cl' := 0) (sl' := 0) rfl ?_
  refine fw_ic_ge rfl rfl (by omega) (by omega) (by omega) (by omega) (fun hc2 => absurd hc2 (by omega)) (fun hc2 => ?_)
  refine ik_Wk 1 (pc' := 64) (loc' := [some (.ref 66), some (fI p), some (fI 2), some (fI pa), some (fI fa), some (fI pb), some (fI fb), some (fI 0), some (fI 0)]) (st' := [.ref 66]) (h' := h_914) (cl' := 0) (sl' := 0) rfl ?_
  refine fw_gf rfl rfl g_914_66 rfl ?_
  refine ik_Wk 3 (pc' := 71) (loc' := [some (.ref 66), some (fI p), some (fI 2), some (fI pa), some (fI fa), some (fI pb), some (fI fb), some (fI 0), some (fI 0)]) (st' := [fI 0, fI p, fI 1, .ref 70]) (h' := h_914) (cl' := 0) (sl' := 0) rfl ?_
  refine fw_add rfl ?_
  refine fx_ias (z := 1) rfl g_914_70 (by decide) (Nat.le_of_ble_eq_true rfl) (by decide) ?_
  intro h_915 e_915 f_915 l_915
  have k_915 := l_915.trans k_914
  have fr_915 := hfr_w fr_914 f_915 l_915 (by decide)
  have g_915_66 := (f_915 66 (by decide)).trans g_914_66
  have g_915_67 := (f_915 67 (by decide)).trans g_914_67
  have g_915_68 := (f_915 68 (by decide)).trans g_914_68
  have g_915_69 := (f_915 69 (by decide)).trans g_914_69
  have g_915_77 := (f_915 77 (by decide)).trans g_914_77
  have g_915_78 := (f_915 78 (by decide)).trans g_914_78
  have g_915_79 := (f_915 79 (by decide)).trans g_914_79
  have g_915_80 := (f_915 80 (by decide)).trans g_914_80
  have g_915_81 := (f_915 81 (by decide)).trans g_914_81
  have g_915_82 := (f_915 82 (by decide)).trans g_914_82
  have g_915_83 := (f_915 83 (by decide)).trans g_914_83
  have g_915_70 : cE h_915 70 (.inl (.int, fA [ka, p + 0, 0, kb, pb, 0])) := e_915
  refine ik_Wk 1 (pc' := 74) (loc' := [some (.ref 66), some (fI p), some (fI 2), some (fI pa), some (fI fa), some (fI pb), some (fI fb), some (fI 0), some (fI 0)]) (st' := [.ref 66]) (h' := h_915) (cl' := 0) (sl' := 0) rfl ?_
  refine fw_gf rfl rfl g_915_66 rfl ?_
  refine ik_Wk 3 (pc' := 81) (loc' := [some (.ref 66), some (fI p), some (fI 2), some (fI pa), some (fI fa), some (fI pb), some (fI fb), some (fI 0), some (fI 0)]) (st' := [fI 0, fI p, fI 4, .ref 70]) (h' := h_915) (cl' := 0) (sl' := 0) rfl ?_
  refine fw_add rfl ?_
  refine fx_ias (z := 4) rfl g_915_70 (by decide) (Nat.le_of_ble_eq_true rfl) (by decide) ?_
  intro h_916 e_916 f_916 l_916
  have k_916 := l_916.trans k_915
  have fr_916 := hfr_w fr_915 f_916 l_916 (by decide)
  have g_916_66 := (f_916 66 (by decide)).trans g_915_66
  have g_916_67 := (f_916 67 (by decide)).trans g_915_67
  have g_916_68 := (f_916 68 (by decide)).trans g_915_68
  have g_916_69 := (f_916 69 (by decide)).trans g_915_69
  have g_916_77 := (f_916 77 (by decide)).trans g_915_77
  have g_916_78 := (f_916 78 (by decide)).trans g_915_78
  have g_916_79 := (f_916 79 (by decide)).trans g_915_79
  have g_916_80 := (f_916 80 (by decide)).trans g_915_80
  have g_916_81 := (f_916 81 (by decide)).trans g_915_81
  have g_916_82 := (f_916 82 (by decide)).trans g_915_82
  have g_916_83 := (f_916 83 (by decide)).trans g_915_83
  have g_916_70 : cE h_916 70 (.inl (.int, fA [ka, p + 0, 0, kb, p + 0, 0])) := e_916
  refine ik_Wk 1 (pc' := 84) (loc' := [some (.ref 66), some (fI p), some (fI 2), some (fI pa), some (fI fa), some (fI pb), some (fI fb), some (fI 0), some (fI 0)]) (st' := [.ref 66]) (h' := h_916) (cl' := 0) (sl' := 0) rfl ?_
  refine fw_gf rfl rfl g_916_66 rfl ?_
  refine ik_Wk 2 (pc' := 90) (loc' := [some (.ref 66), some (fI p), some (fI 2), some (fI pa), some (fI fa), some (fI pb), some (fI fb), some (fI 0), some (fI 0)]) (st' := [fI 0, fI 3, .ref 83]) (h' := h_916) (cl' := 0) (sl' := 0) rfl ?_
  refine fw_mul rfl ?_
  refine ik_Wk 1 (pc' := 93) (loc' := [some (.ref 66), some (fI p), some (fI 2), some (fI pa), some (fI fa), some (fI pb), some (fI fb), some (fI 0), some (fI 0)]) (st' := [fI 0, fI 0, .ref 83]) (h' := h_916) (cl' := 0) (sl' := 0) rfl ?_
  refine fw_add rfl ?_
  refine ik_Wk 2 (pc' := 96) (loc' := [some (.ref 66), some (fI p), some (fI 2), some (fI pa), some (fI fa), some (fI pb), some (fI fb), some (fI 0), some (fI 0)]) (st' := [fI 0, .ref 66, fI 0, .ref 83]) (h' := h_916) (cl' := 0) (sl' := 0) rfl ?_
  refine fw_call 169 2 0 [.ref 66, fI 0] [fI 0, .ref 83] rfl rfl rfl (by decide) rfl rfl (fw_rec k_916 rfl g_916_66 rfl (by decide)) (cr_laterOf (pl := pl) (f := fun j => ([0, 0, 0, 0, 0, 0, 0, f 7, f 8, 0, f 10, f 11, f 12, f 13, f 14, f 15, f 16, f 17, 0, 0, 0, 0, 0, 0, f 24, 0, 0, 0, 0, 0, 0, 0, f 32, f 33, 0, 0, f 36, 0, 0, 0, 0, 0, 0] : List Int).getD j 0) (s := s) (cn := cn) (go := go) (ch := ch) (gt := gt) (gd := gd) (xs := xs) (ys := ys) (ka := ka) (pa := p + 0) (fa := 0) (kb := kb) (pb := p + 0) (fb := 0) (r1 := r1) (r2 := r2) (wh := 0) (by omega) (by omega) q2 q3 q4 (by omega) (by omega) (by omega) (by omega) (by omega) (by omega) (by omega) g_916_66 g_916_67 n67 g_916_68 n68 g_916_69 n69 g_916_77 n77 g_916_78 n78 g_916_79 n79 g_916_80 n80 g_916_70 g_916_81 n81 g_916_82 n82 k_916) ?_
  rintro _ h_917 ⟨w'_917, gt'_917, gd'_917, xs'_917, ys'_917, r1'_917, r2'_917, rfl, e_917_66, e_917_77, m_917_77, e_917_78, m_917_78, e_917_79, m_917_79, e_917_80, m_917_80, e_917_81, m_917_81, e_917_82, m_917_82, F_917⟩
  have k_917 := F_917.1.trans k_916
  have fr_917 := hfr_c fr_916 F_917 (by decide)
  have g_917_67 := (F_917.2 67 (by decide +kernel)).trans g_916_67
  have g_917_68 := (F_917.2 68 (by decide +kernel)).trans g_916_68
  have g_917_69 := (F_917.2 69 (by decide +kernel)).trans g_916_69
  have g_917_70 := (F_917.2 70 (by decide +kernel)).trans g_916_70
  have g_917_83 := (F_917.2 83 (by decide +kernel)).trans g_916_83
  have g_917_66 : cE h_917 66 (.inr (10, [fI pl, .ref 67, .ref 68, .ref 69, fI ((s : Nat) : Int), .ref 70, .ref 71, fI (f 7), fI (f 8), .ref 72, fI (f 10), fI (f 11), fI (f 12), fJ (f 13), fI (f 14), fI (f 15), fI (f 16), fI (f 17), .ref 73, .ref 74, .ref 75, .ref 76, .ref 77, .ref 78, fI w'_917, .ref 79, .ref 80, .ref 81, .ref 82, .ref 83, .ref 84, .ref 85, fJ (f 32), fJ (f 33), .ref 86, .ref 87, fI (f 36), .ref 88, .ref 89, .ref 90, .ref 91, .ref 92, .ref 93])) := e_917_66
  have g_917_77 : cE h_917 77 (.inl (.int, fA gt'_917)) := e_917_77
  have g_917_78 : cE h_917 78 (.inl (.int, fA gd'_917)) := e_917_78
  have g_917_79 : cE h_917 79 (.inl (.long, fL xs'_917)) := e_917_79
  have g_917_80 : cE h_917 80 (.inl (.long, fL ys'_917)) := e_917_80
  have g_917_81 : cE h_917 81 (.inl (.long, fL r1'_917)) := e_917_81
  have g_917_82 : cE h_917 82 (.inl (.long, fL r2'_917)) := e_917_82
  refine ik_Wk 0 (pc' := 99) (loc' := [some (.ref 66), some (fI p), some (fI 2), some (fI pa), some (fI fa), some (fI pb), some (fI fb), some (fI 0), some (fI 0)]) (st' := [fI (mr_w (mf_cm (fun x => mx_w cn go ch s x) (pl - 1) ka (p + 0)) 0 (mf_cm (fun x => mx_w cn go ch s x) (pl - 1) kb (p + 0)) 0 0), fI 0, .ref 83]) (h' := h_917) (cl' := 0) (sl' := 0) rfl ?_
  have wb_917 : 0 ≤ mr_w (mf_cm (fun x => mx_w cn go ch s x) (pl - 1) ka (p + 0)) 0 (mf_cm (fun x => mx_w cn go ch s x) (pl - 1) kb (p + 0)) 0 0 ∧ mr_w (mf_cm (fun x => mx_w cn go ch s x) (pl - 1) ka (p + 0)) 0 (mf_cm (fun x => mx_w cn go ch s x) (pl - 1) kb (p + 0)) 0 0 ≤ 1000000 := mr_w_b (mr_ok_cm (W := (fun x => mx_w cn go ch s x)) (k := ka) q4 (show 0 ≤ p + 0 ∧ p + 0 < pl - 1 by omega)) (mr_ok_cm (W := (fun x => mx_w cn go ch s x)) (k := kb) q4 (show 0 ≤ p + 0 ∧ p + 0 < pl - 1 by omega)) (by decide) (by decide) 0
  refine fw_si rfl (by decide) ?_
  refine fx_idiv rfl (by omega) (by omega) (by omega) (by omega) ?_
  refine fw_i2l rfl (by omega) (by omega) ?_
  have hl3 : (fr.set (0 : Int).toNat ((mr_w (mf_cm (fun x => mx_w cn go ch s x) (pl - 1) ka (p + 0)) 0 (mf_cm (fun x => mx_w cn go ch s x) (pl - 1) kb (p + 0)) 0 0) / 1000)).length = 9 := (List.length_set ..).trans n83
  refine fx_las rfl g_917_83 (by omega) (by omega) (by omega) ?_
  intro h_918 e_918 f_918 l_918
  have k_918 := l_918.trans k_917
  have fr_918 := hfr_w fr_917 f_918 l_918 (by decide)
  have g_918_66 := (f_918 66 (by decide)).trans g_917_66
  have g_918_67 := (f_918 67 (by decide)).trans g_917_67
  have g_918_68 := (f_918 68 (by decide)).trans g_917_68
  have g_918_69 := (f_918 69 (by decide)).trans g_917_69
  have g_918_77 := (f_918 77 (by decide)).trans g_917_77
  have g_918_78 := (f_918 78 (by decide)).trans g_917_78
  have g_918_79 := (f_918 79 (by decide)).trans g_917_79
  have g_918_80 := (f_918 80 (by decide)).trans g_917_80
  have g_918_70 := (f_918 70 (by decide)).trans g_917_70
  have g_918_81 := (f_918 81 (by decide)).trans g_917_81
  have g_918_82 := (f_918 82 (by decide)).trans g_917_82
  have g_918_83 : cE h_918 83 (.inl (.long, fL (fr.set (0 : Int).toNat ((mr_w (mf_cm (fun x => mx_w cn go ch s x) (pl - 1) ka (p + 0)) 0 (mf_cm (fun x => mx_w cn go ch s x) (pl - 1) kb (p + 0)) 0 0) / 1000)))) := e_918
  refine fw_inc (a := 0) (loc' := [some (.ref 66), some (fI p), some (fI 2), some (fI pa), some (fI fa), some (fI pb), some (fI fb), some (fI 0), some (fI 1)]) rfl rfl (Nat.le_of_ble_eq_true rfl) rfl ?_
  refine ik_Wk 3 (pc' := 60) (loc' := [some (.ref 66), some (fI p), some (fI 2), some (fI pa), some (fI fa), some (fI pb), some (fI fb), some (fI 0), some (fI 1)]) (st' := [fI 2, fI 1]) (h' := h_918) (cl' := 0) (sl' := 0) rfl ?_
  refine fw_ic_ge rfl rfl (by omega) (by omega) (by omega) (by omega) (fun hc4 => absurd hc4 (by omega)) (fun hc4 => ?_)
  refine ik_Wk 1 (pc' := 64) (loc' := [some (.ref 66), some (fI p), some (fI 2), some (fI pa), some (fI fa), some (fI pb), some (fI fb), some (fI 0), some (fI 1)]) (st' := [.ref 66]) (h' := h_918) (cl' := 0) (sl' := 0) rfl ?_
  refine fw_gf rfl rfl g_918_66 rfl ?_
  refine ik_Wk 3 (pc' := 71) (loc' := [some (.ref 66), some (fI p), some (fI 2), some (fI pa), some (fI fa), some (fI pb), some (fI fb), some (fI 0), some (fI 1)]) (st' := [fI 0, fI p, fI 1, .ref 70]) (h' := h_918) (cl' := 0) (sl' := 0) rfl ?_
  refine fw_add rfl ?_
  refine fx_ias (z := 1) rfl g_918_70 (by decide) (Nat.le_of_ble_eq_true rfl) (by decide) ?_
  intro h_919 e_919 f_919 l_919
  have k_919 := l_919.trans k_918
  have fr_919 := hfr_w fr_918 f_919 l_919 (by decide)
  have g_919_66 := (f_919 66 (by decide)).trans g_918_66
  have g_919_67 := (f_919 67 (by decide)).trans g_918_67
  have g_919_68 := (f_919 68 (by decide)).trans g_918_68
  have g_919_69 := (f_919 69 (by decide)).trans g_918_69
  have g_919_77 := (f_919 77 (by decide)).trans g_918_77
  have g_919_78 := (f_919 78 (by decide)).trans g_918_78
  have g_919_79 := (f_919 79 (by decide)).trans g_918_79
  have g_919_80 := (f_919 80 (by decide)).trans g_918_80
  have g_919_81 := (f_919 81 (by decide)).trans g_918_81
  have g_919_82 := (f_919 82 (by decide)).trans g_918_82
  have g_919_83 := (f_919 83 (by decide)).trans g_918_83
  have g_919_70 : cE h_919 70 (.inl (.int, fA [ka, p + 0, 0, kb, p + 0, 0])) := e_919
  refine ik_Wk 1 (pc' := 74) (loc' := [some (.ref 66), some (fI p), some (fI 2), some (fI pa), some (fI fa), some (fI pb), some (fI fb), some (fI 0), some (fI 1)]) (st' := [.ref 66]) (h' := h_919) (cl' := 0) (sl' := 0) rfl ?_
  refine fw_gf rfl rfl g_919_66 rfl ?_
  refine ik_Wk 3 (pc' := 81) (loc' := [some (.ref 66), some (fI p), some (fI 2), some (fI pa), some (fI fa), some (fI pb), some (fI fb), some (fI 0), some (fI 1)]) (st' := [fI 1, fI p, fI 4, .ref 70]) (h' := h_919) (cl' := 0) (sl' := 0) rfl ?_
  refine fw_add rfl ?_
  refine fx_ias (z := 4) rfl g_919_70 (by decide) (Nat.le_of_ble_eq_true rfl) (by decide) ?_
  intro h_920 e_920 f_920 l_920
  have k_920 := l_920.trans k_919
  have fr_920 := hfr_w fr_919 f_920 l_920 (by decide)
  have g_920_66 := (f_920 66 (by decide)).trans g_919_66
  have g_920_67 := (f_920 67 (by decide)).trans g_919_67
  have g_920_68 := (f_920 68 (by decide)).trans g_919_68
  have g_920_69 := (f_920 69 (by decide)).trans g_919_69
  have g_920_77 := (f_920 77 (by decide)).trans g_919_77
  have g_920_78 := (f_920 78 (by decide)).trans g_919_78
  have g_920_79 := (f_920 79 (by decide)).trans g_919_79
  have g_920_80 := (f_920 80 (by decide)).trans g_919_80
  have g_920_81 := (f_920 81 (by decide)).trans g_919_81
  have g_920_82 := (f_920 82 (by decide)).trans g_919_82
  have g_920_83 := (f_920 83 (by decide)).trans g_919_83
  have g_920_70 : cE h_920 70 (.inl (.int, fA [ka, p + 0, 0, kb, p + 1, 0])) := e_920
  refine ik_Wk 1 (pc' := 84) (loc' := [some (.ref 66), some (fI p), some (fI 2), some (fI pa), some (fI fa), some (fI pb), some (fI fb), some (fI 0), some (fI 1)]) (st' := [.ref 66]) (h' := h_920) (cl' := 0) (sl' := 0) rfl ?_
  refine fw_gf rfl rfl g_920_66 rfl ?_
  refine ik_Wk 2 (pc' := 90) (loc' := [some (.ref 66), some (fI p), some (fI 2), some (fI pa), some (fI fa), some (fI pb), some (fI fb), some (fI 0), some (fI 1)]) (st' := [fI 0, fI 3, .ref 83]) (h' := h_920) (cl' := 0) (sl' := 0) rfl ?_
  refine fw_mul rfl ?_
  refine ik_Wk 1 (pc' := 93) (loc' := [some (.ref 66), some (fI p), some (fI 2), some (fI pa), some (fI fa), some (fI pb), some (fI fb), some (fI 0), some (fI 1)]) (st' := [fI 1, fI 0, .ref 83]) (h' := h_920) (cl' := 0) (sl' := 0) rfl ?_
  refine fw_add rfl ?_
  refine ik_Wk 2 (pc' := 96) (loc' := [some (.ref 66), some (fI p), some (fI 2), some (fI pa), some (fI fa), some (fI pb), some (fI fb), some (fI 0), some (fI 1)]) (st' := [fI 0, .ref 66, fI 1, .ref 83]) (h' := h_920) (cl' := 0) (sl' := 0) rfl ?_
  refine fw_call 169 2 0 [.ref 66, fI 0] [fI 1, .ref 83] rfl rfl rfl (by decide) rfl rfl (fw_rec k_920 rfl g_920_66 rfl (by decide)) (cr_laterOf (pl := pl) (f := fun j => ([0, 0, 0, 0, 0, 0, 0, (f 7), (f 8), 0, (f 10), (f 11), (f 12), (f 13), (f 14), (f 15), (f 16), (f 17), 0, 0, 0, 0, 0, 0, w'_917, 0, 0, 0, 0, 0, 0, 0, (f 32), (f 33), 0, 0, (f 36), 0, 0, 0, 0, 0, 0] : List Int).getD j 0) (s := s) (cn := cn) (go := go) (ch := ch) (gt := gt'_917) (gd := gd'_917) (xs := xs'_917) (ys := ys'_917) (ka := ka) (pa := p + 0) (fa := 0) (kb := kb) (pb := p + 1) (fb := 0) (r1 := r1'_917) (r2 := r2'_917) (wh := 0) (by omega) (by omega) q2 q3 q4 (by omega) (by omega) (by omega) (by omega) (by omega) (by omega) (by omega) g_920_66 g_920_67 n67 g_920_68 n68 g_920_69 n69 g_920_77 m_917_77 g_920_78 m_917_78 g_920_79 m_917_79 g_920_80 m_917_80 g_920_70 g_920_81 m_917_81 g_920_82 m_917_82 k_920) ?_
  rintro _ h_921 ⟨w'_921, gt'_921, gd'_921, xs'_921, ys'_921, r1'_921, r2'_921, rfl, e_921_66, e_921_77, m_921_77, e_921_78, m_921_78, e_921_79, m_921_79, e_921_80, m_921_80, e_921_81, m_921_81, e_921_82, m_921_82, F_921⟩
  have k_921 := F_921.1.trans k_920
  have fr_921 := hfr_c fr_920 F_921 (by decide)
  have g_921_67 := (F_921.2 67 (by decide +kernel)).trans g_920_67
  have g_921_68 := (F_921.2 68 (by decide +kernel)).trans g_920_68
  have g_921_69 := (F_921.2 69 (by decide +kernel)).trans g_920_69
  have g_921_70 := (F_921.2 70 (by decide +kernel)).trans g_920_70
  have g_921_83 := (F_921.2 83 (by decide +kernel)).trans g_920_83
  have g_921_66 : cE h_921 66 (.inr (10, [fI pl, .ref 67, .ref 68, .ref 69, fI ((s : Nat) : Int), .ref 70, .ref 71, fI (f 7), fI (f 8), .ref 72, fI (f 10), fI (f 11), fI (f 12), fJ (f 13), fI (f 14), fI (f 15), fI (f 16), fI (f 17), .ref 73, .ref 74, .ref 75, .ref 76, .ref 77, .ref 78, fI w'_921, .ref 79, .ref 80, .ref 81, .ref 82, .ref 83, .ref 84, .ref 85, fJ (f 32), fJ (f 33), .ref 86, .ref 87, fI (f 36), .ref 88, .ref 89, .ref 90, .ref 91, .ref 92, .ref 93])) := e_921_66
  have g_921_77 : cE h_921 77 (.inl (.int, fA gt'_921)) := e_921_77
  have g_921_78 : cE h_921 78 (.inl (.int, fA gd'_921)) := e_921_78
  have g_921_79 : cE h_921 79 (.inl (.long, fL xs'_921)) := e_921_79
  have g_921_80 : cE h_921 80 (.inl (.long, fL ys'_921)) := e_921_80
  have g_921_81 : cE h_921 81 (.inl (.long, fL r1'_921)) := e_921_81
  have g_921_82 : cE h_921 82 (.inl (.long, fL r2'_921)) := e_921_82
  refine ik_Wk 0 (pc' := 99) (loc' := [some (.ref 66), some (fI p), some (fI 2), some (fI pa), some (fI fa), some (fI pb), some (fI fb), some (fI 0), some (fI 1)]) (st' := [fI (mr_w (mf_cm (fun x => mx_w cn go ch s x) (pl - 1) ka (p + 0)) 0 (mf_cm (fun x => mx_w cn go ch s x) (pl - 1) kb (p + 1)) 0 0), fI 1, .ref 83]) (h' := h_921) (cl' := 0) (sl' := 0) rfl ?_
  have wb_921 : 0 ≤ mr_w (mf_cm (fun x => mx_w cn go ch s x) (pl - 1) ka (p + 0)) 0 (mf_cm (fun x => mx_w cn go ch s x) (pl - 1) kb (p + 1)) 0 0 ∧ mr_w (mf_cm (fun x => mx_w cn go ch s x) (pl - 1) ka (p + 0)) 0 (mf_cm (fun x => mx_w cn go ch s x) (pl - 1) kb (p + 1)) 0 0 ≤ 1000000 := mr_w_b (mr_ok_cm (W := (fun x => mx_w cn go ch s x)) (k := ka) q4 (show 0 ≤ p + 0 ∧ p + 0 < pl - 1 by omega)) (mr_ok_cm (W := (fun x => mx_w cn go ch s x)) (k := kb) q4 (show 0 ≤ p + 1 ∧ p + 1 < pl - 1 by omega)) (by decide) (by decide) 0
  refine fw_si rfl (by decide) ?_
  refine fx_idiv rfl (by omega) (by omega) (by omega) (by omega) ?_
  refine fw_i2l rfl (by omega) (by omega) ?_
  have hl5 : ((fr.set (0 : Int).toNat ((mr_w (mf_cm (fun x => mx_w cn go ch s x) (pl - 1) ka (p + 0)) 0 (mf_cm (fun x => mx_w cn go ch s x) (pl - 1) kb (p + 0)) 0 0) / 1000)).set (1 : Int).toNat ((mr_w (mf_cm (fun x => mx_w cn go ch s x) (pl - 1) ka (p + 0)) 0 (mf_cm (fun x => mx_w cn go ch s x) (pl - 1) kb (p + 1)) 0 0) / 1000)).length = 9 := (List.length_set ..).trans hl3
  refine fx_las rfl g_921_83 (by omega) (by omega) (by omega) ?_
  intro h_922 e_922 f_922 l_922
  have k_922 := l_922.trans k_921
  have fr_922 := hfr_w fr_921 f_922 l_922 (by decide)
  have g_922_66 := (f_922 66 (by decide)).trans g_921_66
  have g_922_67 := (f_922 67 (by decide)).trans g_921_67
  have g_922_68 := (f_922 68 (by decide)).trans g_921_68
  have g_922_69 := (f_922 69 (by decide)).trans g_921_69
  have g_922_77 := (f_922 77 (by decide)).trans g_921_77
  have g_922_78 := (f_922 78 (by decide)).trans g_921_78
  have g_922_79 := (f_922 79 (by decide)).trans g_921_79
  have g_922_80 := (f_922 80 (by decide)).trans g_921_80
  have g_922_70 := (f_922 70 (by decide)).trans g_921_70
  have g_922_81 := (f_922 81 (by decide)).trans g_921_81
  have g_922_82 := (f_922 82 (by decide)).trans g_921_82
  have g_922_83 : cE h_922 83 (.inl (.long, fL ((fr.set (0 : Int).toNat ((mr_w (mf_cm (fun x => mx_w cn go ch s x) (pl - 1) ka (p + 0)) 0 (mf_cm (fun x => mx_w cn go ch s x) (pl - 1) kb (p + 0)) 0 0) / 1000)).set (1 : Int).toNat ((mr_w (mf_cm (fun x => mx_w cn go ch s x) (pl - 1) ka (p + 0)) 0 (mf_cm (fun x => mx_w cn go ch s x) (pl - 1) kb (p + 1)) 0 0) / 1000)))) := e_922
  refine fw_inc (a := 1) (loc' := [some (.ref 66), some (fI p), some (fI 2), some (fI pa), some (fI fa), some (fI pb), some (fI fb), some (fI 0), some (fI 2)]) rfl rfl (Nat.le_of_ble_eq_true rfl) rfl ?_
  refine ik_Wk 3 (pc' := 60) (loc' := [some (.ref 66), some (fI p), some (fI 2), some (fI pa), some (fI fa), some (fI pb), some (fI fb), some (fI 0), some (fI 2)]) (st' := [fI 2, fI 2]) (h' := h_922) (cl' := 0) (sl' := 0) rfl ?_
  refine fw_ic_ge rfl rfl (by omega) (by omega) (by omega) (by omega) (fun hc6 => ?_) (fun hc6 => absurd hc6 (by omega))
  refine fw_inc (a := 0) (loc' := [some (.ref 66), some (fI p), some (fI 2), some (fI pa), some (fI fa), some (fI pb), some (fI fb), some (fI 1), some (fI 2)]) rfl rfl (Nat.le_of_ble_eq_true rfl) rfl ?_
  refine ik_Wk 3 (pc' := 51) (loc' := [some (.ref 66), some (fI p), some (fI 2), some (fI pa), some (fI fa), some (fI pb), some (fI fb), some (fI 1), some (fI 2)]) (st' := [fI 2, fI 1]) (h' := h_922) (cl' := 0) (sl' := 0) rfl ?_
  refine fw_ic_ge rfl rfl (by omega) (by omega) (by omega) (by omega) (fun hc7 => absurd hc7 (by omega)) (fun hc7 => ?_)
  refine ik_Wk 4 (pc' := 60) (loc' := [some (.ref 66), some (fI p), some (fI 2), some (fI pa), some (fI fa), some (fI pb), some (fI fb), some (fI 1), some (fI 0)]) (st' := [fI 2, fI 0]) (h' := h_922) (cl' := 0) (sl' := 0) rfl ?_
  refine fw_ic_ge rfl rfl (by omega) (by omega) (by omega) (by omega) (fun hc8 => absurd hc8 (by omega)) (fun hc8 => ?_)
  refine ik_Wk 1 (pc' := 64) (loc' := [some (.ref 66), some (fI p), some (fI 2), some (fI pa), some (fI fa), some (fI pb), some (fI fb), some (fI 1), some (fI 0)]) (st' := [.ref 66]) (h' := h_922) (cl' := 0) (sl' := 0) rfl ?_
  refine fw_gf rfl rfl g_922_66 rfl ?_
  refine ik_Wk 3 (pc' := 71) (loc' := [some (.ref 66), some (fI p), some (fI 2), some (fI pa), some (fI fa), some (fI pb), some (fI fb), some (fI 1), some (fI 0)]) (st' := [fI 1, fI p, fI 1, .ref 70]) (h' := h_922) (cl' := 0) (sl' := 0) rfl ?_
  refine fw_add rfl ?_
  refine fx_ias (z := 1) rfl g_922_70 (by decide) (Nat.le_of_ble_eq_true rfl) (by decide) ?_
  intro h_923 e_923 f_923 l_923
  have k_923 := l_923.trans k_922
  have fr_923 := hfr_w fr_922 f_923 l_923 (by decide)
  have g_923_66 := (f_923 66 (by decide)).trans g_922_66
  have g_923_67 := (f_923 67 (by decide)).trans g_922_67
  have g_923_68 := (f_923 68 (by decide)).trans g_922_68
  have g_923_69 := (f_923 69 (by decide)).trans g_922_69
  have g_923_77 := (f_923 77 (by decide)).trans g_922_77
  have g_923_78 := (f_923 78 (by decide)).trans g_922_78
  have g_923_79 := (f_923 79 (by decide)).trans g_922_79
  have g_923_80 := (f_923 80 (by decide)).trans g_922_80
  have g_923_81 := (f_923 81 (by decide)).trans g_922_81
  have g_923_82 := (f_923 82 (by decide)).trans g_922_82
  have g_923_83 := (f_923 83 (by decide)).trans g_922_83
  have g_923_70 : cE h_923 70 (.inl (.int, fA [ka, p + 1, 0, kb, p + 1, 0])) := e_923
  refine ik_Wk 1 (pc' := 74) (loc' := [some (.ref 66), some (fI p), some (fI 2), some (fI pa), some (fI fa), some (fI pb), some (fI fb), some (fI 1), some (fI 0)]) (st' := [.ref 66]) (h' := h_923) (cl' := 0) (sl' := 0) rfl ?_
  refine fw_gf rfl rfl g_923_66 rfl ?_
  refine ik_Wk 3 (pc' := 81) (loc' := [some (.ref 66), some (fI p), some (fI 2), some (fI pa), some (fI fa), some (fI pb), some (fI fb), some (fI 1), some (fI 0)]) (st' := [fI 0, fI p, fI 4, .ref 70]) (h' := h_923) (cl' := 0) (sl' := 0) rfl ?_
  refine fw_add rfl ?_
  refine fx_ias (z := 4) rfl g_923_70 (by decide) (Nat.le_of_ble_eq_true rfl) (by decide) ?_
  intro h_924 e_924 f_924 l_924
  have k_924 := l_924.trans k_923
  have fr_924 := hfr_w fr_923 f_924 l_924 (by decide)
  have g_924_66 := (f_924 66 (by decide)).trans g_923_66
  have g_924_67 := (f_924 67 (by decide)).trans g_923_67
  have g_924_68 := (f_924 68 (by decide)).trans g_923_68
  have g_924_69 := (f_924 69 (by decide)).trans g_923_69
  have g_924_77 := (f_924 77 (by decide)).trans g_923_77
  have g_924_78 := (f_924 78 (by decide)).trans g_923_78
  have g_924_79 := (f_924 79 (by decide)).trans g_923_79
  have g_924_80 := (f_924 80 (by decide)).trans g_923_80
  have g_924_81 := (f_924 81 (by decide)).trans g_923_81
  have g_924_82 := (f_924 82 (by decide)).trans g_923_82
  have g_924_83 := (f_924 83 (by decide)).trans g_923_83
  have g_924_70 : cE h_924 70 (.inl (.int, fA [ka, p + 1, 0, kb, p + 0, 0])) := e_924
  refine ik_Wk 1 (pc' := 84) (loc' := [some (.ref 66), some (fI p), some (fI 2), some (fI pa), some (fI fa), some (fI pb), some (fI fb), some (fI 1), some (fI 0)]) (st' := [.ref 66]) (h' := h_924) (cl' := 0) (sl' := 0) rfl ?_
  refine fw_gf rfl rfl g_924_66 rfl ?_
  refine ik_Wk 2 (pc' := 90) (loc' := [some (.ref 66), some (fI p), some (fI 2), some (fI pa), some (fI fa), some (fI pb), some (fI fb), some (fI 1), some (fI 0)]) (st' := [fI 1, fI 3, .ref 83]) (h' := h_924) (cl' := 0) (sl' := 0) rfl ?_
  refine fw_mul rfl ?_
  refine ik_Wk 1 (pc' := 93) (loc' := [some (.ref 66), some (fI p), some (fI 2), some (fI pa), some (fI fa), some (fI pb), some (fI fb), some (fI 1), some (fI 0)]) (st' := [fI 0, fI 3, .ref 83]) (h' := h_924) (cl' := 0) (sl' := 0) rfl ?_
  refine fw_add rfl ?_
  refine ik_Wk 2 (pc' := 96) (loc' := [some (.ref 66), some (fI p), some (fI 2), some (fI pa), some (fI fa), some (fI pb), some (fI fb), some (fI 1), some (fI 0)]) (st' := [fI 0, .ref 66, fI 3, .ref 83]) (h' := h_924) (cl' := 0) (sl' := 0) rfl ?_
  refine fw_call 169 2 0 [.ref 66, fI 0] [fI 3, .ref 83] rfl rfl rfl (by decide) rfl rfl (fw_rec k_924 rfl g_924_66 rfl (by decide)) (cr_laterOf (pl := pl) (f := fun j => ([0, 0, 0, 0, 0, 0, 0, (f 7), (f 8), 0, (f 10), (f 11), (f 12), (f 13), (f 14), (f 15), (f 16), (f 17), 0, 0, 0, 0, 0, 0, w'_921, 0, 0, 0, 0, 0, 0, 0, (f 32), (f 33), 0, 0, (f 36), 0, 0, 0, 0, 0, 0] : List Int).getD j 0) (s := s) (cn := cn) (go := go) (ch := ch) (gt := gt'_921) (gd := gd'_921) (xs := xs'_921) (ys := ys'_921) (ka := ka) (pa := p + 1) (fa := 0) (kb := kb) (pb := p + 0) (fb := 0) (r1 := r1'_921) (r2 := r2'_921) (wh := 0) (by omega) (by omega) q2 q3 q4 (by omega) (by omega) (by omega) (by omega) (by omega) (by omega) (by omega) g_924_66 g_924_67 n67 g_924_68 n68 g_924_69 n69 g_924_77 m_921_77 g_924_78 m_921_78 g_924_79 m_921_79 g_924_80 m_921_80 g_924_70 g_924_81 m_921_81 g_924_82 m_921_82 k_924) ?_
  rintro _ h_925 ⟨w'_925, gt'_925, gd'_925, xs'_925, ys'_925, r1'_925, r2'_925, rfl, e_925_66, e_925_77, m_925_77, e_925_78, m_925_78, e_925_79, m_925_79, e_925_80, m_925_80, e_925_81, m_925_81, e_925_82, m_925_82, F_925⟩
  have k_925 := F_925.1.trans k_924
  have fr_925 := hfr_c fr_924 F_925 (by decide)
  have g_925_67 := (F_925.2 67 (by decide +kernel)).trans g_924_67
  have g_925_68 := (F_925.2 68 (by decide +kernel)).trans g_924_68
  have g_925_69 := (F_925.2 69 (by decide +kernel)).trans g_924_69
  have g_925_70 := (F_925.2 70 (by decide +kernel)).trans g_924_70
  have g_925_83 := (F_925.2 83 (by decide +kernel)).trans g_924_83
  have g_925_66 : cE h_925 66 (.inr (10, [fI pl, .ref 67, .ref 68, .ref 69, fI ((s : Nat) : Int), .ref 70, .ref 71, fI (f 7), fI (f 8), .ref 72, fI (f 10), fI (f 11), fI (f 12), fJ (f 13), fI (f 14), fI (f 15), fI (f 16), fI (f 17), .ref 73, .ref 74, .ref 75, .ref 76, .ref 77, .ref 78, fI w'_925, .ref 79, .ref 80, .ref 81, .ref 82, .ref 83, .ref 84, .ref 85, fJ (f 32), fJ (f 33), .ref 86, .ref 87, fI (f 36), .ref 88, .ref 89, .ref 90, .ref 91, .ref 92, .ref 93])) := e_925_66
  have g_925_77 : cE h_925 77 (.inl (.int, fA gt'_925)) := e_925_77
  have g_925_78 : cE h_925 78 (.inl (.int, fA gd'_925)) := e_925_78
  have g_925_79 : cE h_925 79 (.inl (.long, fL xs'_925)) := e_925_79
  have g_925_80 : cE h_925 80 (.inl (.long, fL ys'_925)) := e_925_80
  have g_925_81 : cE h_925 81 (.inl (.long, fL r1'_925)) := e_925_81
  have g_925_82 : cE h_925 82 (.inl (.long, fL r2'_925)) := e_925_82
  refine ik_Wk 0 (pc' := 99) (loc' := [some (.ref 66), some (fI p), some (fI 2), some (fI pa), some (fI fa), some (fI pb), some (fI fb), some (fI 1), some (fI 0)]) (st' := [fI (mr_w (mf_cm (fun x => mx_w cn go ch s x) (pl - 1) ka (p + 1)) 0 (mf_cm (fun x => mx_w cn go ch s x) (pl - 1) kb (p + 0)) 0 0), fI 3, .ref 83]) (h' := h_925) (cl' := 0) (sl' := 0) rfl ?_
  have wb_925 : 0 ≤ mr_w (mf_cm (fun x => mx_w cn go ch s x) (pl - 1) ka (p + 1)) 0 (mf_cm (fun x => mx_w cn go ch s x) (pl - 1) kb (p + 0)) 0 0 ∧ mr_w (mf_cm (fun x => mx_w cn go ch s x) (pl - 1) ka (p + 1)) 0 (mf_cm (fun x => mx_w cn go ch s x) (pl - 1) kb (p + 0)) 0 0 ≤ 1000000 := mr_w_b (mr_ok_cm (W := (fun x => mx_w cn go ch s x)) (k := ka) q4 (show 0 ≤ p + 1 ∧ p + 1 < pl - 1 by omega)) (mr_ok_cm (W := (fun x => mx_w cn go ch s x)) (k := kb) q4 (show 0 ≤ p + 0 ∧ p + 0 < pl - 1 by omega)) (by decide) (by decide) 0
  refine fw_si rfl (by decide) ?_
  refine fx_idiv rfl (by omega) (by omega) (by omega) (by omega) ?_
  refine fw_i2l rfl (by omega) (by omega) ?_
  have hl9 : (((fr.set (0 : Int).toNat ((mr_w (mf_cm (fun x => mx_w cn go ch s x) (pl - 1) ka (p + 0)) 0 (mf_cm (fun x => mx_w cn go ch s x) (pl - 1) kb (p + 0)) 0 0) / 1000)).set (1 : Int).toNat ((mr_w (mf_cm (fun x => mx_w cn go ch s x) (pl - 1) ka (p + 0)) 0 (mf_cm (fun x => mx_w cn go ch s x) (pl - 1) kb (p + 1)) 0 0) / 1000)).set (3 : Int).toNat ((mr_w (mf_cm (fun x => mx_w cn go ch s x) (pl - 1) ka (p + 1)) 0 (mf_cm (fun x => mx_w cn go ch s x) (pl - 1) kb (p + 0)) 0 0) / 1000)).length = 9 := (List.length_set ..).trans hl5
  refine fx_las rfl g_925_83 (by omega) (by omega) (by omega) ?_
  intro h_926 e_926 f_926 l_926
  have k_926 := l_926.trans k_925
  have fr_926 := hfr_w fr_925 f_926 l_926 (by decide)
  have g_926_66 := (f_926 66 (by decide)).trans g_925_66
  have g_926_67 := (f_926 67 (by decide)).trans g_925_67
  have g_926_68 := (f_926 68 (by decide)).trans g_925_68
  have g_926_69 := (f_926 69 (by decide)).trans g_925_69
  have g_926_77 := (f_926 77 (by decide)).trans g_925_77
  have g_926_78 := (f_926 78 (by decide)).trans g_925_78
  have g_926_79 := (f_926 79 (by decide)).trans g_925_79
  have g_926_80 := (f_926 80 (by decide)).trans g_925_80
  have g_926_70 := (f_926 70 (by decide)).trans g_925_70
  have g_926_81 := (f_926 81 (by decide)).trans g_925_81
  have g_926_82 := (f_926 82 (by decide)).trans g_925_82
  have g_926_83 : cE h_926 83 (.inl (.long, fL (((fr.set (0 : Int).toNat ((mr_w (mf_cm (fun x => mx_w cn go ch s x) (pl - 1) ka (p + 0)) 0 (mf_cm (fun x => mx_w cn go ch s x) (pl - 1) kb (p + 0)) 0 0) / 1000)).set (1 : Int).toNat ((mr_w (mf_cm (fun x => mx_w cn go ch s x) (pl - 1) ka (p + 0)) 0 (mf_cm (fun x => mx_w cn go ch s x) (pl - 1) kb (p + 1)) 0 0) / 1000)).set (3 : Int).toNat ((mr_w (mf_cm (fun x => mx_w cn go ch s x) (pl - 1) ka (p + 1)) 0 (mf_cm (fun x => mx_w cn go ch s x) (pl - 1) kb (p + 0)) 0 0) / 1000)))) := e_926
  refine fw_inc (a := 0) (loc' := [some (.ref 66), some (fI p), some (fI 2), some (fI pa), some (fI fa), some (fI pb), some (fI fb), some (fI 1), some (fI 1)]) rfl rfl (Nat.le_of_ble_eq_true rfl) rfl ?_
  refine ik_Wk 3 (pc' := 60) (loc' := [some (.ref 66), some (fI p), some (fI 2), some (fI pa), some (fI fa), some (fI pb), some (fI fb), some (fI 1), some (fI 1)]) (st' := [fI 2, fI 1]) (h' := h_926) (cl' := 0) (sl' := 0) rfl ?_
  refine fw_ic_ge rfl rfl (by omega) (by omega) (by omega) (by omega) (fun hc10 => absurd hc10 (by omega)) (fun hc10 => ?_)
  refine ik_Wk 1 (pc' := 64) (loc' := [some (.ref 66), some (fI p), some (fI 2), some (fI pa), some (fI fa), some (fI pb), some (fI fb), some (fI 1), some (fI 1)]) (st' := [.ref 66]) (h' := h_926) (cl' := 0) (sl' := 0) rfl ?_
  refine fw_gf rfl rfl g_926_66 rfl ?_
  refine ik_Wk 3 (pc' := 71) (loc' := [some (.ref 66), some (fI p), some (fI 2), some (fI pa), some (fI fa), some (fI pb), some (fI fb), some (fI 1), some (fI 1)]) (st' := [fI 1, fI p, fI 1, .ref 70]) (h' := h_926) (cl' := 0) (sl' := 0) rfl ?_
  refine fw_add rfl ?_
  refine fx_ias (z := 1) rfl g_926_70 (by decide) (Nat.le_of_ble_eq_true rfl) (by decide) ?_
  intro h_927 e_927 f_927 l_927
  have k_927 := l_927.trans k_926
  have fr_927 := hfr_w fr_926 f_927 l_927 (by decide)
  have g_927_66 := (f_927 66 (by decide)).trans g_926_66
  have g_927_67 := (f_927 67 (by decide)).trans g_926_67
  have g_927_68 := (f_927 68 (by decide)).trans g_926_68
  have g_927_69 := (f_927 69 (by decide)).trans g_926_69
  have g_927_77 := (f_927 77 (by decide)).trans g_926_77
  have g_927_78 := (f_927 78 (by decide)).trans g_926_78
  have g_927_79 := (f_927 79 (by decide)).trans g_926_79
  have g_927_80 := (f_927 80 (by decide)).trans g_926_80
  have g_927_81 := (f_927 81 (by decide)).trans g_926_81
  have g_927_82 := (f_927 82 (by decide)).trans g_926_82
  have g_927_83 := (f_927 83 (by decide)).trans g_926_83
  have g_927_70 : cE h_927 70 (.inl (.int, fA [ka, p + 1, 0, kb, p + 0, 0])) := e_927
  refine ik_Wk 1 (pc' := 74) (loc' := [some (.ref 66), some (fI p), some (fI 2), some (fI pa), some (fI fa), some (fI pb), some (fI fb), some (fI 1), some (fI 1)]) (st' := [.ref 66]) (h' := h_927) (cl' := 0) (sl' := 0) rfl ?_
  refine fw_gf rfl rfl g_927_66 rfl ?_
  refine ik_Wk 3 (pc' := 81) (loc' := [some (.ref 66), some (fI p), some (fI 2), some (fI pa), some (fI fa), some (fI pb), some (fI fb), some (fI 1), some (fI 1)]) (st' := [fI 1, fI p, fI 4, .ref 70]) (h' := h_927) (cl' := 0) (sl' := 0) rfl ?_
  refine fw_add rfl ?_
  refine fx_ias (z := 4) rfl g_927_70 (by decide) (Nat.le_of_ble_eq_true rfl) (by decide) ?_
  intro h_928 e_928 f_928 l_928
  have k_928 := l_928.trans k_927
  have fr_928 := hfr_w fr_927 f_928 l_928 (by decide)
  have g_928_66 := (f_928 66 (by decide)).trans g_927_66
  have g_928_67 := (f_928 67 (by decide)).trans g_927_67
  have g_928_68 := (f_928 68 (by decide)).trans g_927_68
  have g_928_69 := (f_928 69 (by decide)).trans g_927_69
  have g_928_77 := (f_928 77 (by decide)).trans g_927_77
  have g_928_78 := (f_928 78 (by decide)).trans g_927_78
  have g_928_79 := (f_928 79 (by decide)).trans g_927_79
  have g_928_80 := (f_928 80 (by decide)).trans g_927_80
  have g_928_81 := (f_928 81 (by decide)).trans g_927_81
  have g_928_82 := (f_928 82 (by decide)).trans g_927_82
  have g_928_83 := (f_928 83 (by decide)).trans g_927_83
  have g_928_70 : cE h_928 70 (.inl (.int, fA [ka, p + 1, 0, kb, p + 1, 0])) := e_928
  refine ik_Wk 1 (pc' := 84) (loc' := [some (.ref 66), some (fI p), some (fI 2), some (fI pa), some (fI fa), some (fI pb), some (fI fb), some (fI 1), some (fI 1)]) (st' := [.ref 66]) (h' := h_928) (cl' := 0) (sl' := 0) rfl ?_
  refine fw_gf rfl rfl g_928_66 rfl ?_
  refine ik_Wk 2 (pc' := 90) (loc' := [some (.ref 66), some (fI p), some (fI 2), some (fI pa), some (fI fa), some (fI pb), some (fI fb), some (fI 1), some (fI 1)]) (st' := [fI 1, fI 3, .ref 83]) (h' := h_928) (cl' := 0) (sl' := 0) rfl ?_
  refine fw_mul rfl ?_
  refine ik_Wk 1 (pc' := 93) (loc' := [some (.ref 66), some (fI p), some (fI 2), some (fI pa), some (fI fa), some (fI pb), some (fI fb), some (fI 1), some (fI 1)]) (st' := [fI 1, fI 3, .ref 83]) (h' := h_928) (cl' := 0) (sl' := 0) rfl ?_
  refine fw_add rfl ?_
  refine ik_Wk 2 (pc' := 96) (loc' := [some (.ref 66), some (fI p), some (fI 2), some (fI pa), some (fI fa), some (fI pb), some (fI fb), some (fI 1), some (fI 1)]) (st' := [fI 0, .ref 66, fI 4, .ref 83]) (h' := h_928) (cl' := 0) (sl' := 0) rfl ?_
  refine fw_call 169 2 0 [.ref 66, fI 0] [fI 4, .ref 83] rfl rfl rfl (by decide) rfl rfl (fw_rec k_928 rfl g_928_66 rfl (by decide)) (cr_laterOf (pl := pl) (f := fun j => ([0, 0, 0, 0, 0, 0, 0, (f 7), (f 8), 0, (f 10), (f 11), (f 12), (f 13), (f 14), (f 15), (f 16), (f 17), 0, 0, 0, 0, 0, 0, w'_925, 0, 0, 0, 0, 0, 0, 0, (f 32), (f 33), 0, 0, (f 36), 0, 0, 0, 0, 0, 0] : List Int).getD j 0) (s := s) (cn := cn) (go := go) (ch := ch) (gt := gt'_925) (gd := gd'_925) (xs := xs'_925) (ys := ys'_925) (ka := ka) (pa := p + 1) (fa := 0) (kb := kb) (pb := p + 1) (fb := 0) (r1 := r1'_925) (r2 := r2'_925) (wh := 0) (by omega) (by omega) q2 q3 q4 (by omega) (by omega) (by omega) (by omega) (by omega) (by omega) (by omega) g_928_66 g_928_67 n67 g_928_68 n68 g_928_69 n69 g_928_77 m_925_77 g_928_78 m_925_78 g_928_79 m_925_79 g_928_80 m_925_80 g_928_70 g_928_81 m_925_81 g_928_82 m_925_82 k_928) ?_
  rintro _ h_929 ⟨w'_929, gt'_929, gd'_929, xs'_929, ys'_929, r1'_929, r2'_929, rfl, e_929_66, e_929_77, m_929_77, e_929_78, m_929_78, e_929_79, m_929_79, e_929_80, m_929_80, e_929_81, m_929_81, e_929_82, m_929_82, F_929⟩
  have k_929 := F_929.1.trans k_928
  have fr_929 := hfr_c fr_928 F_929 (by decide)
  have g_929_67 := (F_929.2 67 (by decide +kernel)).trans g_928_67
  have g_929_68 := (F_929.2 68 (by decide +kernel)).trans g_928_68
  have g_929_69 := (F_929.2 69 (by decide +kernel)).trans g_928_69
  have g_929_70 := (F_929.2 70 (by decide +kernel)).trans g_928_70
  have g_929_83 := (F_929.2 83 (by decide +kernel)).trans g_928_83
  have g_929_66 : cE h_929 66 (.inr (10, [fI pl, .ref 67, .ref 68, .ref 69, fI ((s : Nat) : Int), .ref 70, .ref 71, fI (f 7), fI (f 8), .ref 72, fI (f 10), fI (f 11), fI (f 12), fJ (f 13), fI (f 14), fI (f 15), fI (f 16), fI (f 17), .ref 73, .ref 74, .ref 75, .ref 76, .ref 77, .ref 78, fI w'_929, .ref 79, .ref 80, .ref 81, .ref 82, .ref 83, .ref 84, .ref 85, fJ (f 32), fJ (f 33), .ref 86, .ref 87, fI (f 36), .ref 88, .ref 89, .ref 90, .ref 91, .ref 92, .ref 93])) := e_929_66
  have g_929_77 : cE h_929 77 (.inl (.int, fA gt'_929)) := e_929_77
  have g_929_78 : cE h_929 78 (.inl (.int, fA gd'_929)) := e_929_78
  have g_929_79 : cE h_929 79 (.inl (.long, fL xs'_929)) := e_929_79
  have g_929_80 : cE h_929 80 (.inl (.long, fL ys'_929)) := e_929_80
  have g_929_81 : cE h_929 81 (.inl (.long, fL r1'_929)) := e_929_81
  have g_929_82 : cE h_929 82 (.inl (.long, fL r2'_929)) := e_929_82
  refine ik_Wk 0 (pc' := 99) (loc' := [some (.ref 66), some (fI p), some (fI 2), some (fI pa), some (fI fa), some (fI pb), some (fI fb), some (fI 1), some (fI 1)]) (st' := [fI (mr_w (mf_cm (fun x => mx_w cn go ch s x) (pl - 1) ka (p + 1)) 0 (mf_cm (fun x => mx_w cn go ch s x) (pl - 1) kb (p + 1)) 0 0), fI 4, .ref 83]) (h' := h_929) (cl' := 0) (sl' := 0) rfl ?_
  have wb_929 : 0 ≤ mr_w (mf_cm (fun x => mx_w cn go ch s x) (pl - 1) ka (p + 1)) 0 (mf_cm (fun x => mx_w cn go ch s x) (pl - 1) kb (p + 1)) 0 0 ∧ mr_w (mf_cm (fun x => mx_w cn go ch s x) (pl - 1) ka (p + 1)) 0 (mf_cm (fun x => mx_w cn go ch s x) (pl - 1) kb (p + 1)) 0 0 ≤ 1000000 := mr_w_b (mr_ok_cm (W := (fun x => mx_w cn go ch s x)) (k := ka) q4 (show 0 ≤ p + 1 ∧ p + 1 < pl - 1 by omega)) (mr_ok_cm (W := (fun x => mx_w cn go ch s x)) (k := kb) q4 (show 0 ≤ p + 1 ∧ p + 1 < pl - 1 by omega)) (by decide) (by decide) 0
  refine fw_si rfl (by decide) ?_
  refine fx_idiv rfl (by omega) (by omega) (by omega) (by omega) ?_
  refine fw_i2l rfl (by omega) (by omega) ?_
  have hl11 : ((((fr.set (0 : Int).toNat ((mr_w (mf_cm (fun x => mx_w cn go ch s x) (pl - 1) ka (p + 0)) 0 (mf_cm (fun x => mx_w cn go ch s x) (pl - 1) kb (p + 0)) 0 0) / 1000)).set (1 : Int).toNat ((mr_w (mf_cm (fun x => mx_w cn go ch s x) (pl - 1) ka (p + 0)) 0 (mf_cm (fun x => mx_w cn go ch s x) (pl - 1) kb (p + 1)) 0 0) / 1000)).set (3 : Int).toNat ((mr_w (mf_cm (fun x => mx_w cn go ch s x) (pl - 1) ka (p + 1)) 0 (mf_cm (fun x => mx_w cn go ch s x) (pl - 1) kb (p + 0)) 0 0) / 1000)).set (4 : Int).toNat ((mr_w (mf_cm (fun x => mx_w cn go ch s x) (pl - 1) ka (p + 1)) 0 (mf_cm (fun x => mx_w cn go ch s x) (pl - 1) kb (p + 1)) 0 0) / 1000)).length = 9 := (List.length_set ..).trans hl9
  refine fx_las rfl g_929_83 (by omega) (by omega) (by omega) ?_
  intro h_930 e_930 f_930 l_930
  have k_930 := l_930.trans k_929
  have fr_930 := hfr_w fr_929 f_930 l_930 (by decide)
  have g_930_66 := (f_930 66 (by decide)).trans g_929_66
  have g_930_67 := (f_930 67 (by decide)).trans g_929_67
  have g_930_68 := (f_930 68 (by decide)).trans g_929_68
  have g_930_69 := (f_930 69 (by decide)).trans g_929_69
  have g_930_77 := (f_930 77 (by decide)).trans g_929_77
  have g_930_78 := (f_930 78 (by decide)).trans g_929_78
  have g_930_79 := (f_930 79 (by decide)).trans g_929_79
  have g_930_80 := (f_930 80 (by decide)).trans g_929_80
  have g_930_70 := (f_930 70 (by decide)).trans g_929_70
  have g_930_81 := (f_930 81 (by decide)).trans g_929_81
  have g_930_82 := (f_930 82 (by decide)).trans g_929_82
  have g_930_83 : cE h_930 83 (.inl (.long, fL ((((fr.set (0 : Int).toNat ((mr_w (mf_cm (fun x => mx_w cn go ch s x) (pl - 1) ka (p + 0)) 0 (mf_cm (fun x => mx_w cn go ch s x) (pl - 1) kb (p + 0)) 0 0) / 1000)).set (1 : Int).toNat ((mr_w (mf_cm (fun x => mx_w cn go ch s x) (pl - 1) ka (p + 0)) 0 (mf_cm (fun x => mx_w cn go ch s x) (pl - 1) kb (p + 1)) 0 0) / 1000)).set (3 : Int).toNat ((mr_w (mf_cm (fun x => mx_w cn go ch s x) (pl - 1) ka (p + 1)) 0 (mf_cm (fun x => mx_w cn go ch s x) (pl - 1) kb (p + 0)) 0 0) / 1000)).set (4 : Int).toNat ((mr_w (mf_cm (fun x => mx_w cn go ch s x) (pl - 1) ka (p + 1)) 0 (mf_cm (fun x => mx_w cn go ch s x) (pl - 1) kb (p + 1)) 0 0) / 1000)))) := e_930
  refine fw_inc (a := 1) (loc' := [some (.ref 66), some (fI p), some (fI 2), some (fI pa), some (fI fa), some (fI pb), some (fI fb), some (fI 1), some (fI 2)]) rfl rfl (Nat.le_of_ble_eq_true rfl) rfl ?_
  refine ik_Wk 3 (pc' := 60) (loc' := [some (.ref 66), some (fI p), some (fI 2), some (fI pa), some (fI fa), some (fI pb), some (fI fb), some (fI 1), some (fI 2)]) (st' := [fI 2, fI 2]) (h' := h_930) (cl' := 0) (sl' := 0) rfl ?_
  refine fw_ic_ge rfl rfl (by omega) (by omega) (by omega) (by omega) (fun hc12 => ?_) (fun hc12 => absurd hc12 (by omega))
  refine fw_inc (a := 1) (loc' := [some (.ref 66), some (fI p), some (fI 2), some (fI pa), some (fI fa), some (fI pb), some (fI fb), some (fI 2), some (fI 2)]) rfl rfl (Nat.le_of_ble_eq_true rfl) rfl ?_
  refine ik_Wk 3 (pc' := 51) (loc' := [some (.ref 66), some (fI p), some (fI 2), some (fI pa), some (fI fa), some (fI pb), some (fI fb), some (fI 2), some (fI 2)]) (st' := [fI 2, fI 2]) (h' := h_930) (cl' := 0) (sl' := 0) rfl ?_
  refine fw_ic_ge rfl rfl (by omega) (by omega) (by omega) (by omega) (fun hc13 => ?_) (fun hc13 => absurd hc13 (by omega))
  refine ik_Wk 1 (pc' := 118) (loc' := [some (.ref 66), some (fI p), some (fI 2), some (fI pa), some (fI fa), some (fI pb), some (fI fb), some (fI 2), some (fI 2)]) (st' := [.ref 66]) (h' := h_930) (cl' := 0) (sl' := 0) rfl ?_
  refine fw_gf rfl rfl g_930_66 rfl ?_
  refine ik_Wk 2 (pc' := 123) (loc' := [some (.ref 66), some (fI p), some (fI 2), some (fI pa), some (fI fa), some (fI pb), some (fI fb), some (fI 2), some (fI 2)]) (st' := [fI pa, fI 1, .ref 70]) (h' := h_930) (cl' := 0) (sl' := 0) rfl ?_
  refine fx_ias (z := 1) rfl g_930_70 (by decide) (Nat.le_of_ble_eq_true rfl) (by decide) ?_
  intro h_931 e_931 f_931 l_931
  have k_931 := l_931.trans k_930
  have fr_931 := hfr_w fr_930 f_931 l_931 (by decide)
  have g_931_66 := (f_931 66 (by decide)).trans g_930_66
  have g_931_67 := (f_931 67 (by decide)).trans g_930_67
  have g_931_68 := (f_931 68 (by decide)).trans g_930_68
  have g_931_69 := (f_931 69 (by decide)).trans g_930_69
  have g_931_77 := (f_931 77 (by decide)).trans g_930_77
  have g_931_78 := (f_931 78 (by decide)).trans g_930_78
  have g_931_79 := (f_931 79 (by decide)).trans g_930_79
  have g_931_80 := (f_931 80 (by decide)).trans g_930_80
  have g_931_81 := (f_931 81 (by decide)).trans g_930_81
  have g_931_82 := (f_931 82 (by decide)).trans g_930_82
  have g_931_83 := (f_931 83 (by decide)).trans g_930_83
  have g_931_70 : cE h_931 70 (.inl (.int, fA [ka, pa, 0, kb, p + 1, 0])) := e_931
  refine ik_Wk 1 (pc' := 125) (loc' := [some (.ref 66), some (fI p), some (fI 2), some (fI pa), some (fI fa), some (fI pb), some (fI fb), some (fI 2), some (fI 2)]) (st' := [.ref 66]) (h' := h_931) (cl' := 0) (sl' := 0) rfl ?_
  refine fw_gf rfl rfl g_931_66 rfl ?_
  refine ik_Wk 2 (pc' := 131) (loc' := [some (.ref 66), some (fI p), some (fI 2), some (fI pa), some (fI fa), some (fI pb), some (fI fb), some (fI 2), some (fI 2)]) (st' := [fI fa, fI 2, .ref 70]) (h' := h_931) (cl' := 0) (sl' := 0) rfl ?_
  refine fx_ias (z := 2) rfl g_931_70 (by decide) (Nat.le_of_ble_eq_true rfl) (by decide) ?_
  intro h_932 e_932 f_932 l_932
  have k_932 := l_932.trans k_931
  have fr_932 := hfr_w fr_931 f_932 l_932 (by decide)
  have g_932_66 := (f_932 66 (by decide)).trans g_931_66
  have g_932_67 := (f_932 67 (by decide)).trans g_931_67
  have g_932_68 := (f_932 68 (by decide)).trans g_931_68
  have g_932_69 := (f_932 69 (by decide)).trans g_931_69
  have g_932_77 := (f_932 77 (by decide)).trans g_931_77
  have g_932_78 := (f_932 78 (by decide)).trans g_931_78
  have g_932_79 := (f_932 79 (by decide)).trans g_931_79
  have g_932_80 := (f_932 80 (by decide)).trans g_931_80
  have g_932_81 := (f_932 81 (by decide)).trans g_931_81
  have g_932_82 := (f_932 82 (by decide)).trans g_931_82
  have g_932_83 := (f_932 83 (by decide)).trans g_931_83
  have g_932_70 : cE h_932 70 (.inl (.int, fA [ka, pa, fa, kb, p + 1, 0])) := e_932
  refine ik_Wk 1 (pc' := 133) (loc' := [some (.ref 66), some (fI p), some (fI 2), some (fI pa), some (fI fa), some (fI pb), some (fI fb), some (fI 2), some (fI 2)]) (st' := [.ref 66]) (h' := h_932) (cl' := 0) (sl' := 0) rfl ?_
  refine fw_gf rfl rfl g_932_66 rfl ?_
  refine ik_Wk 2 (pc' := 139) (loc' := [some (.ref 66), some (fI p), some (fI 2), some (fI pa), some (fI fa), some (fI pb), some (fI fb), some (fI 2), some (fI 2)]) (st' := [fI pb, fI 4, .ref 70]) (h' := h_932) (cl' := 0) (sl' := 0) rfl ?_
  refine fx_ias (z := 4) rfl g_932_70 (by decide) (Nat.le_of_ble_eq_true rfl) (by decide) ?_
  intro h_933 e_933 f_933 l_933
  have k_933 := l_933.trans k_932
  have fr_933 := hfr_w fr_932 f_933 l_933 (by decide)
  have g_933_66 := (f_933 66 (by decide)).trans g_932_66
  have g_933_67 := (f_933 67 (by decide)).trans g_932_67
  have g_933_68 := (f_933 68 (by decide)).trans g_932_68
  have g_933_69 := (f_933 69 (by decide)).trans g_932_69
  have g_933_77 := (f_933 77 (by decide)).trans g_932_77
  have g_933_78 := (f_933 78 (by decide)).trans g_932_78
  have g_933_79 := (f_933 79 (by decide)).trans g_932_79
  have g_933_80 := (f_933 80 (by decide)).trans g_932_80
  have g_933_81 := (f_933 81 (by decide)).trans g_932_81
  have g_933_82 := (f_933 82 (by decide)).trans g_932_82
  have g_933_83 := (f_933 83 (by decide)).trans g_932_83
  have g_933_70 : cE h_933 70 (.inl (.int, fA [ka, pa, fa, kb, pb, 0])) := e_933
  refine ik_Wk 1 (pc' := 141) (loc' := [some (.ref 66), some (fI p), some (fI 2), some (fI pa), some (fI fa), some (fI pb), some (fI fb), some (fI 2), some (fI 2)]) (st' := [.ref 66]) (h' := h_933) (cl' := 0) (sl' := 0) rfl ?_
  refine fw_gf rfl rfl g_933_66 rfl ?_
  refine ik_Wk 2 (pc' := 147) (loc' := [some (.ref 66), some (fI p), some (fI 2), some (fI pa), some (fI fa), some (fI pb), some (fI fb), some (fI 2), some (fI 2)]) (st' := [fI fb, fI 5, .ref 70]) (h' := h_933) (cl' := 0) (sl' := 0) rfl ?_
  refine fx_ias (z := 5) rfl g_933_70 (by decide) (Nat.le_of_ble_eq_true rfl) (by decide) ?_
  intro h_934 e_934 f_934 l_934
  have k_934 := l_934.trans k_933
  have fr_934 := hfr_w fr_933 f_934 l_934 (by decide)
  have g_934_66 := (f_934 66 (by decide)).trans g_933_66
  have g_934_67 := (f_934 67 (by decide)).trans g_933_67
  have g_934_68 := (f_934 68 (by decide)).trans g_933_68
  have g_934_69 := (f_934 69 (by decide)).trans g_933_69
  have g_934_77 := (f_934 77 (by decide)).trans g_933_77
  have g_934_78 := (f_934 78 (by decide)).trans g_933_78
  have g_934_79 := (f_934 79 (by decide)).trans g_933_79
  have g_934_80 := (f_934 80 (by decide)).trans g_933_80
  have g_934_81 := (f_934 81 (by decide)).trans g_933_81
  have g_934_82 := (f_934 82 (by decide)).trans g_933_82
  have g_934_83 := (f_934 83 (by decide)).trans g_933_83
  have g_934_70 : cE h_934 70 (.inl (.int, fA [ka, pa, fa, kb, pb, fb])) := e_934
  exact ik_Wret rfl rfl ⟨_, _, rfl, rfl, rfl, rfl, ⟨w'_929, gt'_929, gd'_929, xs'_929, ys'_929, r1'_929, r2'_929, ((((fr.set (0 : Int).toNat ((mr_w (mf_cm (fun x => mx_w cn go ch s x) (pl - 1) ka (p + 0)) 0 (mf_cm (fun x => mx_w cn go ch s x) (pl - 1) kb (p + 0)) 0 0) / 1000)).set (1 : Int).toNat ((mr_w (mf_cm (fun x => mx_w cn go ch s x) (pl - 1) ka (p + 0)) 0 (mf_cm (fun x => mx_w cn go ch s x) (pl - 1) kb (p + 1)) 0 0) / 1000)).set (3 : Int).toNat ((mr_w (mf_cm (fun x => mx_w cn go ch s x) (pl - 1) ka (p + 1)) 0 (mf_cm (fun x => mx_w cn go ch s x) (pl - 1) kb (p + 0)) 0 0) / 1000)).set (4 : Int).toNat ((mr_w (mf_cm (fun x => mx_w cn go ch s x) (pl - 1) ka (p + 1)) 0 (mf_cm (fun x => mx_w cn go ch s x) (pl - 1) kb (p + 1)) 0 0) / 1000)), rfl, g_934_66, g_934_77, m_929_77, g_934_78, m_929_78, g_934_79, m_929_79, g_934_80, m_929_80, g_934_81, m_929_81, g_934_82, m_929_82, g_934_70, g_934_83, hl11, fr_934⟩⟩
end
