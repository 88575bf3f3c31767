noncomputable section
theorem cr_fears1 {h : List ik_E} {pl : Int} {f : Nat → Int} {s : Nat} {cn : List Int} {go : List Int} {ch : List Int} {gt : List Int} {gd : List Int} {xs : List Int} {ys : List Int} {ka : Int} {pa : Int} {fa : Int} {kb : Int} {pb : Int} {fb : Int} {r1 : List Int} {r2 : List Int} {p : Int} {fr : List Int} (q0 : 1 ≤ pl ∧ pl ≤ 12) (q1 : s < 4096) (q2 : ∀ x : Int, (0 : Int) ≤ x → x < pl - 1 → 0 ≤ cn.getD x.toNat 0 ∧ cn.getD x.toNat 0 ≤ 4) (q3 : ∀ x : Int, (0 : Int) ≤ x → x < pl - 1 → 1 ≤ cn.getD x.toNat 0 ∧ ∀ j : Int, 4 * x ≤ j → j < 4 * x + cn.getD x.toNat 0 → 0 ≤ ch.getD j.toNat 0 ∧ ch.getD j.toNat 0 ≤ 100) (q4 : ∀ x : Int, (0 : Int) ≤ x → x < pl - 1 → mx_ok pl (mx_w cn go ch s x)) (q5 : (0 : Int) ≤ ka ∧ ka ≤ (2 : Int)) (q6 : (0 : Int) ≤ kb ∧ kb ≤ (2 : Int)) (q7 : (0 : Int) ≤ p ∧ p + 1 < pl) (h66 : cE h 66 (.inr (10, (fI pl :: .ref 67 :: .ref 68 :: .ref 69 :: fI ((s : Nat) : Int) :: .ref 70 :: .ref 71 :: fI (f 7) :: fI (f 8) :: .ref 72 :: fI (f 10) :: fI (f 11) :: fI (f 12) :: fJ (f 13) :: fI (f 14) :: fI (f 15) :: fI (f 16) :: fI (f 17) :: .ref 73 :: .ref 74 :: .ref 75 :: .ref 76 :: .ref 77 :: .ref 78 :: fI (f 24) :: .ref 79 :: .ref 80 :: .ref 81 :: .ref 82 :: .ref 83 :: .ref 84 :: .ref 85 :: fJ (f 32) :: fJ (f 33) :: .ref 86 :: .ref 87 :: fI (f 36) :: .ref 88 :: .ref 89 :: .ref 90 :: .ref 91 :: .ref 92 :: .ref 93 :: [])))) (h67 : cE h 67 (.inl (.int, fA cn))) (n67 : cn.length = (12 : Nat)) (h68 : cE h 68 (.inl (.int, fA go))) (n68 : go.length = (48 : Nat)) (h69 : cE h 69 (.inl (.int, fA ch))) (n69 : ch.length = (48 : Nat)) (h77 : cE h 77 (.inl (.int, fA gt))) (n77 : gt.length = (5 : Nat)) (h78 : cE h 78 (.inl (.int, fA gd))) (n78 : gd.length = (5 : Nat)) (h79 : cE h 79 (.inl (.long, fL xs))) (n79 : xs.length = (12 : Nat)) (h80 : cE h 80 (.inl (.long, fL ys))) (n80 : ys.length = (12 : Nat)) (h70 : cE h 70 (.inl (.int, fA [ka, pa, fa, kb, pb, fb]))) (h81 : cE h 81 (.inl (.long, fL r1))) (n81 : r1.length = (201 : Nat)) (h82 : cE h 82 (.inl (.long, fL r2))) (n82 : r2.length = (201 : Nat)) (h83 : cE h 83 (.inl (.long, fL fr))) (n83 : fr.length = (9 : Nat)) (hl : h.length = (94 : Nat)) : ik_F 178 [.ref 66, fI p, fI 1] h (fun rv h_q => ∃ (w' : Int) (gt' : List Int) (gd' : List Int) (xs' : List Int) (ys' : List Int) (r1' : List Int) (r2' : List Int) (fr' : List Int), rv = [] ∧ cE h_q 66 (.inr (10, (fI pl :: .ref 67 :: .ref 68 :: .ref 69 :: fI ((s : Nat) : Int) :: .ref 70 :: .ref 71 :: fI (f 7) :: fI (f 8) :: .ref 72 :: fI (f 10) :: fI (f 11) :: fI (f 12) :: fJ (f 13) :: fI (f 14) :: fI (f 15) :: fI (f 16) :: fI (f 17) :: .ref 73 :: .ref 74 :: .ref 75 :: .ref 76 :: .ref 77 :: .ref 78 :: fI w' :: .ref 79 :: .ref 80 :: .ref 81 :: .ref 82 :: .ref 83 :: .ref 84 :: .ref 85 :: fJ (f 32) :: fJ (f 33) :: .ref 86 :: .ref 87 :: fI (f 36) :: .ref 88 :: .ref 89 :: .ref 90 :: .ref 91 :: .ref 92 :: .ref 93 :: []))) ∧ cE h_q 77 (.inl (.int, fA gt')) ∧ gt'.length = (5 : Nat) ∧ cE h_q 78 (.inl (.int, fA gd')) ∧ gd'.length = (5 : Nat) ∧ cE h_q 79 (.inl (.long, fL xs')) ∧ xs'.length = (12 : Nat) ∧ cE h_q 80 (.inl (.long, fL ys')) ∧ ys'.length = (12 : Nat) ∧ cE h_q 81 (.inl (.long, fL r1')) ∧ r1'.length = (201 : Nat) ∧ cE h_q 82 (.inl (.long, fL r2')) ∧ r2'.length = (201 : Nat) ∧ cE h_q 70 (.inl (.int, fA [ka, pa, fa, kb, pb, fb])) ∧ cE h_q 83 (.inl (.long, fL fr')) ∧ fr'.length = (9 : Nat) ∧ hfr [66, 77, 78, 79, 80, 81, 82, 70, 83] h h_q) := by
  refine ik_Wk 1 (pc_q := 1) (loc_q := [some (.ref 66), some (fI p), some (fI 1), none, none, none, none, none, none]) (st_q := [.ref 66]) (h_q := h) (cl_q := 0) (sl_q := 0) rfl ?_
  refine fw_gf rfl rfl h66 rfl ?_
  refine ik_Wk 1 (pc_q := 5) (loc_q := [some (.ref 66), some (fI p), some (fI 1), none, none, none, none, none, none]) (st_q := [fI 1, .ref 70]) (h_q := h) (cl_q := 0) (sl_q := 0) rfl ?_
  refine fw_ial (z := 1) rfl h70 (by decide +kernel) (Nat.le_of_ble_eq_true rfl) (by decide +kernel) ?_
  refine ik_Wk 0 (pc_q := 6) (loc_q := [some (.ref 66), some (fI p), some (fI 1), none, none, none, none, none, none]) (st_q := [fI pa]) (h_q := h) (cl_q := 0) (sl_q := 0) rfl ?_
  refine ik_Wk 2 (pc_q := 8) (loc_q := [some (.ref 66), some (fI p), some (fI 1), some (fI pa), none, none, none, none, none]) (st_q := [.ref 66]) (h_q := h) (cl_q := 0) (sl_q := 0) rfl ?_
  refine fw_gf rfl rfl h66 rfl ?_
  refine ik_Wk 1 (pc_q := 12) (loc_q := [some (.ref 66), some (fI p), some (fI 1), some (fI pa), none, none, none, none, none]) (st_q := [fI 2, .ref 70]) (h_q := h) (cl_q := 0) (sl_q := 0) rfl ?_
  refine fw_ial (z := 2) rfl h70 (by decide +kernel) (Nat.le_of_ble_eq_true rfl) (by decide +kernel) ?_
  refine ik_Wk 0 (pc_q := 13) (loc_q := [some (.ref 66), some (fI p), some (fI 1), some (fI pa), none, none, none, none, none]) (st_q := [fI fa]) (h_q := h) (cl_q := 0) (sl_q := 0) rfl ?_
  refine ik_Wk 2 (pc_q := 16) (loc_q := [some (.ref 66), some (fI p), some (fI 1), some (fI pa), some (fI fa), none, none, none, none]) (st_q := [.ref 66]) (h_q := h) (cl_q := 0) (sl_q := 0) rfl ?_
  refine fw_gf rfl rfl h66 rfl ?_
  refine ik_Wk 1 (pc_q := 20) (loc_q := [some (.ref 66), some (fI p), some (fI 1), some (fI pa), some (fI fa), none, none, none, none]) (st_q := [fI 4, .ref 70]) (h_q := h) (cl_q := 0) (sl_q := 0) rfl ?_
  refine fw_ial (z := 4) rfl h70 (by decide +kernel) (Nat.le_of_ble_eq_true rfl) (by decide +kernel) ?_
  refine ik_Wk 0 (pc_q := 21) (loc_q := [some (.ref 66), some (fI p), some (fI 1), some (fI pa), some (fI fa), none, none, none, none]) (st_q := [fI pb]) (h_q := h) (cl_q := 0) (sl_q := 0) rfl ?_
  refine ik_Wk 2 (pc_q := 24) (loc_q := [some (.ref 66), some (fI p), some (fI 1), some (fI pa), some (fI fa), some (fI pb), none, none, none]) (st_q := [.ref 66]) (h_q := h) (cl_q := 0) (sl_q := 0) rfl ?_
  refine fw_gf rfl rfl h66 rfl ?_
  refine ik_Wk 1 (pc_q := 28) (loc_q := [some (.ref 66), some (fI p), some (fI 1), some (fI pa), some (fI fa), some (fI pb), none, none, none]) (st_q := [fI 5, .ref 70]) (h_q := h) (cl_q := 0) (sl_q := 0) rfl ?_
  refine fw_ial (z := 5) rfl h70 (by decide +kernel) (Nat.le_of_ble_eq_true rfl) (by decide +kernel) ?_
  refine ik_Wk 0 (pc_q := 29) (loc_q := [some (.ref 66), some (fI p), some (fI 1), some (fI pa), some (fI fa), some (fI pb), none, none, none]) (st_q := [fI fb]) (h_q := h) (cl_q := 0) (sl_q := 0) rfl ?_
  refine ik_Wk 2 (pc_q := 32) (loc_q := [some (.ref 66), some (fI p), some (fI 1), some (fI pa), some (fI fa), some (fI pb), some (fI fb), none, none]) (st_q := [.ref 66]) (h_q := h) (cl_q := 0) (sl_q := 0) rfl ?_
  refine fw_gf rfl rfl h66 rfl ?_
  refine ik_Wk 2 (pc_q := 37) (loc_q := [some (.ref 66), some (fI p), some (fI 1), some (fI pa), some (fI fa), some (fI pb), some (fI fb), none, none]) (st_q := [fI 0, fI 2, .ref 70]) (h_q := h) (cl_q := 0) (sl_q := 0) rfl ?_
  refine fx_ias (z := 2) rfl h70 (by decide +kernel) (Nat.le_of_ble_eq_true rfl) (by decide +kernel) ?_
  intro h_903 e_903 f_903 l_903
  have k_903 : cL h_903 := l_903.trans hl
  have fr_903 := hfr_wb (hfr_refl [66, 77, 78, 79, 80, 81, 82, 70, 83] h) f_903 l_903 rfl
  clear l_903
  have g_903_66 := (f_903 66 (Nat.ne_of_beq_eq_false rfl)).trans h66
  have g_903_67 := (f_903 67 (Nat.ne_of_beq_eq_false rfl)).trans h67
  have g_903_68 := (f_903 68 (Nat.ne_of_beq_eq_false rfl)).trans h68
  have g_903_69 := (f_903 69 (Nat.ne_of_beq_eq_false rfl)).trans h69
  have g_903_77 := (f_903 77 (Nat.ne_of_beq_eq_false rfl)).trans h77
  have g_903_78 := (f_903 78 (Nat.ne_of_beq_eq_false rfl)).trans h78
  have g_903_79 := (f_903 79 (Nat.ne_of_beq_eq_false rfl)).trans h79
  have g_903_80 := (f_903 80 (Nat.ne_of_beq_eq_false rfl)).trans h80
  have g_903_81 := (f_903 81 (Nat.ne_of_beq_eq_false rfl)).trans h81
  have g_903_82 := (f_903 82 (Nat.ne_of_beq_eq_false rfl)).trans h82
  have g_903_83 := (f_903 83 (Nat.ne_of_beq_eq_false rfl)).trans h83
  have g_903_70 : cE h_903 70 (.inl (.int, fA [ka, pa, 0, kb, pb, fb])) := e_903
  refine ik_Wk 1 (pc_q := 39) (loc_q := [some (.ref 66), some (fI p), some (fI 1), some (fI pa), some (fI fa), some (fI pb), some (fI fb), none, none]) (st_q := [.ref 66]) (h_q := h_903) (cl_q := 0) (sl_q := 0) rfl ?_
  refine fw_gf rfl rfl g_903_66 rfl ?_
  refine ik_Wk 2 (pc_q := 44) (loc_q := [some (.ref 66), some (fI p), some (fI 1), some (fI pa), some (fI fa), some (fI pb), some (fI fb), none, none]) (st_q := [fI 0, fI 5, .ref 70]) (h_q := h_903) (cl_q := 0) (sl_q := 0) rfl ?_
  refine fx_ias (z := 5) rfl g_903_70 (by decide +kernel) (Nat.le_of_ble_eq_true rfl) (by decide +kernel) ?_
  intro h_904 e_904 f_904 l_904
  have k_904 : cL h_904 := l_904.trans k_903
  have fr_904 := hfr_wb fr_903 f_904 l_904 rfl
  clear l_904
  have g_904_66 := (f_904 66 (Nat.ne_of_beq_eq_false rfl)).trans g_903_66
  have g_904_67 := (f_904 67 (Nat.ne_of_beq_eq_false rfl)).trans g_903_67
  have g_904_68 := (f_904 68 (Nat.ne_of_beq_eq_false rfl)).trans g_903_68
  have g_904_69 := (f_904 69 (Nat.ne_of_beq_eq_false rfl)).trans g_903_69
  have g_904_77 := (f_904 77 (Nat.ne_of_beq_eq_false rfl)).trans g_903_77
  have g_904_78 := (f_904 78 (Nat.ne_of_beq_eq_false rfl)).trans g_903_78
  have g_904_79 := (f_904 79 (Nat.ne_of_beq_eq_false rfl)).trans g_903_79
  have g_904_80 := (f_904 80 (Nat.ne_of_beq_eq_false rfl)).trans g_903_80
  have g_904_81 := (f_904 81 (Nat.ne_of_beq_eq_false rfl)).trans g_903_81
  have g_904_82 := (f_904 82 (Nat.ne_of_beq_eq_false rfl)).trans g_903_82
  have g_904_83 := (f_904 83 (Nat.ne_of_beq_eq_false rfl)).trans g_903_83
  have g_904_70 : cE h_904 70 (.inl (.int, fA [ka, pa, 0, kb, pb, 0])) := e_904
  refine ik_Wk 4 (pc_q := 51) (loc_q := [some (.ref 66), some (fI p), some (fI 1), some (fI pa), some (fI fa), some (fI pb), some (fI fb), some (fI 0), none]) (st_q := [fI 1, fI 0]) (h_q := h_904) (cl_q := 0) (sl_q := 0) rfl ?_
  refine fw_ic_ge rfl rfl (by decide +kernel) (by decide +kernel) (by decide +kernel) (by decide +kernel) (fun hc1 => absurd hc1 (by decide +kernel)) (fun hc1 => ?_)
  refine ik_Wk 4 (pc_q := 60) (loc_q := [some (.ref 66), some (fI p), some (fI 1), some (fI pa), some (fI fa), some (fI pb), some (fI fb), some (fI 0), some (fI 0)]) (st_q := [fI 1, fI 0]) (h_q := h_904) (cl_q := 0) (sl_q := 0) rfl ?_
  refine fw_ic_ge rfl rfl (by decide +kernel) (by decide +kernel) (by decide +kernel) (by decide +kernel) (fun hc2 => absurd hc2 (by decide +kernel)) (fun hc2 => ?_)
  refine ik_Wk 1 (pc_q := 64) (loc_q := [some (.ref 66), some (fI p), some (fI 1), some (fI pa), some (fI fa), some (fI pb), some (fI fb), some (fI 0), some (fI 0)]) (st_q := [.ref 66]) (h_q := h_904) (cl_q := 0) (sl_q := 0) rfl ?_
  refine fw_gf rfl rfl g_904_66 rfl ?_
  refine ik_Wk 3 (pc_q := 71) (loc_q := [some (.ref 66), some (fI p), some (fI 1), some (fI pa), some (fI fa), some (fI pb), some (fI fb), some (fI 0), some (fI 0)]) (st_q := [fI 0, fI p, fI 1, .ref 70]) (h_q := h_904) (cl_q := 0) (sl_q := 0) rfl ?_
  refine fw_add rfl ?_
  refine fx_ias (z := 1) rfl g_904_70 (by decide +kernel) (Nat.le_of_ble_eq_true rfl) (by decide +kernel) ?_
  intro h_905 e_905 f_905 l_905
  have k_905 : cL h_905 := l_905.trans k_904
  have fr_905 := hfr_wb fr_904 f_905 l_905 rfl
  clear l_905
  have g_905_66 := (f_905 66 (Nat.ne_of_beq_eq_false rfl)).trans g_904_66
  have g_905_67 := (f_905 67 (Nat.ne_of_beq_eq_false rfl)).trans g_904_67
  have g_905_68 := (f_905 68 (Nat.ne_of_beq_eq_false rfl)).trans g_904_68
  have g_905_69 := (f_905 69 (Nat.ne_of_beq_eq_false rfl)).trans g_904_69
  have g_905_77 := (f_905 77 (Nat.ne_of_beq_eq_false rfl)).trans g_904_77
  have g_905_78 := (f_905 78 (Nat.ne_of_beq_eq_false rfl)).trans g_904_78
  have g_905_79 := (f_905 79 (Nat.ne_of_beq_eq_false rfl)).trans g_904_79
  have g_905_80 := (f_905 80 (Nat.ne_of_beq_eq_false rfl)).trans g_904_80
  have g_905_81 := (f_905 81 (Nat.ne_of_beq_eq_false rfl)).trans g_904_81
  have g_905_82 := (f_905 82 (Nat.ne_of_beq_eq_false rfl)).trans g_904_82
  have g_905_83 := (f_905 83 (Nat.ne_of_beq_eq_false rfl)).trans g_904_83
  have g_905_70 : cE h_905 70 (.inl (.int, fA [ka, p + 0, 0, kb, pb, 0])) := e_905
  refine ik_Wk 1 (pc_q := 74) (loc_q := [some (.ref 66), some (fI p), some (fI 1), some (fI pa), some (fI fa), some (fI pb), some (fI fb), some (fI 0), some (fI 0)]) (st_q := [.ref 66]) (h_q := h_905) (cl_q := 0) (sl_q := 0) rfl ?_
  refine fw_gf rfl rfl g_905_66 rfl ?_
  refine ik_Wk 3 (pc_q := 81) (loc_q := [some (.ref 66), some (fI p), some (fI 1), some (fI pa), some (fI fa), some (fI pb), some (fI fb), some (fI 0), some (fI 0)]) (st_q := [fI 0, fI p, fI 4, .ref 70]) (h_q := h_905) (cl_q := 0) (sl_q := 0) rfl ?_
  refine fw_add rfl ?_
  refine fx_ias (z := 4) rfl g_905_70 (by decide +kernel) (Nat.le_of_ble_eq_true rfl) (by decide +kernel) ?_
  intro h_906 e_906 f_906 l_906
  have k_906 : cL h_906 := l_906.trans k_905
  have fr_906 := hfr_wb fr_905 f_906 l_906 rfl
  clear l_906
  have g_906_66 := (f_906 66 (Nat.ne_of_beq_eq_false rfl)).trans g_905_66
  have g_906_67 := (f_906 67 (Nat.ne_of_beq_eq_false rfl)).trans g_905_67
  have g_906_68 := (f_906 68 (Nat.ne_of_beq_eq_false rfl)).trans g_905_68
  have g_906_69 := (f_906 69 (Nat.ne_of_beq_eq_false rfl)).trans g_905_69
  have g_906_77 := (f_906 77 (Nat.ne_of_beq_eq_false rfl)).trans g_905_77
  have g_906_78 := (f_906 78 (Nat.ne_of_beq_eq_false rfl)).trans g_905_78
  have g_906_79 := (f_906 79 (Nat.ne_of_beq_eq_false rfl)).trans g_905_79
  have g_906_80 := (f_906 80 (Nat.ne_of_beq_eq_false rfl)).trans g_905_80
  have g_906_81 := (f_906 81 (Nat.ne_of_beq_eq_false rfl)).trans g_905_81
  have g_906_82 := (f_906 82 (Nat.ne_of_beq_eq_false rfl)).trans g_905_82
  have g_906_83 := (f_906 83 (Nat.ne_of_beq_eq_false rfl)).trans g_905_83
  have g_906_70 : cE h_906 70 (.inl (.int, fA [ka, p + 0, 0, kb, p + 0, 0])) := e_906
  refine ik_Wk 1 (pc_q := 84) (loc_q := [some (.ref 66), some (fI p), some (fI 1), some (fI pa), some (fI fa), some (fI pb), some (fI fb), some (fI 0), some (fI 0)]) (st_q := [.ref 66]) (h_q := h_906) (cl_q := 0) (sl_q := 0) rfl ?_
  refine fw_gf rfl rfl g_906_66 rfl ?_
  refine ik_Wk 2 (pc_q := 90) (loc_q := [some (.ref 66), some (fI p), some (fI 1), some (fI pa), some (fI fa), some (fI pb), some (fI fb), some (fI 0), some (fI 0)]) (st_q := [fI 0, fI 3, .ref 83]) (h_q := h_906) (cl_q := 0) (sl_q := 0) rfl ?_
  refine fw_mul rfl ?_
  refine ik_Wk 1 (pc_q := 93) (loc_q := [some (.ref 66), some (fI p), some (fI 1), some (fI pa), some (fI fa), some (fI pb), some (fI fb), some (fI 0), some (fI 0)]) (st_q := [fI 0, fI 0, .ref 83]) (h_q := h_906) (cl_q := 0) (sl_q := 0) rfl ?_
  refine fw_add rfl ?_
  refine ik_Wk 2 (pc_q := 96) (loc_q := [some (.ref 66), some (fI p), some (fI 1), some (fI pa), some (fI fa), some (fI pb), some (fI fb), some (fI 0), some (fI 0)]) (st_q := [fI 0, .ref 66, fI 0, .ref 83]) (h_q := h_906) (cl_q := 0) (sl_q := 0) rfl ?_
  refine fw_call 169 2 0 [.ref 66, fI 0] [fI 0, .ref 83] rfl rfl rfl (Nat.le_of_ble_eq_true rfl) rfl rfl (fw_rec k_906 rfl g_906_66 rfl (Nat.le_of_ble_eq_true rfl)) (cr_laterOf (pl := pl) (f := fun j => ((0 :: 0 :: 0 :: 0 :: 0 :: 0 :: 0 :: f 7 :: f 8 :: 0 :: f 10 :: f 11 :: f 12 :: f 13 :: f 14 :: f 15 :: f 16 :: f 17 :: 0 :: 0 :: 0 :: 0 :: 0 :: 0 :: f 24 :: 0 :: 0 :: 0 :: 0 :: 0 :: 0 :: 0 :: f 32 :: f 33 :: 0 :: 0 :: f 36 :: 0 :: 0 :: 0 :: 0 :: 0 :: 0 :: []) : List Int).getD j 0) (s := s) (cn := cn) (go := go) (ch := ch) (gt := gt) (gd := gd) (xs := xs) (ys := ys) (ka := ka) (pa := p + 0) (fa := 0) (kb := kb) (pb := p + 0) (fb := 0) (r1 := r1) (r2 := r2) (wh := 0) (by omega) (by omega) q2 q3 q4 (by omega) (by omega) (by omega) (by omega) (by omega) (by omega) (by omega) g_906_66 g_906_67 n67 g_906_68 n68 g_906_69 n69 g_906_77 n77 g_906_78 n78 g_906_79 n79 g_906_80 n80 g_906_70 g_906_81 n81 g_906_82 n82 k_906) ?_
  rintro _ h_907 ⟨w'_907, gt'_907, gd'_907, xs'_907, ys'_907, r1'_907, r2'_907, rfl, e_907_66, e_907_77, m_907_77, e_907_78, m_907_78, e_907_79, m_907_79, e_907_80, m_907_80, e_907_81, m_907_81, e_907_82, m_907_82, F_907⟩
  have k_907 : cL h_907 := F_907.1.trans k_906
  have fr_907 := hfr_cb fr_906 F_907 rfl
  have g_907_67 := (hfr_g F_907 67 rfl).trans g_906_67
  have g_907_68 := (hfr_g F_907 68 rfl).trans g_906_68
  have g_907_69 := (hfr_g F_907 69 rfl).trans g_906_69
  have g_907_70 := (hfr_g F_907 70 rfl).trans g_906_70
  have g_907_83 := (hfr_g F_907 83 rfl).trans g_906_83
  have g_907_66 : cE h_907 66 (.inr (10, (fI pl :: .ref 67 :: .ref 68 :: .ref 69 :: fI ((s : Nat) : Int) :: .ref 70 :: .ref 71 :: fI (f 7) :: fI (f 8) :: .ref 72 :: fI (f 10) :: fI (f 11) :: fI (f 12) :: fJ (f 13) :: fI (f 14) :: fI (f 15) :: fI (f 16) :: fI (f 17) :: .ref 73 :: .ref 74 :: .ref 75 :: .ref 76 :: .ref 77 :: .ref 78 :: fI w'_907 :: .ref 79 :: .ref 80 :: .ref 81 :: .ref 82 :: .ref 83 :: .ref 84 :: .ref 85 :: fJ (f 32) :: fJ (f 33) :: .ref 86 :: .ref 87 :: fI (f 36) :: .ref 88 :: .ref 89 :: .ref 90 :: .ref 91 :: .ref 92 :: .ref 93 :: []))) := e_907_66
  have g_907_77 : cE h_907 77 (.inl (.int, fA gt'_907)) := e_907_77
  have g_907_78 : cE h_907 78 (.inl (.int, fA gd'_907)) := e_907_78
  have g_907_79 : cE h_907 79 (.inl (.long, fL xs'_907)) := e_907_79
  have g_907_80 : cE h_907 80 (.inl (.long, fL ys'_907)) := e_907_80
  have g_907_81 : cE h_907 81 (.inl (.long, fL r1'_907)) := e_907_81
  have g_907_82 : cE h_907 82 (.inl (.long, fL r2'_907)) := e_907_82
  refine ik_Wk 0 (pc_q := 99) (loc_q := [some (.ref 66), some (fI p), some (fI 1), some (fI pa), some (fI fa), some (fI pb), some (fI fb), some (fI 0), some (fI 0)]) (st_q := [fI (mr_w (mf_cm (fun x => mx_w cn go ch s x) (pl - 1) ka (p + 0)) 0 (mf_cm (fun x => mx_w cn go ch s x) (pl - 1) kb (p + 0)) 0 0), fI 0, .ref 83]) (h_q := h_907) (cl_q := 0) (sl_q := 0) rfl ?_
  have wb_907 : 0 ≤ mr_w (mf_cm (fun x => mx_w cn go ch s x) (pl - 1) ka (p + 0)) 0 (mf_cm (fun x => mx_w cn go ch s x) (pl - 1) kb (p + 0)) 0 0 ∧ mr_w (mf_cm (fun x => mx_w cn go ch s x) (pl - 1) ka (p + 0)) 0 (mf_cm (fun x => mx_w cn go ch s x) (pl - 1) kb (p + 0)) 0 0 ≤ 1000000 := mr_w_b (mr_ok_cm (W := (fun x => mx_w cn go ch s x)) (k := ka) q4 (show 0 ≤ p + 0 ∧ p + 0 < pl - 1 by omega)) (mr_ok_cm (W := (fun x => mx_w cn go ch s x)) (k := kb) q4 (show 0 ≤ p + 0 ∧ p + 0 < pl - 1 by omega)) (by decide +kernel) (by decide +kernel) 0
  refine fw_si rfl (by decide +kernel) ?_
  refine fx_idiv rfl (by omega) (by omega) (by omega) (by omega) ?_
  refine fw_i2l rfl (by omega) (by omega) ?_
  have hl3 : (fr.set (0 : Int).toNat ((mr_w (mf_cm (fun x => mx_w cn go ch s x) (pl - 1) ka (p + 0)) 0 (mf_cm (fun x => mx_w cn go ch s x) (pl - 1) kb (p + 0)) 0 0) / 1000)).length = 9 := (List.length_set ..).trans n83
  refine fx_las rfl g_907_83 (by omega) (by omega) (by omega) ?_
  intro h_908 e_908 f_908 l_908
  have k_908 : cL h_908 := l_908.trans k_907
  have fr_908 := hfr_wb fr_907 f_908 l_908 rfl
  clear l_908
  have g_908_66 := (f_908 66 (Nat.ne_of_beq_eq_false rfl)).trans g_907_66
  have g_908_67 := (f_908 67 (Nat.ne_of_beq_eq_false rfl)).trans g_907_67
  have g_908_68 := (f_908 68 (Nat.ne_of_beq_eq_false rfl)).trans g_907_68
  have g_908_69 := (f_908 69 (Nat.ne_of_beq_eq_false rfl)).trans g_907_69
  have g_908_77 := (f_908 77 (Nat.ne_of_beq_eq_false rfl)).trans g_907_77
  have g_908_78 := (f_908 78 (Nat.ne_of_beq_eq_false rfl)).trans g_907_78
  have g_908_79 := (f_908 79 (Nat.ne_of_beq_eq_false rfl)).trans g_907_79
  have g_908_80 := (f_908 80 (Nat.ne_of_beq_eq_false rfl)).trans g_907_80
  have g_908_70 := (f_908 70 (Nat.ne_of_beq_eq_false rfl)).trans g_907_70
  have g_908_81 := (f_908 81 (Nat.ne_of_beq_eq_false rfl)).trans g_907_81
  have g_908_82 := (f_908 82 (Nat.ne_of_beq_eq_false rfl)).trans g_907_82
  have g_908_83 : cE h_908 83 (.inl (.long, fL (fr.set (0 : Int).toNat ((mr_w (mf_cm (fun x => mx_w cn go ch s x) (pl - 1) ka (p + 0)) 0 (mf_cm (fun x => mx_w cn go ch s x) (pl - 1) kb (p + 0)) 0 0) / 1000)))) := e_908
  refine fw_inc (a := 0) (loc_q := [some (.ref 66), some (fI p), some (fI 1), some (fI pa), some (fI fa), some (fI pb), some (fI fb), some (fI 0), some (fI 1)]) rfl rfl (Nat.le_of_ble_eq_true rfl) rfl ?_
  refine ik_Wk 3 (pc_q := 60) (loc_q := [some (.ref 66), some (fI p), some (fI 1), some (fI pa), some (fI fa), some (fI pb), some (fI fb), some (fI 0), some (fI 1)]) (st_q := [fI 1, fI 1]) (h_q := h_908) (cl_q := 0) (sl_q := 0) rfl ?_
  refine fw_ic_ge rfl rfl (by decide +kernel) (by decide +kernel) (by decide +kernel) (by decide +kernel) (fun hc4 => ?_) (fun hc4 => absurd hc4 (by decide +kernel))
  refine fw_inc (a := 0) (loc_q := [some (.ref 66), some (fI p), some (fI 1), some (fI pa), some (fI fa), some (fI pb), some (fI fb), some (fI 1), some (fI 1)]) rfl rfl (Nat.le_of_ble_eq_true rfl) rfl ?_
  refine ik_Wk 3 (pc_q := 51) (loc_q := [some (.ref 66), some (fI p), some (fI 1), some (fI pa), some (fI fa), some (fI pb), some (fI fb), some (fI 1), some (fI 1)]) (st_q := [fI 1, fI 1]) (h_q := h_908) (cl_q := 0) (sl_q := 0) rfl ?_
  refine fw_ic_ge rfl rfl (by decide +kernel) (by decide +kernel) (by decide +kernel) (by decide +kernel) (fun hc5 => ?_) (fun hc5 => absurd hc5 (by decide +kernel))
  refine ik_Wk 1 (pc_q := 118) (loc_q := [some (.ref 66), some (fI p), some (fI 1), some (fI pa), some (fI fa), some (fI pb), some (fI fb), some (fI 1), some (fI 1)]) (st_q := [.ref 66]) (h_q := h_908) (cl_q := 0) (sl_q := 0) rfl ?_
  refine fw_gf rfl rfl g_908_66 rfl ?_
  refine ik_Wk 2 (pc_q := 123) (loc_q := [some (.ref 66), some (fI p), some (fI 1), some (fI pa), some (fI fa), some (fI pb), some (fI fb), some (fI 1), some (fI 1)]) (st_q := [fI pa, fI 1, .ref 70]) (h_q := h_908) (cl_q := 0) (sl_q := 0) rfl ?_
  refine fx_ias (z := 1) rfl g_908_70 (by decide +kernel) (Nat.le_of_ble_eq_true rfl) (by decide +kernel) ?_
  intro h_909 e_909 f_909 l_909
  have k_909 : cL h_909 := l_909.trans k_908
  have fr_909 := hfr_wb fr_908 f_909 l_909 rfl
  clear l_909
  have g_909_66 := (f_909 66 (Nat.ne_of_beq_eq_false rfl)).trans g_908_66
  have g_909_67 := (f_909 67 (Nat.ne_of_beq_eq_false rfl)).trans g_908_67
  have g_909_68 := (f_909 68 (Nat.ne_of_beq_eq_false rfl)).trans g_908_68
  have g_909_69 := (f_909 69 (Nat.ne_of_beq_eq_false rfl)).trans g_908_69
  have g_909_77 := (f_909 77 (Nat.ne_of_beq_eq_false rfl)).trans g_908_77
  have g_909_78 := (f_909 78 (Nat.ne_of_beq_eq_false rfl)).trans g_908_78
  have g_909_79 := (f_909 79 (Nat.ne_of_beq_eq_false rfl)).trans g_908_79
  have g_909_80 := (f_909 80 (Nat.ne_of_beq_eq_false rfl)).trans g_908_80
  have g_909_81 := (f_909 81 (Nat.ne_of_beq_eq_false rfl)).trans g_908_81
  have g_909_82 := (f_909 82 (Nat.ne_of_beq_eq_false rfl)).trans g_908_82
  have g_909_83 := (f_909 83 (Nat.ne_of_beq_eq_false rfl)).trans g_908_83
  have g_909_70 : cE h_909 70 (.inl (.int, fA [ka, pa, 0, kb, p + 0, 0])) := e_909
  refine ik_Wk 1 (pc_q := 125) (loc_q := [some (.ref 66), some (fI p), some (fI 1), some (fI pa), some (fI fa), some (fI pb), some (fI fb), some (fI 1), some (fI 1)]) (st_q := [.ref 66]) (h_q := h_909) (cl_q := 0) (sl_q := 0) rfl ?_
  refine fw_gf rfl rfl g_909_66 rfl ?_
  refine ik_Wk 2 (pc_q := 131) (loc_q := [some (.ref 66), some (fI p), some (fI 1), some (fI pa), some (fI fa), some (fI pb), some (fI fb), some (fI 1), some (fI 1)]) (st_q := [fI fa, fI 2, .ref 70]) (h_q := h_909) (cl_q := 0) (sl_q := 0) rfl ?_
  refine fx_ias (z := 2) rfl g_909_70 (by decide +kernel) (Nat.le_of_ble_eq_true rfl) (by decide +kernel) ?_
  intro h_910 e_910 f_910 l_910
  have k_910 : cL h_910 := l_910.trans k_909
  have fr_910 := hfr_wb fr_909 f_910 l_910 rfl
  clear l_910
  have g_910_66 := (f_910 66 (Nat.ne_of_beq_eq_false rfl)).trans g_909_66
  have g_910_67 := (f_910 67 (Nat.ne_of_beq_eq_false rfl)).trans g_909_67
  have g_910_68 := (f_910 68 (Nat.ne_of_beq_eq_false rfl)).trans g_909_68
  have g_910_69 := (f_910 69 (Nat.ne_of_beq_eq_false rfl)).trans g_909_69
  have g_910_77 := (f_910 77 (Nat.ne_of_beq_eq_false rfl)).trans g_909_77
  have g_910_78 := (f_910 78 (Nat.ne_of_beq_eq_false rfl)).trans g_909_78
  have g_910_79 := (f_910 79 (Nat.ne_of_beq_eq_false rfl)).trans g_909_79
  have g_910_80 := (f_910 80 (Nat.ne_of_beq_eq_false rfl)).trans g_909_80
  have g_910_81 := (f_910 81 (Nat.ne_of_beq_eq_false rfl)).trans g_909_81
  have g_910_82 := (f_910 82 (Nat.ne_of_beq_eq_false rfl)).trans g_909_82
  have g_910_83 := (f_910 83 (Nat.ne_of_beq_eq_false rfl)).trans g_909_83
  have g_910_70 : cE h_910 70 (.inl (.int, fA [ka, pa, fa, kb, p + 0, 0])) := e_910
  refine ik_Wk 1 (pc_q := 133) (loc_q := [some (.ref 66), some (fI p), some (fI 1), some (fI pa), some (fI fa), some (fI pb), some (fI fb), some (fI 1), some (fI 1)]) (st_q := [.ref 66]) (h_q := h_910) (cl_q := 0) (sl_q := 0) rfl ?_
  refine fw_gf rfl rfl g_910_66 rfl ?_
  refine ik_Wk 2 (pc_q := 139) (loc_q := [some (.ref 66), some (fI p), some (fI 1), some (fI pa), some (fI fa), some (fI pb), some (fI fb), some (fI 1), some (fI 1)]) (st_q := [fI pb, fI 4, .ref 70]) (h_q := h_910) (cl_q := 0) (sl_q := 0) rfl ?_
  refine fx_ias (z := 4) rfl g_910_70 (by decide +kernel) (Nat.le_of_ble_eq_true rfl) (by decide +kernel) ?_
  intro h_911 e_911 f_911 l_911
  have k_911 : cL h_911 := l_911.trans k_910
  have fr_911 := hfr_wb fr_910 f_911 l_911 rfl
  clear l_911
  have g_911_66 := (f_911 66 (Nat.ne_of_beq_eq_false rfl)).trans g_910_66
  have g_911_67 := (f_911 67 (Nat.ne_of_beq_eq_false rfl)).trans g_910_67
  have g_911_68 := (f_911 68 (Nat.ne_of_beq_eq_false rfl)).trans g_910_68
  have g_911_69 := (f_911 69 (Nat.ne_of_beq_eq_false rfl)).trans g_910_69
  have g_911_77 := (f_911 77 (Nat.ne_of_beq_eq_false rfl)).trans g_910_77
  have g_911_78 := (f_911 78 (Nat.ne_of_beq_eq_false rfl)).trans g_910_78
  have g_911_79 := (f_911 79 (Nat.ne_of_beq_eq_false rfl)).trans g_910_79
  have g_911_80 := (f_911 80 (Nat.ne_of_beq_eq_false rfl)).trans g_910_80
  have g_911_81 := (f_911 81 (Nat.ne_of_beq_eq_false rfl)).trans g_910_81
  have g_911_82 := (f_911 82 (Nat.ne_of_beq_eq_false rfl)).trans g_910_82
  have g_911_83 := (f_911 83 (Nat.ne_of_beq_eq_false rfl)).trans g_910_83
  have g_911_70 : cE h_911 70 (.inl (.int, fA [ka, pa, fa, kb, pb, 0])) := e_911
  refine ik_Wk 1 (pc_q := 141) (loc_q := [some (.ref 66), some (fI p), some (fI 1), some (fI pa), some (fI fa), some (fI pb), some (fI fb), some (fI 1), some (fI 1)]) (st_q := [.ref 66]) (h_q := h_911) (cl_q := 0) (sl_q := 0) rfl ?_
  refine fw_gf rfl rfl g_911_66 rfl ?_
  refine ik_Wk 2 (pc_q := 147) (loc_q := [some (.ref 66), some (fI p), some (fI 1), some (fI pa), some (fI fa), some (fI pb), some (fI fb), some (fI 1), some (fI 1)]) (st_q := [fI fb, fI 5, .ref 70]) (h_q := h_911) (cl_q := 0) (sl_q := 0) rfl ?_
  refine fx_ias (z := 5) rfl g_911_70 (by decide +kernel) (Nat.le_of_ble_eq_true rfl) (by decide +kernel) ?_
  intro h_912 e_912 f_912 l_912
  have k_912 : cL h_912 := l_912.trans k_911
  have fr_912 := hfr_wb fr_911 f_912 l_912 rfl
  clear l_912
  have g_912_66 := (f_912 66 (Nat.ne_of_beq_eq_false rfl)).trans g_911_66
  have g_912_67 := (f_912 67 (Nat.ne_of_beq_eq_false rfl)).trans g_911_67
  have g_912_68 := (f_912 68 (Nat.ne_of_beq_eq_false rfl)).trans g_911_68
  have g_912_69 := (f_912 69 (Nat.ne_of_beq_eq_false rfl)).trans g_911_69
  have g_912_77 := (f_912 77 (Nat.ne_of_beq_eq_false rfl)).trans g_911_77
  have g_912_78 := (f_912 78 (Nat.ne_of_beq_eq_false rfl)).trans g_911_78
  have g_912_79 := (f_912 79 (Nat.ne_of_beq_eq_false rfl)).trans g_911_79
  have g_912_80 := (f_912 80 (Nat.ne_of_beq_eq_false rfl)).trans g_911_80
  have g_912_81 := (f_912 81 (Nat.ne_of_beq_eq_false rfl)).trans g_911_81
  have g_912_82 := (f_912 82 (Nat.ne_of_beq_eq_false rfl)).trans g_911_82
  have g_912_83 := (f_912 83 (Nat.ne_of_beq_eq_false rfl)).trans g_911_83
  have g_912_70 : cE h_912 70 (.inl (.int, fA [ka, pa, fa, kb, pb, fb])) := e_912
  exact ik_Wret rfl rfl ⟨_, _, rfl, rfl, rfl, rfl, ⟨w'_907, gt'_907, gd'_907, xs'_907, ys'_907, r1'_907, r2'_907, (fr.set (0 : Int).toNat ((mr_w (mf_cm (fun x => mx_w cn go ch s x) (pl - 1) ka (p + 0)) 0 (mf_cm (fun x => mx_w cn go ch s x) (pl - 1) kb (p + 0)) 0 0) / 1000)), rfl, g_912_66, g_912_77, m_907_77, g_912_78, m_907_78, g_912_79, m_907_79, g_912_80, m_907_80, g_912_81, m_907_81, g_912_82, m_907_82, g_912_70, g_912_83, hl3, fr_912⟩⟩

theorem cr_fears2 {h : List ik_E} {pl : Int} {f : Nat → Int} {s : Nat} {cn : List Int} {go : List Int} {ch : List Int} {gt : List Int} {gd : List Int} {xs : List Int} {ys : List Int} {ka : Int} {pa : Int} {fa : Int} {kb : Int} {pb : Int} {fb : Int} {r1 : List Int} {r2 : List Int} {p : Int} {fr : List Int} (q0 : 1 ≤ pl ∧ pl ≤ 12) (q1 : s < 4096) (q2 : ∀ x : Int, (0 : Int) ≤ x → x < pl - 1 → 0 ≤ cn.getD x.toNat 0 ∧ cn.getD x.toNat 0 ≤ 4) (q3 : ∀ x : Int, (0 : Int) ≤ x → x < pl - 1 → 1 ≤ cn.getD x.toNat 0 ∧ ∀ j : Int, 4 * x ≤ j → j < 4 * x + cn.getD x.toNat 0 → 0 ≤ ch.getD j.toNat 0 ∧ ch.getD j.toNat 0 ≤ 100) (q4 : ∀ x : Int, (0 : Int) ≤ x → x < pl - 1 → mx_ok pl (mx_w cn go ch s x)) (q5 : (0 : Int) ≤ ka ∧ ka ≤ (2 : Int)) (q6 : (0 : Int) ≤ kb ∧ kb ≤ (2 : Int)) (q7 : (0 : Int) ≤ p ∧ p + 2 < pl) (h66 : cE h 66 (.inr (10, (fI pl :: .ref 67 :: .ref 68 :: .ref 69 :: fI ((s : Nat) : Int) :: .ref 70 :: .ref 71 :: fI (f 7) :: fI (f 8) :: .ref 72 :: fI (f 10) :: fI (f 11) :: fI (f 12) :: fJ (f 13) :: fI (f 14) :: fI (f 15) :: fI (f 16) :: fI (f 17) :: .ref 73 :: .ref 74 :: .ref 75 :: .ref 76 :: .ref 77 :: .ref 78 :: fI (f 24) :: .ref 79 :: .ref 80 :: .ref 81 :: .ref 82 :: .ref 83 :: .ref 84 :: .ref 85 :: fJ (f 32) :: fJ (f 33) :: .ref 86 :: .ref 87 :: fI (f 36) :: .ref 88 :: .ref 89 :: .ref 90 :: .ref 91 :: .ref 92 :: .ref 93 :: [])))) (h67 : cE h 67 (.inl (.int, fA cn))) (n67 : cn.length = (12 : Nat)) (h68 : cE h 68 (.inl (.int, fA go))) (n68 : go.length = (48 : Nat)) (h69 : cE h 69 (.inl (.int, fA ch))) (n69 : ch.length = (48 : Nat)) (h77 : cE h 77 (.inl (.int, fA gt))) (n77 : gt.length = (5 : Nat)) (h78 : cE h 78 (.inl (.int, fA gd))) (n78 : gd.length = (5 : Nat)) (h79 : cE h 79 (.inl (.long, fL xs))) (n79 : xs.length = (12 : Nat)) (h80 : cE h 80 (.inl (.long, fL ys))) (n80 : ys.length = (12 : Nat)) (h70 : cE h 70 (.inl (.int, fA [ka, pa, fa, kb, pb, fb]))) (h81 : cE h 81 (.inl (.long, fL r1))) (n81 : r1.length = (201 : Nat)) (h82 : cE h 82 (.inl (.long, fL r2))) (n82 : r2.length = (201 : Nat)) (h83 : cE h 83 (.inl (.long, fL fr))) (n83 : fr.length = (9 : Nat)) (hl : h.length = (94 : Nat)) : ik_F 178 [.ref 66, fI p, fI 2] h (fun rv h_q => ∃ (w' : Int) (gt' : List Int) (gd' : List Int) (xs' : List Int) (ys' : List Int) (r1' : List Int) (r2' : List Int) (fr' : List Int), rv = [] ∧ cE h_q 66 (.inr (10, (fI pl :: .ref 67 :: .ref 68 :: .ref 69 :: fI ((s : Nat) : Int) :: .ref 70 :: .ref 71 :: fI (f 7) :: fI (f 8) :: .ref 72 :: fI (f 10) :: fI (f 11) :: fI (f 12) :: fJ (f 13) :: fI (f 14) :: fI (f 15) :: fI (f 16) :: fI (f 17) :: .ref 73 :: .ref 74 :: .ref 75 :: .ref 76 :: .ref 77 :: .ref 78 :: fI w' :: .ref 79 :: .ref 80 :: .ref 81 :: .ref 82 :: .ref 83 :: .ref 84 :: .ref 85 :: fJ (f 32) :: fJ (f 33) :: .ref 86 :: .ref 87 :: fI (f 36) :: .ref 88 :: .ref 89 :: .ref 90 :: .ref 91 :: .ref 92 :: .ref 93 :: []))) ∧ cE h_q 77 (.inl (.int, fA gt')) ∧ gt'.length = (5 : Nat) ∧ cE h_q 78 (.inl (.int, fA gd')) ∧ gd'.length = (5 : Nat) ∧ cE h_q 79 (.inl (.long, fL xs')) ∧ xs'.length = (12 : Nat) ∧ cE h_q 80 (.inl (.long, fL ys')) ∧ ys'.length = (12 : Nat) ∧ cE h_q 81 (.inl (.long, fL r1')) ∧ r1'.length = (201 : Nat) ∧ cE h_q 82 (.inl (.long, fL r2')) ∧ r2'.length = (201 : Nat) ∧ cE h_q 70 (.inl (.int, fA [ka, pa, fa, kb, pb, fb])) ∧ cE h_q 83 (.inl (.long, fL fr')) ∧ fr'.length = (9 : Nat) ∧ hfr [66, 77, 78, 79, 80, 81, 82, 70, 83] h h_q) := by
  refine ik_Wk 1 (pc_q := 1) (loc_q := [some (.ref 66), some (fI p), some (fI 2), none, none, none, none, none, none]) (st_q := [.ref 66]) (h_q := h) (cl_q := 0) (sl_q := 0) rfl ?_
  refine fw_gf rfl rfl h66 rfl ?_
  refine ik_Wk 1 (pc_q := 5) (loc_q := [some (.ref 66), some (fI p), some (fI 2), none, none, none, none, none, none]) (st_q := [fI 1, .ref 70]) (h_q := h) (cl_q := 0) (sl_q := 0) rfl ?_
  refine fw_ial (z := 1) rfl h70 (by decide +kernel) (Nat.le_of_ble_eq_true rfl) (by decide +kernel) ?_
  refine ik_Wk 0 (pc_q := 6) (loc_q := [some (.ref 66), some (fI p), some (fI 2), none, none, none, none, none, none]) (st_q := [fI pa]) (h_q := h) (cl_q := 0) (sl_q := 0) rfl ?_
  refine ik_Wk 2 (pc_q := 8) (loc_q := [some (.ref 66), some (fI p), some (fI 2), some (fI pa), none, none, none, none, none]) (st_q := [.ref 66]) (h_q := h) (cl_q := 0) (sl_q := 0) rfl ?_
  refine fw_gf rfl rfl h66 rfl ?_
  refine ik_Wk 1 (pc_q := 12) (loc_q := [some (.ref 66), some (fI p), some (fI 2), some (fI pa), none, none, none, none, none]) (st_q := [fI 2, .ref 70]) (h_q := h) (cl_q := 0) (sl_q := 0) rfl ?_
  refine fw_ial (z := 2) rfl h70 (by decide +kernel) (Nat.le_of_ble_eq_true rfl) (by decide +kernel) ?_
  refine ik_Wk 0 (pc_q := 13) (loc_q := [some (.ref 66), some (fI p), some (fI 2), some (fI pa), none, none, none, none, none]) (st_q := [fI fa]) (h_q := h) (cl_q := 0) (sl_q := 0) rfl ?_
  refine ik_Wk 2 (pc_q := 16) (loc_q := [some (.ref 66), some (fI p), some (fI 2), some (fI pa), some (fI fa), none, none, none, none]) (st_q := [.ref 66]) (h_q := h) (cl_q := 0) (sl_q := 0) rfl ?_
  refine fw_gf rfl rfl h66 rfl ?_
  refine ik_Wk 1 (pc_q := 20) (loc_q := [some (.ref 66), some (fI p), some (fI 2), some (fI pa), some (fI fa), none, none, none, none]) (st_q := [fI 4, .ref 70]) (h_q := h) (cl_q := 0) (sl_q := 0) rfl ?_
  refine fw_ial (z := 4) rfl h70 (by decide +kernel) (Nat.le_of_ble_eq_true rfl) (by decide +kernel) ?_
  refine ik_Wk 0 (pc_q := 21) (loc_q := [some (.ref 66), some (fI p), some (fI 2), some (fI pa), some (fI fa), none, none, none, none]) (st_q := [fI pb]) (h_q := h) (cl_q := 0) (sl_q := 0) rfl ?_
  refine ik_Wk 2 (pc_q := 24) (loc_q := [some (.ref 66), some (fI p), some (fI 2), some (fI pa), some (fI fa), some (fI pb), none, none, none]) (st_q := [.ref 66]) (h_q := h) (cl_q := 0) (sl_q := 0) rfl ?_
  refine fw_gf rfl rfl h66 rfl ?_
  refine ik_Wk 1 (pc_q := 28) (loc_q := [some (.ref 66), some (fI p), some (fI 2), some (fI pa), some (fI fa), some (fI pb), none, none, none]) (st_q := [fI 5, .ref 70]) (h_q := h) (cl_q := 0) (sl_q := 0) rfl ?_
  refine fw_ial (z := 5) rfl h70 (by decide +kernel) (Nat.le_of_ble_eq_true rfl) (by decide +kernel) ?_
  refine ik_Wk 0 (pc_q := 29) (loc_q := [some (.ref 66), some (fI p), some (fI 2), some (fI pa), some (fI fa), some (fI pb), none, none, none]) (st_q := [fI fb]) (h_q := h) (cl_q := 0) (sl_q := 0) rfl ?_
  refine ik_Wk 2 (pc_q := 32) (loc_q := [some (.ref 66), some (fI p), some (fI 2), some (fI pa), some (fI fa), some (fI pb), some (fI fb), none, none]) (st_q := [.ref 66]) (h_q := h) (cl_q := 0) (sl_q := 0) rfl ?_
  refine fw_gf rfl rfl h66 rfl ?_
  refine ik_Wk 2 (pc_q := 37) (loc_q := [some (.ref 66), some (fI p), some (fI 2), some (fI pa), some (fI fa), some (fI pb), some (fI fb), none, none]) (st_q := [fI 0, fI 2, .ref 70]) (h_q := h) (cl_q := 0) (sl_q := 0) rfl ?_
  refine fx_ias (z := 2) rfl h70 (by decide +kernel) (Nat.le_of_ble_eq_true rfl) (by decide +kernel) ?_
  intro h_913 e_913 f_913 l_913
  have k_913 : cL h_913 := l_913.trans hl
  have fr_913 := hfr_wb (hfr_refl [66, 77, 78, 79, 80, 81, 82, 70, 83] h) f_913 l_913 rfl
  clear l_913
  have g_913_66 := (f_913 66 (Nat.ne_of_beq_eq_false rfl)).trans h66
  have g_913_67 := (f_913 67 (Nat.ne_of_beq_eq_false rfl)).trans h67
  have g_913_68 := (f_913 68 (Nat.ne_of_beq_eq_false rfl)).trans h68
  have g_913_69 := (f_913 69 (Nat.ne_of_beq_eq_false rfl)).trans h69
  have g_913_77 := (f_913 77 (Nat.ne_of_beq_eq_false rfl)).trans h77
  have g_913_78 := (f_913 78 (Nat.ne_of_beq_eq_false rfl)).trans h78
  have g_913_79 := (f_913 79 (Nat.ne_of_beq_eq_false rfl)).trans h79
  have g_913_80 := (f_913 80 (Nat.ne_of_beq_eq_false rfl)).trans h80
  have g_913_81 := (f_913 81 (Nat.ne_of_beq_eq_false rfl)).trans h81
  have g_913_82 := (f_913 82 (Nat.ne_of_beq_eq_false rfl)).trans h82
  have g_913_83 := (f_913 83 (Nat.ne_of_beq_eq_false rfl)).trans h83
  have g_913_70 : cE h_913 70 (.inl (.int, fA [ka, pa, 0, kb, pb, fb])) := e_913
  refine ik_Wk 1 (pc_q := 39) (loc_q := [some (.ref 66), some (fI p), some (fI 2), some (fI pa), some (fI fa), some (fI pb), some (fI fb), none, none]) (st_q := [.ref 66]) (h_q := h_913) (cl_q := 0) (sl_q := 0) rfl ?_
  refine fw_gf rfl rfl g_913_66 rfl ?_
  refine ik_Wk 2 (pc_q := 44) (loc_q := [some (.ref 66), some (fI p), some (fI 2), some (fI pa), some (fI fa), some (fI pb), some (fI fb), none, none]) (st_q := [fI 0, fI 5, .ref 70]) (h_q := h_913) (cl_q := 0) (sl_q := 0) rfl ?_
  refine fx_ias (z := 5) rfl g_913_70 (by decide +kernel) (Nat.le_of_ble_eq_true rfl) (by decide +kernel) ?_
  intro h_914 e_914 f_914 l_914
  have k_914 : cL h_914 := l_914.trans k_913
  have fr_914 := hfr_wb fr_913 f_914 l_914 rfl
  clear l_914
  have g_914_66 := (f_914 66 (Nat.ne_of_beq_eq_false rfl)).trans g_913_66
  have g_914_67 := (f_914 67 (Nat.ne_of_beq_eq_false rfl)).trans g_913_67
  have g_914_68 := (f_914 68 (Nat.ne_of_beq_eq_false rfl)).trans g_913_68
  have g_914_69 := (f_914 69 (Nat.ne_of_beq_eq_false rfl)).trans g_913_69
  have g_914_77 := (f_914 77 (Nat.ne_of_beq_eq_false rfl)).trans g_913_77
  have g_914_78 := (f_914 78 (Nat.ne_of_beq_eq_false rfl)).trans g_913_78
  have g_914_79 := (f_914 79 (Nat.ne_of_beq_eq_false rfl)).trans g_913_79
  have g_914_80 := (f_914 80 (Nat.ne_of_beq_eq_false rfl)).trans g_913_80
  have g_914_81 := (f_914 81 (Nat.ne_of_beq_eq_false rfl)).trans g_913_81
  have g_914_82 := (f_914 82 (Nat.ne_of_beq_eq_false rfl)).trans g_913_82
  have g_914_83 := (f_914 83 (Nat.ne_of_beq_eq_false rfl)).trans g_913_83
  have g_914_70 : cE h_914 70 (.inl (.int, fA [ka, pa, 0, kb, pb, 0])) := e_914
  refine ik_Wk 4 (pc_q := 51) (loc_q := [some (.ref 66), some (fI p), some (fI 2), some (fI pa), some (fI fa), some (fI pb), some (fI fb), some (fI 0), none]) (st_q := [fI 2, fI 0]) (h_q := h_914) (cl_q := 0) (sl_q := 0) rfl ?_
  refine fw_ic_ge rfl rfl (by decide +kernel) (by decide +kernel) (by decide +kernel) (by decide +kernel) (fun hc1 => absurd hc1 (by decide +kernel)) (fun hc1 => ?_)
  refine ik_Wk 4 (pc_q := 60) (loc_q := [some (.ref 66), some (fI p), some (fI 2), some (fI pa), some (fI fa), some (fI pb), some (fI fb), some (fI 0), some (fI 0)]) (st_q := [fI 2, fI 0]) (h_q := h_914) (cl_q := 0) (sl_q := 0) rfl ?_
  refine fw_ic_ge rfl rfl (by decide +kernel) (by decide +kernel) (by decide +kernel) (by decide +kernel) (fun hc2 => absurd hc2 (by decide +kernel)) (fun hc2 => ?_)
  refine ik_Wk 1 (pc_q := 64) (loc_q := [some (.ref 66), some (fI p), some (fI 2), some (fI pa), some (fI fa), some (fI pb), some (fI fb), some (fI 0), some (fI 0)]) (st_q := [.ref 66]) (h_q := h_914) (cl_q := 0) (sl_q := 0) rfl ?_
  refine fw_gf rfl rfl g_914_66 rfl ?_
  refine ik_Wk 3 (pc_q := 71) (loc_q := [some (.ref 66), some (fI p), some (fI 2), some (fI pa), some (fI fa), some (fI pb), some (fI fb), some (fI 0), some (fI 0)]) (st_q := [fI 0, fI p, fI 1, .ref 70]) (h_q := h_914) (cl_q := 0) (sl_q := 0) rfl ?_
  refine fw_add rfl ?_
  refine fx_ias (z := 1) rfl g_914_70 (by decide +kernel) (Nat.le_of_ble_eq_true rfl) (by decide +kernel) ?_
  intro h_915 e_915 f_915 l_915
  have k_915 : cL h_915 := l_915.trans k_914
  have fr_915 := hfr_wb fr_914 f_915 l_915 rfl
  clear l_915
  have g_915_66 := (f_915 66 (Nat.ne_of_beq_eq_false rfl)).trans g_914_66
  have g_915_67 := (f_915 67 (Nat.ne_of_beq_eq_false rfl)).trans g_914_67
  have g_915_68 := (f_915 68 (Nat.ne_of_beq_eq_false rfl)).trans g_914_68
  have g_915_69 := (f_915 69 (Nat.ne_of_beq_eq_false rfl)).trans g_914_69
  have g_915_77 := (f_915 77 (Nat.ne_of_beq_eq_false rfl)).trans g_914_77
  have g_915_78 := (f_915 78 (Nat.ne_of_beq_eq_false rfl)).trans g_914_78
  have g_915_79 := (f_915 79 (Nat.ne_of_beq_eq_false rfl)).trans g_914_79
  have g_915_80 := (f_915 80 (Nat.ne_of_beq_eq_false rfl)).trans g_914_80
  have g_915_81 := (f_915 81 (Nat.ne_of_beq_eq_false rfl)).trans g_914_81
  have g_915_82 := (f_915 82 (Nat.ne_of_beq_eq_false rfl)).trans g_914_82
  have g_915_83 := (f_915 83 (Nat.ne_of_beq_eq_false rfl)).trans g_914_83
  have g_915_70 : cE h_915 70 (.inl (.int, fA [ka, p + 0, 0, kb, pb, 0])) := e_915
  refine ik_Wk 1 (pc_q := 74) (loc_q := [some (.ref 66), some (fI p), some (fI 2), some (fI pa), some (fI fa), some (fI pb), some (fI fb), some (fI 0), some (fI 0)]) (st_q := [.ref 66]) (h_q := h_915) (cl_q := 0) (sl_q := 0) rfl ?_
  refine fw_gf rfl rfl g_915_66 rfl ?_
  refine ik_Wk 3 (pc_q := 81) (loc_q := [some (.ref 66), some (fI p), some (fI 2), some (fI pa), some (fI fa), some (fI pb), some (fI fb), some (fI 0), some (fI 0)]) (st_q := [fI 0, fI p, fI 4, .ref 70]) (h_q := h_915) (cl_q := 0) (sl_q := 0) rfl ?_
  refine fw_add rfl ?_
  refine fx_ias (z := 4) rfl g_915_70 (by decide +kernel) (Nat.le_of_ble_eq_true rfl) (by decide +kernel) ?_
  intro h_916 e_916 f_916 l_916
  have k_916 : cL h_916 := l_916.trans k_915
  have fr_916 := hfr_wb fr_915 f_916 l_916 rfl
  clear l_916
  have g_916_66 := (f_916 66 (Nat.ne_of_beq_eq_false rfl)).trans g_915_66
  have g_916_67 := (f_916 67 (Nat.ne_of_beq_eq_false rfl)).trans g_915_67
  have g_916_68 := (f_916 68 (Nat.ne_of_beq_eq_false rfl)).trans g_915_68
  have g_916_69 := (f_916 69 (Nat.ne_of_beq_eq_false rfl)).trans g_915_69
  have g_916_77 := (f_916 77 (Nat.ne_of_beq_eq_false rfl)).trans g_915_77
  have g_916_78 := (f_916 78 (Nat.ne_of_beq_eq_false rfl)).trans g_915_78
  have g_916_79 := (f_916 79 (Nat.ne_of_beq_eq_false rfl)).trans g_915_79
  have g_916_80 := (f_916 80 (Nat.ne_of_beq_eq_false rfl)).trans g_915_80
  have g_916_81 := (f_916 81 (Nat.ne_of_beq_eq_false rfl)).trans g_915_81
  have g_916_82 := (f_916 82 (Nat.ne_of_beq_eq_false rfl)).trans g_915_82
  have g_916_83 := (f_916 83 (Nat.ne_of_beq_eq_false rfl)).trans g_915_83
  have g_916_70 : cE h_916 70 (.inl (.int, fA [ka, p + 0, 0, kb, p + 0, 0])) := e_916
  refine ik_Wk 1 (pc_q := 84) (loc_q := [some (.ref 66), some (fI p), some (fI 2), some (fI pa), some (fI fa), some (fI pb), some (fI fb), some (fI 0), some (fI 0)]) (st_q := [.ref 66]) (h_q := h_916) (cl_q := 0) (sl_q := 0) rfl ?_
  refine fw_gf rfl rfl g_916_66 rfl ?_
  refine ik_Wk 2 (pc_q := 90) (loc_q := [some (.ref 66), some (fI p), some (fI 2), some (fI pa), some (fI fa), some (fI pb), some (fI fb), some (fI 0), some (fI 0)]) (st_q := [fI 0, fI 3, .ref 83]) (h_q := h_916) (cl_q := 0) (sl_q := 0) rfl ?_
  refine fw_mul rfl ?_
  refine ik_Wk 1 (pc_q := 93) (loc_q := [some (.ref 66), some (fI p), some (fI 2), some (fI pa), some (fI fa), some (fI pb), some (fI fb), some (fI 0), some (fI 0)]) (st_q := [fI 0, fI 0, .ref 83]) (h_q := h_916) (cl_q := 0) (sl_q := 0) rfl ?_
  refine fw_add rfl ?_
  refine ik_Wk 2 (pc_q := 96) (loc_q := [some (.ref 66), some (fI p), some (fI 2), some (fI pa), some (fI fa), some (fI pb), some (fI fb), some (fI 0), some (fI 0)]) (st_q := [fI 0, .ref 66, fI 0, .ref 83]) (h_q := h_916) (cl_q := 0) (sl_q := 0) rfl ?_
  refine fw_call 169 2 0 [.ref 66, fI 0] [fI 0, .ref 83] rfl rfl rfl (Nat.le_of_ble_eq_true rfl) rfl rfl (fw_rec k_916 rfl g_916_66 rfl (Nat.le_of_ble_eq_true rfl)) (cr_laterOf (pl := pl) (f := fun j => ((0 :: 0 :: 0 :: 0 :: 0 :: 0 :: 0 :: f 7 :: f 8 :: 0 :: f 10 :: f 11 :: f 12 :: f 13 :: f 14 :: f 15 :: f 16 :: f 17 :: 0 :: 0 :: 0 :: 0 :: 0 :: 0 :: f 24 :: 0 :: 0 :: 0 :: 0 :: 0 :: 0 :: 0 :: f 32 :: f 33 :: 0 :: 0 :: f 36 :: 0 :: 0 :: 0 :: 0 :: 0 :: 0 :: []) : List Int).getD j 0) (s := s) (cn := cn) (go := go) (ch := ch) (gt := gt) (gd := gd) (xs := xs) (ys := ys) (ka := ka) (pa := p + 0) (fa := 0) (kb := kb) (pb := p + 0) (fb := 0) (r1 := r1) (r2 := r2) (wh := 0) (by omega) (by omega) q2 q3 q4 (by omega) (by omega) (by omega) (by omega) (by omega) (by omega) (by omega) g_916_66 g_916_67 n67 g_916_68 n68 g_916_69 n69 g_916_77 n77 g_916_78 n78 g_916_79 n79 g_916_80 n80 g_916_70 g_916_81 n81 g_916_82 n82 k_916) ?_
  rintro _ h_917 ⟨w'_917, gt'_917, gd'_917, xs'_917, ys'_917, r1'_917, r2'_917, rfl, e_917_66, e_917_77, m_917_77, e_917_78, m_917_78, e_917_79, m_917_79, e_917_80, m_917_80, e_917_81, m_917_81, e_917_82, m_917_82, F_917⟩
  have k_917 : cL h_917 := F_917.1.trans k_916
  have fr_917 := hfr_cb fr_916 F_917 rfl
  have g_917_67 := (hfr_g F_917 67 rfl).trans g_916_67
  have g_917_68 := (hfr_g F_917 68 rfl).trans g_916_68
  have g_917_69 := (hfr_g F_917 69 rfl).trans g_916_69
  have g_917_70 := (hfr_g F_917 70 rfl).trans g_916_70
  have g_917_83 := (hfr_g F_917 83 rfl).trans g_916_83
  have g_917_66 : cE h_917 66 (.inr (10, (fI pl :: .ref 67 :: .ref 68 :: .ref 69 :: fI ((s : Nat) : Int) :: .ref 70 :: .ref 71 :: fI (f 7) :: fI (f 8) :: .ref 72 :: fI (f 10) :: fI (f 11) :: fI (f 12) :: fJ (f 13) :: fI (f 14) :: fI (f 15) :: fI (f 16) :: fI (f 17) :: .ref 73 :: .ref 74 :: .ref 75 :: .ref 76 :: .ref 77 :: .ref 78 :: fI w'_917 :: .ref 79 :: .ref 80 :: .ref 81 :: .ref 82 :: .ref 83 :: .ref 84 :: .ref 85 :: fJ (f 32) :: fJ (f 33) :: .ref 86 :: .ref 87 :: fI (f 36) :: .ref 88 :: .ref 89 :: .ref 90 :: .ref 91 :: .ref 92 :: .ref 93 :: []))) := e_917_66
  have g_917_77 : cE h_917 77 (.inl (.int, fA gt'_917)) := e_917_77
  have g_917_78 : cE h_917 78 (.inl (.int, fA gd'_917)) := e_917_78
  have g_917_79 : cE h_917 79 (.inl (.long, fL xs'_917)) := e_917_79
  have g_917_80 : cE h_917 80 (.inl (.long, fL ys'_917)) := e_917_80
  have g_917_81 : cE h_917 81 (.inl (.long, fL r1'_917)) := e_917_81
  have g_917_82 : cE h_917 82 (.inl (.long, fL r2'_917)) := e_917_82
  refine ik_Wk 0 (pc_q := 99) (loc_q := [some (.ref 66), some (fI p), some (fI 2), some (fI pa), some (fI fa), some (fI pb), some (fI fb), some (fI 0), some (fI 0)]) (st_q := [fI (mr_w (mf_cm (fun x => mx_w cn go ch s x) (pl - 1) ka (p + 0)) 0 (mf_cm (fun x => mx_w cn go ch s x) (pl - 1) kb (p + 0)) 0 0), fI 0, .ref 83]) (h_q := h_917) (cl_q := 0) (sl_q := 0) rfl ?_
  have wb_917 : 0 ≤ mr_w (mf_cm (fun x => mx_w cn go ch s x) (pl - 1) ka (p + 0)) 0 (mf_cm (fun x => mx_w cn go ch s x) (pl - 1) kb (p + 0)) 0 0 ∧ mr_w (mf_cm (fun x => mx_w cn go ch s x) (pl - 1) ka (p + 0)) 0 (mf_cm (fun x => mx_w cn go ch s x) (pl - 1) kb (p + 0)) 0 0 ≤ 1000000 := mr_w_b (mr_ok_cm (W := (fun x => mx_w cn go ch s x)) (k := ka) q4 (show 0 ≤ p + 0 ∧ p + 0 < pl - 1 by omega)) (mr_ok_cm (W := (fun x => mx_w cn go ch s x)) (k := kb) q4 (show 0 ≤ p + 0 ∧ p + 0 < pl - 1 by omega)) (by decide +kernel) (by decide +kernel) 0
  refine fw_si rfl (by decide +kernel) ?_
  refine fx_idiv rfl (by omega) (by omega) (by omega) (by omega) ?_
  refine fw_i2l rfl (by omega) (by omega) ?_
  have hl3 : (fr.set (0 : Int).toNat ((mr_w (mf_cm (fun x => mx_w cn go ch s x) (pl - 1) ka (p + 0)) 0 (mf_cm (fun x => mx_w cn go ch s x) (pl - 1) kb (p + 0)) 0 0) / 1000)).length = 9 := (List.length_set ..).trans n83
  refine fx_las rfl g_917_83 (by omega) (by omega) (by omega) ?_
  intro h_918 e_918 f_918 l_918
  have k_918 : cL h_918 := l_918.trans k_917
  have fr_918 := hfr_wb fr_917 f_918 l_918 rfl
  clear l_918
  have g_918_66 := (f_918 66 (Nat.ne_of_beq_eq_false rfl)).trans g_917_66
  have g_918_67 := (f_918 67 (Nat.ne_of_beq_eq_false rfl)).trans g_917_67
  have g_918_68 := (f_918 68 (Nat.ne_of_beq_eq_false rfl)).trans g_917_68
  have g_918_69 := (f_918 69 (Nat.ne_of_beq_eq_false rfl)).trans g_917_69
  have g_918_77 := (f_918 77 (Nat.ne_of_beq_eq_false rfl)).trans g_917_77
  have g_918_78 := (f_918 78 (Nat.ne_of_beq_eq_false rfl)).trans g_917_78
  have g_918_79 := (f_918 79 (Nat.ne_of_beq_eq_false rfl)).trans g_917_79
  have g_918_80 := (f_918 80 (Nat.ne_of_beq_eq_false rfl)).trans g_917_80
  have g_918_70 := (f_918 70 (Nat.ne_of_beq_eq_false rfl)).trans g_917_70
  have g_918_81 := (f_918 81 (Nat.ne_of_beq_eq_false rfl)).trans g_917_81
  have g_918_82 := (f_918 82 (Nat.ne_of_beq_eq_false rfl)).trans g_917_82
  have g_918_83 : cE h_918 83 (.inl (.long, fL (fr.set (0 : Int).toNat ((mr_w (mf_cm (fun x => mx_w cn go ch s x) (pl - 1) ka (p + 0)) 0 (mf_cm (fun x => mx_w cn go ch s x) (pl - 1) kb (p + 0)) 0 0) / 1000)))) := e_918
  refine fw_inc (a := 0) (loc_q := [some (.ref 66), some (fI p), some (fI 2), some (fI pa), some (fI fa), some (fI pb), some (fI fb), some (fI 0), some (fI 1)]) rfl rfl (Nat.le_of_ble_eq_true rfl) rfl ?_
  refine ik_Wk 3 (pc_q := 60) (loc_q := [some (.ref 66), some (fI p), some (fI 2), some (fI pa), some (fI fa), some (fI pb), some (fI fb), some (fI 0), some (fI 1)]) (st_q := [fI 2, fI 1]) (h_q := h_918) (cl_q := 0) (sl_q := 0) rfl ?_
  refine fw_ic_ge rfl rfl (by decide +kernel) (by decide +kernel) (by decide +kernel) (by decide +kernel) (fun hc4 => absurd hc4 (by decide +kernel)) (fun hc4 => ?_)
  refine ik_Wk 1 (pc_q := 64) (loc_q := [some (.ref 66), some (fI p), some (fI 2), some (fI pa), some (fI fa), some (fI pb), some (fI fb), some (fI 0), some (fI 1)]) (st_q := [.ref 66]) (h_q := h_918) (cl_q := 0) (sl_q := 0) rfl ?_
  refine fw_gf rfl rfl g_918_66 rfl ?_
  refine ik_Wk 3 (pc_q := 71) (loc_q := [some (.ref 66), some (fI p), some (fI 2), some (fI pa), some (fI fa), some (fI pb), some (fI fb), some (fI 0), some (fI 1)]) (st_q := [fI 0, fI p, fI 1, .ref 70]) (h_q := h_918) (cl_q := 0) (sl_q := 0) rfl ?_
  refine fw_add rfl ?_
  refine fx_ias (z := 1) rfl g_918_70 (by decide +kernel) (Nat.le_of_ble_eq_true rfl) (by decide +kernel) ?_
  intro h_919 e_919 f_919 l_919
  have k_919 : cL h_919 := l_919.trans k_918
  have fr_919 := hfr_wb fr_918 f_919 l_919 rfl
  clear l_919
  have g_919_66 := (f_919 66 (Nat.ne_of_beq_eq_false rfl)).trans g_918_66
  have g_919_67 := (f_919 67 (Nat.ne_of_beq_eq_false rfl)).trans g_918_67
  have g_919_68 := (f_919 68 (Nat.ne_of_beq_eq_false rfl)).trans g_918_68
  have g_919_69 := (f_919 69 (Nat.ne_of_beq_eq_false rfl)).trans g_918_69
  have g_919_77 := (f_919 77 (Nat.ne_of_beq_eq_false rfl)).trans g_918_77
  have g_919_78 := (f_919 78 (Nat.ne_of_beq_eq_false rfl)).trans g_918_78
  have g_919_79 := (f_919 79 (Nat.ne_of_beq_eq_false rfl)).trans g_918_79
  have g_919_80 := (f_919 80 (Nat.ne_of_beq_eq_false rfl)).trans g_918_80
  have g_919_81 := (f_919 81 (Nat.ne_of_beq_eq_false rfl)).trans g_918_81
  have g_919_82 := (f_919 82 (Nat.ne_of_beq_eq_false rfl)).trans g_918_82
  have g_919_83 := (f_919 83 (Nat.ne_of_beq_eq_false rfl)).trans g_918_83
  have g_919_70 : cE h_919 70 (.inl (.int, fA [ka, p + 0, 0, kb, p + 0, 0])) := e_919
  refine ik_Wk 1 (pc_q := 74) (loc_q := [some (.ref 66), some (fI p), some (fI 2), some (fI pa), some (fI fa), some (fI pb), some (fI fb), some (fI 0), some (fI 1)]) (st_q := [.ref 66]) (h_q := h_919) (cl_q := 0) (sl_q := 0) rfl ?_
  refine fw_gf rfl rfl g_919_66 rfl ?_
  refine ik_Wk 3 (pc_q := 81) (loc_q := [some (.ref 66), some (fI p), some (fI 2), some (fI pa), some (fI fa), some (fI pb), some (fI fb), some (fI 0), some (fI 1)]) (st_q := [fI 1, fI p, fI 4, .ref 70]) (h_q := h_919) (cl_q := 0) (sl_q := 0) rfl ?_
  refine fw_add rfl ?_
  refine fx_ias (z := 4) rfl g_919_70 (by decide +kernel) (Nat.le_of_ble_eq_true rfl) (by decide +kernel) ?_
  intro h_920 e_920 f_920 l_920
  have k_920 : cL h_920 := l_920.trans k_919
  have fr_920 := hfr_wb fr_919 f_920 l_920 rfl
  clear l_920
  have g_920_66 := (f_920 66 (Nat.ne_of_beq_eq_false rfl)).trans g_919_66
  have g_920_67 := (f_920 67 (Nat.ne_of_beq_eq_false rfl)).trans g_919_67
  have g_920_68 := (f_920 68 (Nat.ne_of_beq_eq_false rfl)).trans g_919_68
  have g_920_69 := (f_920 69 (Nat.ne_of_beq_eq_false rfl)).trans g_919_69
  have g_920_77 := (f_920 77 (Nat.ne_of_beq_eq_false rfl)).trans g_919_77
  have g_920_78 := (f_920 78 (Nat.ne_of_beq_eq_false rfl)).trans g_919_78
  have g_920_79 := (f_920 79 (Nat.ne_of_beq_eq_false rfl)).trans g_919_79
  have g_920_80 := (f_920 80 (Nat.ne_of_beq_eq_false rfl)).trans g_919_80
  have g_920_81 := (f_920 81 (Nat.ne_of_beq_eq_false rfl)).trans g_919_81
  have g_920_82 := (f_920 82 (Nat.ne_of_beq_eq_false rfl)).trans g_919_82
  have g_920_83 := (f_920 83 (Nat.ne_of_beq_eq_false rfl)).trans g_919_83
  have g_920_70 : cE h_920 70 (.inl (.int, fA [ka, p + 0, 0, kb, p + 1, 0])) := e_920
  refine ik_Wk 1 (pc_q := 84) (loc_q := [some (.ref 66), some (fI p), some (fI 2), some (fI pa), some (fI fa), some (fI pb), some (fI fb), some (fI 0), some (fI 1)]) (st_q := [.ref 66]) (h_q := h_920) (cl_q := 0) (sl_q := 0) rfl ?_
  refine fw_gf rfl rfl g_920_66 rfl ?_
  refine ik_Wk 2 (pc_q := 90) (loc_q := [some (.ref 66), some (fI p), some (fI 2), some (fI pa), some (fI fa), some (fI pb), some (fI fb), some (fI 0), some (fI 1)]) (st_q := [fI 0, fI 3, .ref 83]) (h_q := h_920) (cl_q := 0) (sl_q := 0) rfl ?_
  refine fw_mul rfl ?_
  refine ik_Wk 1 (pc_q := 93) (loc_q := [some (.ref 66), some (fI p), some (fI 2), some (fI pa), some (fI fa), some (fI pb), some (fI fb), some (fI 0), some (fI 1)]) (st_q := [fI 1, fI 0, .ref 83]) (h_q := h_920) (cl_q := 0) (sl_q := 0) rfl ?_
  refine fw_add rfl ?_
  refine ik_Wk 2 (pc_q := 96) (loc_q := [some (.ref 66), some (fI p), some (fI 2), some (fI pa), some (fI fa), some (fI pb), some (fI fb), some (fI 0), some (fI 1)]) (st_q := [fI 0, .ref 66, fI 1, .ref 83]) (h_q := h_920) (cl_q := 0) (sl_q := 0) rfl ?_
  refine fw_call 169 2 0 [.ref 66, fI 0] [fI 1, .ref 83] rfl rfl rfl (Nat.le_of_ble_eq_true rfl) rfl rfl (fw_rec k_920 rfl g_920_66 rfl (Nat.le_of_ble_eq_true rfl)) (cr_laterOf (pl := pl) (f := fun j => ((0 :: 0 :: 0 :: 0 :: 0 :: 0 :: 0 :: ((f 7)) :: ((f 8)) :: 0 :: ((f 10)) :: ((f 11)) :: ((f 12)) :: ((f 13)) :: ((f 14)) :: ((f 15)) :: ((f 16)) :: ((f 17)) :: 0 :: 0 :: 0 :: 0 :: 0 :: 0 :: w'_917 :: 0 :: 0 :: 0 :: 0 :: 0 :: 0 :: 0 :: ((f 32)) :: ((f 33)) :: 0 :: 0 :: ((f 36)) :: 0 :: 0 :: 0 :: 0 :: 0 :: 0 :: []) : List Int).getD j 0) (s := s) (cn := cn) (go := go) (ch := ch) (gt := gt'_917) (gd := gd'_917) (xs := xs'_917) (ys := ys'_917) (ka := ka) (pa := p + 0) (fa := 0) (kb := kb) (pb := p + 1) (fb := 0) (r1 := r1'_917) (r2 := r2'_917) (wh := 0) (by omega) (by omega) q2 q3 q4 (by omega) (by omega) (by omega) (by omega) (by omega) (by omega) (by omega) g_920_66 g_920_67 n67 g_920_68 n68 g_920_69 n69 g_920_77 m_917_77 g_920_78 m_917_78 g_920_79 m_917_79 g_920_80 m_917_80 g_920_70 g_920_81 m_917_81 g_920_82 m_917_82 k_920) ?_
  rintro _ h_921 ⟨w'_921, gt'_921, gd'_921, xs'_921, ys'_921, r1'_921, r2'_921, rfl, e_921_66, e_921_77, m_921_77, e_921_78, m_921_78, e_921_79, m_921_79, e_921_80, m_921_80, e_921_81, m_921_81, e_921_82, m_921_82, F_921⟩
  have k_921 : cL h_921 := F_921.1.trans k_920
  have fr_921 := hfr_cb fr_920 F_921 rfl
  have g_921_67 := (hfr_g F_921 67 rfl).trans g_920_67
  have g_921_68 := (hfr_g F_921 68 rfl).trans g_920_68
  have g_921_69 := (hfr_g F_921 69 rfl).trans g_920_69
  have g_921_70 := (hfr_g F_921 70 rfl).trans g_920_70
  have g_921_83 := (hfr_g F_921 83 rfl).trans g_920_83
  have g_921_66 : cE h_921 66 (.inr (10, (fI pl :: .ref 67 :: .ref 68 :: .ref 69 :: fI ((s : Nat) : Int) :: .ref 70 :: .ref 71 :: fI (f 7) :: fI (f 8) :: .ref 72 :: fI (f 10) :: fI (f 11) :: fI (f 12) :: fJ (f 13) :: fI (f 14) :: fI (f 15) :: fI (f 16) :: fI (f 17) :: .ref 73 :: .ref 74 :: .ref 75 :: .ref 76 :: .ref 77 :: .ref 78 :: fI w'_921 :: .ref 79 :: .ref 80 :: .ref 81 :: .ref 82 :: .ref 83 :: .ref 84 :: .ref 85 :: fJ (f 32) :: fJ (f 33) :: .ref 86 :: .ref 87 :: fI (f 36) :: .ref 88 :: .ref 89 :: .ref 90 :: .ref 91 :: .ref 92 :: .ref 93 :: []))) := e_921_66
  have g_921_77 : cE h_921 77 (.inl (.int, fA gt'_921)) := e_921_77
  have g_921_78 : cE h_921 78 (.inl (.int, fA gd'_921)) := e_921_78
  have g_921_79 : cE h_921 79 (.inl (.long, fL xs'_921)) := e_921_79
  have g_921_80 : cE h_921 80 (.inl (.long, fL ys'_921)) := e_921_80
  have g_921_81 : cE h_921 81 (.inl (.long, fL r1'_921)) := e_921_81
  have g_921_82 : cE h_921 82 (.inl (.long, fL r2'_921)) := e_921_82
  refine ik_Wk 0 (pc_q := 99) (loc_q := [some (.ref 66), some (fI p), some (fI 2), some (fI pa), some (fI fa), some (fI pb), some (fI fb), some (fI 0), some (fI 1)]) (st_q := [fI (mr_w (mf_cm (fun x => mx_w cn go ch s x) (pl - 1) ka (p + 0)) 0 (mf_cm (fun x => mx_w cn go ch s x) (pl - 1) kb (p + 1)) 0 0), fI 1, .ref 83]) (h_q := h_921) (cl_q := 0) (sl_q := 0) rfl ?_
  have wb_921 : 0 ≤ mr_w (mf_cm (fun x => mx_w cn go ch s x) (pl - 1) ka (p + 0)) 0 (mf_cm (fun x => mx_w cn go ch s x) (pl - 1) kb (p + 1)) 0 0 ∧ mr_w (mf_cm (fun x => mx_w cn go ch s x) (pl - 1) ka (p + 0)) 0 (mf_cm (fun x => mx_w cn go ch s x) (pl - 1) kb (p + 1)) 0 0 ≤ 1000000 := mr_w_b (mr_ok_cm (W := (fun x => mx_w cn go ch s x)) (k := ka) q4 (show 0 ≤ p + 0 ∧ p + 0 < pl - 1 by omega)) (mr_ok_cm (W := (fun x => mx_w cn go ch s x)) (k := kb) q4 (show 0 ≤ p + 1 ∧ p + 1 < pl - 1 by omega)) (by decide +kernel) (by decide +kernel) 0
  refine fw_si rfl (by decide +kernel) ?_
  refine fx_idiv rfl (by omega) (by omega) (by omega) (by omega) ?_
  refine fw_i2l rfl (by omega) (by omega) ?_
  have hl5 : ((fr.set (0 : Int).toNat ((mr_w (mf_cm (fun x => mx_w cn go ch s x) (pl - 1) ka (p + 0)) 0 (mf_cm (fun x => mx_w cn go ch s x) (pl - 1) kb (p + 0)) 0 0) / 1000)).set (1 : Int).toNat ((mr_w (mf_cm (fun x => mx_w cn go ch s x) (pl - 1) ka (p + 0)) 0 (mf_cm (fun x => mx_w cn go ch s x) (pl - 1) kb (p + 1)) 0 0) / 1000)).length = 9 := (List.length_set ..).trans hl3
  refine fx_las rfl g_921_83 (by omega) (by omega) (by omega) ?_
  intro h_922 e_922 f_922 l_922
  have k_922 : cL h_922 := l_922.trans k_921
  have fr_922 := hfr_wb fr_921 f_922 l_922 rfl
  clear l_922
  have g_922_66 := (f_922 66 (Nat.ne_of_beq_eq_false rfl)).trans g_921_66
  have g_922_67 := (f_922 67 (Nat.ne_of_beq_eq_false rfl)).trans g_921_67
  have g_922_68 := (f_922 68 (Nat.ne_of_beq_eq_false rfl)).trans g_921_68
  have g_922_69 := (f_922 69 (Nat.ne_of_beq_eq_false rfl)).trans g_921_69
  have g_922_77 := (f_922 77 (Nat.ne_of_beq_eq_false rfl)).trans g_921_77
  have g_922_78 := (f_922 78 (Nat.ne_of_beq_eq_false rfl)).trans g_921_78
  have g_922_79 := (f_922 79 (Nat.ne_of_beq_eq_false rfl)).trans g_921_79
  have g_922_80 := (f_922 80 (Nat.ne_of_beq_eq_false rfl)).trans g_921_80
  have g_922_70 := (f_922 70 (Nat.ne_of_beq_eq_false rfl)).trans g_921_70
  have g_922_81 := (f_922 81 (Nat.ne_of_beq_eq_false rfl)).trans g_921_81
  have g_922_82 := (f_922 82 (Nat.ne_of_beq_eq_false rfl)).trans g_921_82
  have g_922_83 : cE h_922 83 (.inl (.long, fL ((fr.set (0 : Int).toNat ((mr_w (mf_cm (fun x => mx_w cn go ch s x) (pl - 1) ka (p + 0)) 0 (mf_cm (fun x => mx_w cn go ch s x) (pl - 1) kb (p + 0)) 0 0) / 1000)).set (1 : Int).toNat ((mr_w (mf_cm (fun x => mx_w cn go ch s x) (pl - 1) ka (p + 0)) 0 (mf_cm (fun x => mx_w cn go ch s x) (pl - 1) kb (p + 1)) 0 0) / 1000)))) := e_922
  refine fw_inc (a := 1) (loc_q := [some (.ref 66), some (fI p), some (fI 2), some (fI pa), some (fI fa), some (fI pb), some (fI fb), some (fI 0), some (fI 2)]) rfl rfl (Nat.le_of_ble_eq_true rfl) rfl ?_
  refine ik_Wk 3 (pc_q := 60) (loc_q := [some (.ref 66), some (fI p), some (fI 2), some (fI pa), some (fI fa), some (fI pb), some (fI fb), some (fI 0), some (fI 2)]) (st_q := [fI 2, fI 2]) (h_q := h_922) (cl_q := 0) (sl_q := 0) rfl ?_
  refine fw_ic_ge rfl rfl (by decide +kernel) (by decide +kernel) (by decide +kernel) (by decide +kernel) (fun hc6 => ?_) (fun hc6 => absurd hc6 (by decide +kernel))
  refine fw_inc (a := 0) (loc_q := [some (.ref 66), some (fI p), some (fI 2), some (fI pa), some (fI fa), some (fI pb), some (fI fb), some (fI 1), some (fI 2)]) rfl rfl (Nat.le_of_ble_eq_true rfl) rfl ?_
  refine ik_Wk 3 (pc_q := 51) (loc_q := [some (.ref 66), some (fI p), some (fI 2), some (fI pa), some (fI fa), some (fI pb), some (fI fb), some (fI 1), some (fI 2)]) (st_q := [fI 2, fI 1]) (h_q := h_922) (cl_q := 0) (sl_q := 0) rfl ?_
  refine fw_ic_ge rfl rfl (by decide +kernel) (by decide +kernel) (by decide +kernel) (by decide +kernel) (fun hc7 => absurd hc7 (by decide +kernel)) (fun hc7 => ?_)
  refine ik_Wk 4 (pc_q := 60) (loc_q := [some (.ref 66), some (fI p), some (fI 2), some (fI pa), some (fI fa), some (fI pb), some (fI fb), some (fI 1), some (fI 0)]) (st_q := [fI 2, fI 0]) (h_q := h_922) (cl_q := 0) (sl_q := 0) rfl ?_
  refine fw_ic_ge rfl rfl (by decide +kernel) (by decide +kernel) (by decide +kernel) (by decide +kernel) (fun hc8 => absurd hc8 (by decide +kernel)) (fun hc8 => ?_)
  refine ik_Wk 1 (pc_q := 64) (loc_q := [some (.ref 66), some (fI p), some (fI 2), some (fI pa), some (fI fa), some (fI pb), some (fI fb), some (fI 1), some (fI 0)]) (st_q := [.ref 66]) (h_q := h_922) (cl_q := 0) (sl_q := 0) rfl ?_
  refine fw_gf rfl rfl g_922_66 rfl ?_
  refine ik_Wk 3 (pc_q := 71) (loc_q := [some (.ref 66), some (fI p), some (fI 2), some (fI pa), some (fI fa), some (fI pb), some (fI fb), some (fI 1), some (fI 0)]) (st_q := [fI 1, fI p, fI 1, .ref 70]) (h_q := h_922) (cl_q := 0) (sl_q := 0) rfl ?_
  refine fw_add rfl ?_
  refine fx_ias (z := 1) rfl g_922_70 (by decide +kernel) (Nat.le_of_ble_eq_true rfl) (by decide +kernel) ?_
  intro h_923 e_923 f_923 l_923
  have k_923 : cL h_923 := l_923.trans k_922
  have fr_923 := hfr_wb fr_922 f_923 l_923 rfl
  clear l_923
  have g_923_66 := (f_923 66 (Nat.ne_of_beq_eq_false rfl)).trans g_922_66
  have g_923_67 := (f_923 67 (Nat.ne_of_beq_eq_false rfl)).trans g_922_67
  have g_923_68 := (f_923 68 (Nat.ne_of_beq_eq_false rfl)).trans g_922_68
  have g_923_69 := (f_923 69 (Nat.ne_of_beq_eq_false rfl)).trans g_922_69
  have g_923_77 := (f_923 77 (Nat.ne_of_beq_eq_false rfl)).trans g_922_77
  have g_923_78 := (f_923 78 (Nat.ne_of_beq_eq_false rfl)).trans g_922_78
  have g_923_79 := (f_923 79 (Nat.ne_of_beq_eq_false rfl)).trans g_922_79
  have g_923_80 := (f_923 80 (Nat.ne_of_beq_eq_false rfl)).trans g_922_80
  have g_923_81 := (f_923 81 (Nat.ne_of_beq_eq_false rfl)).trans g_922_81
  have g_923_82 := (f_923 82 (Nat.ne_of_beq_eq_false rfl)).trans g_922_82
  have g_923_83 := (f_923 83 (Nat.ne_of_beq_eq_false rfl)).trans g_922_83
  have g_923_70 : cE h_923 70 (.inl (.int, fA [ka, p + 1, 0, kb, p + 1, 0])) := e_923
  refine ik_Wk 1 (pc_q := 74) (loc_q := [some (.ref 66), some (fI p), some (fI 2), some (fI pa), some (fI fa), some (fI pb), some (fI fb), some (fI 1), some (fI 0)]) (st_q := [.ref 66]) (h_q := h_923) (cl_q := 0) (sl_q := 0) rfl ?_
  refine fw_gf rfl rfl g_923_66 rfl ?_
  refine ik_Wk 3 (pc_q := 81) (loc_q := [some (.ref 66), some (fI p), some (fI 2), some (fI pa), some (fI fa), some (fI pb), some (fI fb), some (fI 1), some (fI 0)]) (st_q := [fI 0, fI p, fI 4, .ref 70]) (h_q := h_923) (cl_q := 0) (sl_q := 0) rfl ?_
  refine fw_add rfl ?_
  refine fx_ias (z := 4) rfl g_923_70 (by decide +kernel) (Nat.le_of_ble_eq_true rfl) (by decide +kernel) ?_
  intro h_924 e_924 f_924 l_924
  have k_924 : cL h_924 := l_924.trans k_923
  have fr_924 := hfr_wb fr_923 f_924 l_924 rfl
  clear l_924
  have g_924_66 := (f_924 66 (Nat.ne_of_beq_eq_false rfl)).trans g_923_66
  have g_924_67 := (f_924 67 (Nat.ne_of_beq_eq_false rfl)).trans g_923_67
  have g_924_68 := (f_924 68 (Nat.ne_of_beq_eq_false rfl)).trans g_923_68
  have g_924_69 := (f_924 69 (Nat.ne_of_beq_eq_false rfl)).trans g_923_69
  have g_924_77 := (f_924 77 (Nat.ne_of_beq_eq_false rfl)).trans g_923_77
  have g_924_78 := (f_924 78 (Nat.ne_of_beq_eq_false rfl)).trans g_923_78
  have g_924_79 := (f_924 79 (Nat.ne_of_beq_eq_false rfl)).trans g_923_79
  have g_924_80 := (f_924 80 (Nat.ne_of_beq_eq_false rfl)).trans g_923_80
  have g_924_81 := (f_924 81 (Nat.ne_of_beq_eq_false rfl)).trans g_923_81
  have g_924_82 := (f_924 82 (Nat.ne_of_beq_eq_false rfl)).trans g_923_82
  have g_924_83 := (f_924 83 (Nat.ne_of_beq_eq_false rfl)).trans g_923_83
  have g_924_70 : cE h_924 70 (.inl (.int, fA [ka, p + 1, 0, kb, p + 0, 0])) := e_924
  refine ik_Wk 1 (pc_q := 84) (loc_q := [some (.ref 66), some (fI p), some (fI 2), some (fI pa), some (fI fa), some (fI pb), some (fI fb), some (fI 1), some (fI 0)]) (st_q := [.ref 66]) (h_q := h_924) (cl_q := 0) (sl_q := 0) rfl ?_
  refine fw_gf rfl rfl g_924_66 rfl ?_
  refine ik_Wk 2 (pc_q := 90) (loc_q := [some (.ref 66), some (fI p), some (fI 2), some (fI pa), some (fI fa), some (fI pb), some (fI fb), some (fI 1), some (fI 0)]) (st_q := [fI 1, fI 3, .ref 83]) (h_q := h_924) (cl_q := 0) (sl_q := 0) rfl ?_
  refine fw_mul rfl ?_
  refine ik_Wk 1 (pc_q := 93) (loc_q := [some (.ref 66), some (fI p), some (fI 2), some (fI pa), some (fI fa), some (fI pb), some (fI fb), some (fI 1), some (fI 0)]) (st_q := [fI 0, fI 3, .ref 83]) (h_q := h_924) (cl_q := 0) (sl_q := 0) rfl ?_
  refine fw_add rfl ?_
  refine ik_Wk 2 (pc_q := 96) (loc_q := [some (.ref 66), some (fI p), some (fI 2), some (fI pa), some (fI fa), some (fI pb), some (fI fb), some (fI 1), some (fI 0)]) (st_q := [fI 0, .ref 66, fI 3, .ref 83]) (h_q := h_924) (cl_q := 0) (sl_q := 0) rfl ?_
  refine fw_call 169 2 0 [.ref 66, fI 0] [fI 3, .ref 83] rfl rfl rfl (Nat.le_of_ble_eq_true rfl) rfl rfl (fw_rec k_924 rfl g_924_66 rfl (Nat.le_of_ble_eq_true rfl)) (cr_laterOf (pl := pl) (f := fun j => ((0 :: 0 :: 0 :: 0 :: 0 :: 0 :: 0 :: ((f 7)) :: ((f 8)) :: 0 :: ((f 10)) :: ((f 11)) :: ((f 12)) :: ((f 13)) :: ((f 14)) :: ((f 15)) :: ((f 16)) :: ((f 17)) :: 0 :: 0 :: 0 :: 0 :: 0 :: 0 :: w'_921 :: 0 :: 0 :: 0 :: 0 :: 0 :: 0 :: 0 :: ((f 32)) :: ((f 33)) :: 0 :: 0 :: ((f 36)) :: 0 :: 0 :: 0 :: 0 :: 0 :: 0 :: []) : List Int).getD j 0) (s := s) (cn := cn) (go := go) (ch := ch) (gt := gt'_921) (gd := gd'_921) (xs := xs'_921) (ys := ys'_921) (ka := ka) (pa := p + 1) (fa := 0) (kb := kb) (pb := p + 0) (fb := 0) (r1 := r1'_921) (r2 := r2'_921) (wh := 0) (by omega) (by omega) q2 q3 q4 (by omega) (by omega) (by omega) (by omega) (by omega) (by omega) (by omega) g_924_66 g_924_67 n67 g_924_68 n68 g_924_69 n69 g_924_77 m_921_77 g_924_78 m_921_78 g_924_79 m_921_79 g_924_80 m_921_80 g_924_70 g_924_81 m_921_81 g_924_82 m_921_82 k_924) ?_
  rintro _ h_925 ⟨w'_925, gt'_925, gd'_925, xs'_925, ys'_925, r1'_925, r2'_925, rfl, e_925_66, e_925_77, m_925_77, e_925_78, m_925_78, e_925_79, m_925_79, e_925_80, m_925_80, e_925_81, m_925_81, e_925_82, m_925_82, F_925⟩
  have k_925 : cL h_925 := F_925.1.trans k_924
  have fr_925 := hfr_cb fr_924 F_925 rfl
  have g_925_67 := (hfr_g F_925 67 rfl).trans g_924_67
  have g_925_68 := (hfr_g F_925 68 rfl).trans g_924_68
  have g_925_69 := (hfr_g F_925 69 rfl).trans g_924_69
  have g_925_70 := (hfr_g F_925 70 rfl).trans g_924_70
  have g_925_83 := (hfr_g F_925 83 rfl).trans g_924_83
  have g_925_66 : cE h_925 66 (.inr (10, (fI pl :: .ref 67 :: .ref 68 :: .ref 69 :: fI ((s : Nat) : Int) :: .ref 70 :: .ref 71 :: fI (f 7) :: fI (f 8) :: .ref 72 :: fI (f 10) :: fI (f 11) :: fI (f 12) :: fJ (f 13) :: fI (f 14) :: fI (f 15) :: fI (f 16) :: fI (f 17) :: .ref 73 :: .ref 74 :: .ref 75 :: .ref 76 :: .ref 77 :: .ref 78 :: fI w'_925 :: .ref 79 :: .ref 80 :: .ref 81 :: .ref 82 :: .ref 83 :: .ref 84 :: .ref 85 :: fJ (f 32) :: fJ (f 33) :: .ref 86 :: .ref 87 :: fI (f 36) :: .ref 88 :: .ref 89 :: .ref 90 :: .ref 91 :: .ref 92 :: .ref 93 :: []))) := e_925_66
  have g_925_77 : cE h_925 77 (.inl (.int, fA gt'_925)) := e_925_77
  have g_925_78 : cE h_925 78 (.inl (.int, fA gd'_925)) := e_925_78
  have g_925_79 : cE h_925 79 (.inl (.long, fL xs'_925)) := e_925_79
  have g_925_80 : cE h_925 80 (.inl (.long, fL ys'_925)) := e_925_80
  have g_925_81 : cE h_925 81 (.inl (.long, fL r1'_925)) := e_925_81
  have g_925_82 : cE h_925 82 (.inl (.long, fL r2'_925)) := e_925_82
  refine ik_Wk 0 (pc_q := 99) (loc_q := [some (.ref 66), some (fI p), some (fI 2), some (fI pa), some (fI fa), some (fI pb), some (fI fb), some (fI 1), some (fI 0)]) (st_q := [fI (mr_w (mf_cm (fun x => mx_w cn go ch s x) (pl - 1) ka (p + 1)) 0 (mf_cm (fun x => mx_w cn go ch s x) (pl - 1) kb (p + 0)) 0 0), fI 3, .ref 83]) (h_q := h_925) (cl_q := 0) (sl_q := 0) rfl ?_
  have wb_925 : 0 ≤ mr_w (mf_cm (fun x => mx_w cn go ch s x) (pl - 1) ka (p + 1)) 0 (mf_cm (fun x => mx_w cn go ch s x) (pl - 1) kb (p + 0)) 0 0 ∧ mr_w (mf_cm (fun x => mx_w cn go ch s x) (pl - 1) ka (p + 1)) 0 (mf_cm (fun x => mx_w cn go ch s x) (pl - 1) kb (p + 0)) 0 0 ≤ 1000000 := mr_w_b (mr_ok_cm (W := (fun x => mx_w cn go ch s x)) (k := ka) q4 (show 0 ≤ p + 1 ∧ p + 1 < pl - 1 by omega)) (mr_ok_cm (W := (fun x => mx_w cn go ch s x)) (k := kb) q4 (show 0 ≤ p + 0 ∧ p + 0 < pl - 1 by omega)) (by decide +kernel) (by decide +kernel) 0
  refine fw_si rfl (by decide +kernel) ?_
  refine fx_idiv rfl (by omega) (by omega) (by omega) (by omega) ?_
  refine fw_i2l rfl (by omega) (by omega) ?_
  have hl9 : (((fr.set (0 : Int).toNat ((mr_w (mf_cm (fun x => mx_w cn go ch s x) (pl - 1) ka (p + 0)) 0 (mf_cm (fun x => mx_w cn go ch s x) (pl - 1) kb (p + 0)) 0 0) / 1000)).set (1 : Int).toNat ((mr_w (mf_cm (fun x => mx_w cn go ch s x) (pl - 1) ka (p + 0)) 0 (mf_cm (fun x => mx_w cn go ch s x) (pl - 1) kb (p + 1)) 0 0) / 1000)).set (3 : Int).toNat ((mr_w (mf_cm (fun x => mx_w cn go ch s x) (pl - 1) ka (p + 1)) 0 (mf_cm (fun x => mx_w cn go ch s x) (pl - 1) kb (p + 0)) 0 0) / 1000)).length = 9 := (List.length_set ..).trans hl5
  refine fx_las rfl g_925_83 (by omega) (by omega) (by omega) ?_
  intro h_926 e_926 f_926 l_926
  have k_926 : cL h_926 := l_926.trans k_925
  have fr_926 := hfr_wb fr_925 f_926 l_926 rfl
  clear l_926
  have g_926_66 := (f_926 66 (Nat.ne_of_beq_eq_false rfl)).trans g_925_66
  have g_926_67 := (f_926 67 (Nat.ne_of_beq_eq_false rfl)).trans g_925_67
  have g_926_68 := (f_926 68 (Nat.ne_of_beq_eq_false rfl)).trans g_925_68
  have g_926_69 := (f_926 69 (Nat.ne_of_beq_eq_false rfl)).trans g_925_69
  have g_926_77 := (f_926 77 (Nat.ne_of_beq_eq_false rfl)).trans g_925_77
  have g_926_78 := (f_926 78 (Nat.ne_of_beq_eq_false rfl)).trans g_925_78
  have g_926_79 := (f_926 79 (Nat.ne_of_beq_eq_false rfl)).trans g_925_79
  have g_926_80 := (f_926 80 (Nat.ne_of_beq_eq_false rfl)).trans g_925_80
  have g_926_70 := (f_926 70 (Nat.ne_of_beq_eq_false rfl)).trans g_925_70
  have g_926_81 := (f_926 81 (Nat.ne_of_beq_eq_false rfl)).trans g_925_81
  have g_926_82 := (f_926 82 (Nat.ne_of_beq_eq_false rfl)).trans g_925_82
  have g_926_83 : cE h_926 83 (.inl (.long, fL (((fr.set (0 : Int).toNat ((mr_w (mf_cm (fun x => mx_w cn go ch s x) (pl - 1) ka (p + 0)) 0 (mf_cm (fun x => mx_w cn go ch s x) (pl - 1) kb (p + 0)) 0 0) / 1000)).set (1 : Int).toNat ((mr_w (mf_cm (fun x => mx_w cn go ch s x) (pl - 1) ka (p + 0)) 0 (mf_cm (fun x => mx_w cn go ch s x) (pl - 1) kb (p + 1)) 0 0) / 1000)).set (3 : Int).toNat ((mr_w (mf_cm (fun x => mx_w cn go ch s x) (pl - 1) ka (p + 1)) 0 (mf_cm (fun x => mx_w cn go ch s x) (pl - 1) kb (p + 0)) 0 0) / 1000)))) := e_926
  refine fw_inc (a := 0) (loc_q := [some (.ref 66), some (fI p), some (fI 2), some (fI pa), some (fI fa), some (fI pb), some (fI fb), some (fI 1), some (fI 1)]) rfl rfl (Nat.le_of_ble_eq_true rfl) rfl ?_
  refine ik_Wk 3 (pc_q := 60) (loc_q := [some (.ref 66), some (fI p), some (fI 2), some (fI pa), some (fI fa), some (fI pb), some (fI fb), some (fI 1), some (fI 1)]) (st_q := [fI 2, fI 1]) (h_q := h_926) (cl_q := 0) (sl_q := 0) rfl ?_
  refine fw_ic_ge rfl rfl (by decide +kernel) (by decide +kernel) (by decide +kernel) (by decide +kernel) (fun hc10 => absurd hc10 (by decide +kernel)) (fun hc10 => ?_)
  refine ik_Wk 1 (pc_q := 64) (loc_q := [some (.ref 66), some (fI p), some (fI 2), some (fI pa), some (fI fa), some (fI pb), some (fI fb), some (fI 1), some (fI 1)]) (st_q := [.ref 66]) (h_q := h_926) (cl_q := 0) (sl_q := 0) rfl ?_
  refine fw_gf rfl rfl g_926_66 rfl ?_
  refine ik_Wk 3 (pc_q := 71) (loc_q := [some (.ref 66), some (fI p), some (fI 2), some (fI pa), some (fI fa), some (fI pb), some (fI fb), some (fI 1), some (fI 1)]) (st_q := [fI 1, fI p, fI 1, .ref 70]) (h_q := h_926) (cl_q := 0) (sl_q := 0) rfl ?_
  refine fw_add rfl ?_
  refine fx_ias (z := 1) rfl g_926_70 (by decide +kernel) (Nat.le_of_ble_eq_true rfl) (by decide +kernel) ?_
  intro h_927 e_927 f_927 l_927
  have k_927 : cL h_927 := l_927.trans k_926
  have fr_927 := hfr_wb fr_926 f_927 l_927 rfl
  clear l_927
  have g_927_66 := (f_927 66 (Nat.ne_of_beq_eq_false rfl)).trans g_926_66
  have g_927_67 := (f_927 67 (Nat.ne_of_beq_eq_false rfl)).trans g_926_67
  have g_927_68 := (f_927 68 (Nat.ne_of_beq_eq_false rfl)).trans g_926_68
  have g_927_69 := (f_927 69 (Nat.ne_of_beq_eq_false rfl)).trans g_926_69
  have g_927_77 := (f_927 77 (Nat.ne_of_beq_eq_false rfl)).trans g_926_77
  have g_927_78 := (f_927 78 (Nat.ne_of_beq_eq_false rfl)).trans g_926_78
  have g_927_79 := (f_927 79 (Nat.ne_of_beq_eq_false rfl)).trans g_926_79
  have g_927_80 := (f_927 80 (Nat.ne_of_beq_eq_false rfl)).trans g_926_80
  have g_927_81 := (f_927 81 (Nat.ne_of_beq_eq_false rfl)).trans g_926_81
  have g_927_82 := (f_927 82 (Nat.ne_of_beq_eq_false rfl)).trans g_926_82
  have g_927_83 := (f_927 83 (Nat.ne_of_beq_eq_false rfl)).trans g_926_83
  have g_927_70 : cE h_927 70 (.inl (.int, fA [ka, p + 1, 0, kb, p + 0, 0])) := e_927
  refine ik_Wk 1 (pc_q := 74) (loc_q := [some (.ref 66), some (fI p), some (fI 2), some (fI pa), some (fI fa), some (fI pb), some (fI fb), some (fI 1), some (fI 1)]) (st_q := [.ref 66]) (h_q := h_927) (cl_q := 0) (sl_q := 0) rfl ?_
  refine fw_gf rfl rfl g_927_66 rfl ?_
  refine ik_Wk 3 (pc_q := 81) (loc_q := [some (.ref 66), some (fI p), some (fI 2), some (fI pa), some (fI fa), some (fI pb), some (fI fb), some (fI 1), some (fI 1)]) (st_q := [fI 1, fI p, fI 4, .ref 70]) (h_q := h_927) (cl_q := 0) (sl_q := 0) rfl ?_
  refine fw_add rfl ?_
  refine fx_ias (z := 4) rfl g_927_70 (by decide +kernel) (Nat.le_of_ble_eq_true rfl) (by decide +kernel) ?_
  intro h_928 e_928 f_928 l_928
  have k_928 : cL h_928 := l_928.trans k_927
  have fr_928 := hfr_wb fr_927 f_928 l_928 rfl
  clear l_928
  have g_928_66 := (f_928 66 (Nat.ne_of_beq_eq_false rfl)).trans g_927_66
  have g_928_67 := (f_928 67 (Nat.ne_of_beq_eq_false rfl)).trans g_927_67
  have g_928_68 := (f_928 68 (Nat.ne_of_beq_eq_false rfl)).trans g_927_68
  have g_928_69 := (f_928 69 (Nat.ne_of_beq_eq_false rfl)).trans g_927_69
  have g_928_77 := (f_928 77 (Nat.ne_of_beq_eq_false rfl)).trans g_927_77
  have g_928_78 := (f_928 78 (Nat.ne_of_beq_eq_false rfl)).trans g_927_78
  have g_928_79 := (f_928 79 (Nat.ne_of_beq_eq_false rfl)).trans g_927_79
  have g_928_80 := (f_928 80 (Nat.ne_of_beq_eq_false rfl)).trans g_927_80
  have g_928_81 := (f_928 81 (Nat.ne_of_beq_eq_false rfl)).trans g_927_81
  have g_928_82 := (f_928 82 (Nat.ne_of_beq_eq_false rfl)).trans g_927_82
  have g_928_83 := (f_928 83 (Nat.ne_of_beq_eq_false rfl)).trans g_927_83
  have g_928_70 : cE h_928 70 (.inl (.int, fA [ka, p + 1, 0, kb, p + 1, 0])) := e_928
  refine ik_Wk 1 (pc_q := 84) (loc_q := [some (.ref 66), some (fI p), some (fI 2), some (fI pa), some (fI fa), some (fI pb), some (fI fb), some (fI 1), some (fI 1)]) (st_q := [.ref 66]) (h_q := h_928) (cl_q := 0) (sl_q := 0) rfl ?_
  refine fw_gf rfl rfl g_928_66 rfl ?_
  refine ik_Wk 2 (pc_q := 90) (loc_q := [some (.ref 66), some (fI p), some (fI 2), some (fI pa), some (fI fa), some (fI pb), some (fI fb), some (fI 1), some (fI 1)]) (st_q := [fI 1, fI 3, .ref 83]) (h_q := h_928) (cl_q := 0) (sl_q := 0) rfl ?_
  refine fw_mul rfl ?_
  refine ik_Wk 1 (pc_q := 93) (loc_q := [some (.ref 66), some (fI p), some (fI 2), some (fI pa), some (fI fa), some (fI pb), some (fI fb), some (fI 1), some (fI 1)]) (st_q := [fI 1, fI 3, .ref 83]) (h_q := h_928) (cl_q := 0) (sl_q := 0) rfl ?_
  refine fw_add rfl ?_
  refine ik_Wk 2 (pc_q := 96) (loc_q := [some (.ref 66), some (fI p), some (fI 2), some (fI pa), some (fI fa), some (fI pb), some (fI fb), some (fI 1), some (fI 1)]) (st_q := [fI 0, .ref 66, fI 4, .ref 83]) (h_q := h_928) (cl_q := 0) (sl_q := 0) rfl ?_
  refine fw_call 169 2 0 [.ref 66, fI 0] [fI 4, .ref 83] rfl rfl rfl (Nat.le_of_ble_eq_true rfl) rfl rfl (fw_rec k_928 rfl g_928_66 rfl (Nat.le_of_ble_eq_true rfl)) (cr_laterOf (pl := pl) (f := fun j => ((0 :: 0 :: 0 :: 0 :: 0 :: 0 :: 0 :: ((f 7)) :: ((f 8)) :: 0 :: ((f 10)) :: ((f 11)) :: ((f 12)) :: ((f 13)) :: ((f 14)) :: ((f 15)) :: ((f 16)) :: ((f 17)) :: 0 :: 0 :: 0 :: 0 :: 0 :: 0 :: w'_925 :: 0 :: 0 :: 0 :: 0 :: 0 :: 0 :: 0 :: ((f 32)) :: ((f 33)) :: 0 :: 0 :: ((f 36)) :: 0 :: 0 :: 0 :: 0 :: 0 :: 0 :: []) : List Int).getD j 0) (s := s) (cn := cn) (go := go) (ch := ch) (gt := gt'_925) (gd := gd'_925) (xs := xs'_925) (ys := ys'_925) (ka := ka) (pa := p + 1) (fa := 0) (kb := kb) (pb := p + 1) (fb := 0) (r1 := r1'_925) (r2 := r2'_925) (wh := 0) (by omega) (by omega) q2 q3 q4 (by omega) (by omega) (by omega) (by omega) (by omega) (by omega) (by omega) g_928_66 g_928_67 n67 g_928_68 n68 g_928_69 n69 g_928_77 m_925_77 g_928_78 m_925_78 g_928_79 m_925_79 g_928_80 m_925_80 g_928_70 g_928_81 m_925_81 g_928_82 m_925_82 k_928) ?_
  rintro _ h_929 ⟨w'_929, gt'_929, gd'_929, xs'_929, ys'_929, r1'_929, r2'_929, rfl, e_929_66, e_929_77, m_929_77, e_929_78, m_929_78, e_929_79, m_929_79, e_929_80, m_929_80, e_929_81, m_929_81, e_929_82, m_929_82, F_929⟩
  have k_929 : cL h_929 := F_929.1.trans k_928
  have fr_929 := hfr_cb fr_928 F_929 rfl
  have g_929_67 := (hfr_g F_929 67 rfl).trans g_928_67
  have g_929_68 := (hfr_g F_929 68 rfl).trans g_928_68
  have g_929_69 := (hfr_g F_929 69 rfl).trans g_928_69
  have g_929_70 := (hfr_g F_929 70 rfl).trans g_928_70
  have g_929_83 := (hfr_g F_929 83 rfl).trans g_928_83
  have g_929_66 : cE h_929 66 (.inr (10, (fI pl :: .ref 67 :: .ref 68 :: .ref 69 :: fI ((s : Nat) : Int) :: .ref 70 :: .ref 71 :: fI (f 7) :: fI (f 8) :: .ref 72 :: fI (f 10) :: fI (f 11) :: fI (f 12) :: fJ (f 13) :: fI (f 14) :: fI (f 15) :: fI (f 16) :: fI (f 17) :: .ref 73 :: .ref 74 :: .ref 75 :: .ref 76 :: .ref 77 :: .ref 78 :: fI w'_929 :: .ref 79 :: .ref 80 :: .ref 81 :: .ref 82 :: .ref 83 :: .ref 84 :: .ref 85 :: fJ (f 32) :: fJ (f 33) :: .ref 86 :: .ref 87 :: fI (f 36) :: .ref 88 :: .ref 89 :: .ref 90 :: .ref 91 :: .ref 92 :: .ref 93 :: []))) := e_929_66
  have g_929_77 : cE h_929 77 (.inl (.int, fA gt'_929)) := e_929_77
  have g_929_78 : cE h_929 78 (.inl (.int, fA gd'_929)) := e_929_78
  have g_929_79 : cE h_929 79 (.inl (.long, fL xs'_929)) := e_929_79
  have g_929_80 : cE h_929 80 (.inl (.long, fL ys'_929)) := e_929_80
  have g_929_81 : cE h_929 81 (.inl (.long, fL r1'_929)) := e_929_81
  have g_929_82 : cE h_929 82 (.inl (.long, fL r2'_929)) := e_929_82
  refine ik_Wk 0 (pc_q := 99) (loc_q := [some (.ref 66), some (fI p), some (fI 2), some (fI pa), some (fI fa), some (fI pb), some (fI fb), some (fI 1), some (fI 1)]) (st_q := [fI (mr_w (mf_cm (fun x => mx_w cn go ch s x) (pl - 1) ka (p + 1)) 0 (mf_cm (fun x => mx_w cn go ch s x) (pl - 1) kb (p + 1)) 0 0), fI 4, .ref 83]) (h_q := h_929) (cl_q := 0) (sl_q := 0) rfl ?_
  have wb_929 : 0 ≤ mr_w (mf_cm (fun x => mx_w cn go ch s x) (pl - 1) ka (p + 1)) 0 (mf_cm (fun x => mx_w cn go ch s x) (pl - 1) kb (p + 1)) 0 0 ∧ mr_w (mf_cm (fun x => mx_w cn go ch s x) (pl - 1) ka (p + 1)) 0 (mf_cm (fun x => mx_w cn go ch s x) (pl - 1) kb (p + 1)) 0 0 ≤ 1000000 := mr_w_b (mr_ok_cm (W := (fun x => mx_w cn go ch s x)) (k := ka) q4 (show 0 ≤ p + 1 ∧ p + 1 < pl - 1 by omega)) (mr_ok_cm (W := (fun x => mx_w cn go ch s x)) (k := kb) q4 (show 0 ≤ p + 1 ∧ p + 1 < pl - 1 by omega)) (by decide +kernel) (by decide +kernel) 0
  refine fw_si rfl (by decide +kernel) ?_
  refine fx_idiv rfl (by omega) (by omega) (by omega) (by omega) ?_
  refine fw_i2l rfl (by omega) (by omega) ?_
  have hl11 : ((((fr.set (0 : Int).toNat ((mr_w (mf_cm (fun x => mx_w cn go ch s x) (pl - 1) ka (p + 0)) 0 (mf_cm (fun x => mx_w cn go ch s x) (pl - 1) kb (p + 0)) 0 0) / 1000)).set (1 : Int).toNat ((mr_w (mf_cm (fun x => mx_w cn go ch s x) (pl - 1) ka (p + 0)) 0 (mf_cm (fun x => mx_w cn go ch s x) (pl - 1) kb (p + 1)) 0 0) / 1000)).set (3 : Int).toNat ((mr_w (mf_cm (fun x => mx_w cn go ch s x) (pl - 1) ka (p + 1)) 0 (mf_cm (fun x => mx_w cn go ch s x) (pl - 1) kb (p + 0)) 0 0) / 1000)).set (4 : Int).toNat ((mr_w (mf_cm (fun x => mx_w cn go ch s x) (pl - 1) ka (p + 1)) 0 (mf_cm (fun x => mx_w cn go ch s x) (pl - 1) kb (p + 1)) 0 0) / 1000)).length = 9 := (List.length_set ..).trans hl9
  refine fx_las rfl g_929_83 (by omega) (by omega) (by omega) ?_
  intro h_930 e_930 f_930 l_930
  have k_930 : cL h_930 := l_930.trans k_929
  have fr_930 := hfr_wb fr_929 f_930 l_930 rfl
  clear l_930
  have g_930_66 := (f_930 66 (Nat.ne_of_beq_eq_false rfl)).trans g_929_66
  have g_930_67 := (f_930 67 (Nat.ne_of_beq_eq_false rfl)).trans g_929_67
  have g_930_68 := (f_930 68 (Nat.ne_of_beq_eq_false rfl)).trans g_929_68
  have g_930_69 := (f_930 69 (Nat.ne_of_beq_eq_false rfl)).trans g_929_69
  have g_930_77 := (f_930 77 (Nat.ne_of_beq_eq_false rfl)).trans g_929_77
  have g_930_78 := (f_930 78 (Nat.ne_of_beq_eq_false rfl)).trans g_929_78
  have g_930_79 := (f_930 79 (Nat.ne_of_beq_eq_false rfl)).trans g_929_79
  have g_930_80 := (f_930 80 (Nat.ne_of_beq_eq_false rfl)).trans g_929_80
  have g_930_70 := (f_930 70 (Nat.ne_of_beq_eq_false rfl)).trans g_929_70
  have g_930_81 := (f_930 81 (Nat.ne_of_beq_eq_false rfl)).trans g_929_81
  have g_930_82 := (f_930 82 (Nat.ne_of_beq_eq_false rfl)).trans g_929_82
  have g_930_83 : cE h_930 83 (.inl (.long, fL ((((fr.set (0 : Int).toNat ((mr_w (mf_cm (fun x => mx_w cn go ch s x) (pl - 1) ka (p + 0)) 0 (mf_cm (fun x => mx_w cn go ch s x) (pl - 1) kb (p + 0)) 0 0) / 1000)).set (1 : Int).toNat ((mr_w (mf_cm (fun x => mx_w cn go ch s x) (pl - 1) ka (p + 0)) 0 (mf_cm (fun x => mx_w cn go ch s x) (pl - 1) kb (p + 1)) 0 0) / 1000)).set (3 : Int).toNat ((mr_w (mf_cm (fun x => mx_w cn go ch s x) (pl - 1) ka (p + 1)) 0 (mf_cm (fun x => mx_w cn go ch s x) (pl - 1) kb (p + 0)) 0 0) / 1000)).set (4 : Int).toNat ((mr_w (mf_cm (fun x => mx_w cn go ch s x) (pl - 1) ka (p + 1)) 0 (mf_cm (fun x => mx_w cn go ch s x) (pl - 1) kb (p + 1)) 0 0) / 1000)))) := e_930
  refine fw_inc (a := 1) (loc_q := [some (.ref 66), some (fI p), some (fI 2), some (fI pa), some (fI fa), some (fI pb), some (fI fb), some (fI 1), some (fI 2)]) rfl rfl (Nat.le_of_ble_eq_true rfl) rfl ?_
  refine ik_Wk 3 (pc_q := 60) (loc_q := [some (.ref 66), some (fI p), some (fI 2), some (fI pa), some (fI fa), some (fI pb), some (fI fb), some (fI 1), some (fI 2)]) (st_q := [fI 2, fI 2]) (h_q := h_930) (cl_q := 0) (sl_q := 0) rfl ?_
  refine fw_ic_ge rfl rfl (by decide +kernel) (by decide +kernel) (by decide +kernel) (by decide +kernel) (fun hc12 => ?_) (fun hc12 => absurd hc12 (by decide +kernel))
  refine fw_inc (a := 1) (loc_q := [some (.ref 66), some (fI p), some (fI 2), some (fI pa), some (fI fa), some (fI pb), some (fI fb), some (fI 2), some (fI 2)]) rfl rfl (Nat.le_of_ble_eq_true rfl) rfl ?_
  refine ik_Wk 3 (pc_q := 51) (loc_q := [some (.ref 66), some (fI p), some (fI 2), some (fI pa), some (fI fa), some (fI pb), some (fI fb), some (fI 2), some (fI 2)]) (st_q := [fI 2, fI 2]) (h_q := h_930) (cl_q := 0) (sl_q := 0) rfl ?_
  refine fw_ic_ge rfl rfl (by decide +kernel) (by decide +kernel) (by decide +kernel) (by decide +kernel) (fun hc13 => ?_) (fun hc13 => absurd hc13 (by decide +kernel))
  refine ik_Wk 1 (pc_q := 118) (loc_q := [some (.ref 66), some (fI p), some (fI 2), some (fI pa), some (fI fa), some (fI pb), some (fI fb), some (fI 2), some (fI 2)]) (st_q := [.ref 66]) (h_q := h_930) (cl_q := 0) (sl_q := 0) rfl ?_
  refine fw_gf rfl rfl g_930_66 rfl ?_
  refine ik_Wk 2 (pc_q := 123) (loc_q := [some (.ref 66), some (fI p), some (fI 2), some (fI pa), some (fI fa), some (fI pb), some (fI fb), some (fI 2), some (fI 2)]) (st_q := [fI pa, fI 1, .ref 70]) (h_q := h_930) (cl_q := 0) (sl_q := 0) rfl ?_
  refine fx_ias (z := 1) rfl g_930_70 (by decide +kernel) (Nat.le_of_ble_eq_true rfl) (by decide +kernel) ?_
  intro h_931 e_931 f_931 l_931
  have k_931 : cL h_931 := l_931.trans k_930
  have fr_931 := hfr_wb fr_930 f_931 l_931 rfl
  clear l_931
  have g_931_66 := (f_931 66 (Nat.ne_of_beq_eq_false rfl)).trans g_930_66
  have g_931_67 := (f_931 67 (Nat.ne_of_beq_eq_false rfl)).trans g_930_67
  have g_931_68 := (f_931 68 (Nat.ne_of_beq_eq_false rfl)).trans g_930_68
  have g_931_69 := (f_931 69 (Nat.ne_of_beq_eq_false rfl)).trans g_930_69
  have g_931_77 := (f_931 77 (Nat.ne_of_beq_eq_false rfl)).trans g_930_77
  have g_931_78 := (f_931 78 (Nat.ne_of_beq_eq_false rfl)).trans g_930_78
  have g_931_79 := (f_931 79 (Nat.ne_of_beq_eq_false rfl)).trans g_930_79
  have g_931_80 := (f_931 80 (Nat.ne_of_beq_eq_false rfl)).trans g_930_80
  have g_931_81 := (f_931 81 (Nat.ne_of_beq_eq_false rfl)).trans g_930_81
  have g_931_82 := (f_931 82 (Nat.ne_of_beq_eq_false rfl)).trans g_930_82
  have g_931_83 := (f_931 83 (Nat.ne_of_beq_eq_false rfl)).trans g_930_83
  have g_931_70 : cE h_931 70 (.inl (.int, fA [ka, pa, 0, kb, p + 1, 0])) := e_931
  refine ik_Wk 1 (pc_q := 125) (loc_q := [some (.ref 66), some (fI p), some (fI 2), some (fI pa), some (fI fa), some (fI pb), some (fI fb), some (fI 2), some (fI 2)]) (st_q := [.ref 66]) (h_q := h_931) (cl_q := 0) (sl_q := 0) rfl ?_
  refine fw_gf rfl rfl g_931_66 rfl ?_
  refine ik_Wk 2 (pc_q := 131) (loc_q := [some (.ref 66), some (fI p), some (fI 2), some (fI pa), some (fI fa), some (fI pb), some (fI fb), some (fI 2), some (fI 2)]) (st_q := [fI fa, fI 2, .ref 70]) (h_q := h_931) (cl_q := 0) (sl_q := 0) rfl ?_
  refine fx_ias (z := 2) rfl g_931_70 (by decide +kernel) (Nat.le_of_ble_eq_true rfl) (by decide +kernel) ?_
  intro h_932 e_932 f_932 l_932
  have k_932 : cL h_932 := l_932.trans k_931
  have fr_932 := hfr_wb fr_931 f_932 l_932 rfl
  clear l_932
  have g_932_66 := (f_932 66 (Nat.ne_of_beq_eq_false rfl)).trans g_931_66
  have g_932_67 := (f_932 67 (Nat.ne_of_beq_eq_false rfl)).trans g_931_67
  have g_932_68 := (f_932 68 (Nat.ne_of_beq_eq_false rfl)).trans g_931_68
  have g_932_69 := (f_932 69 (Nat.ne_of_beq_eq_false rfl)).trans g_931_69
  have g_932_77 := (f_932 77 (Nat.ne_of_beq_eq_false rfl)).trans g_931_77
  have g_932_78 := (f_932 78 (Nat.ne_of_beq_eq_false rfl)).trans g_931_78
  have g_932_79 := (f_932 79 (Nat.ne_of_beq_eq_false rfl)).trans g_931_79
  have g_932_80 := (f_932 80 (Nat.ne_of_beq_eq_false rfl)).trans g_931_80
  have g_932_81 := (f_932 81 (Nat.ne_of_beq_eq_false rfl)).trans g_931_81
  have g_932_82 := (f_932 82 (Nat.ne_of_beq_eq_false rfl)).trans g_931_82
  have g_932_83 := (f_932 83 (Nat.ne_of_beq_eq_false rfl)).trans g_931_83
  have g_932_70 : cE h_932 70 (.inl (.int, fA [ka, pa, fa, kb, p + 1, 0])) := e_932
  refine ik_Wk 1 (pc_q := 133) (loc_q := [some (.ref 66), some (fI p), some (fI 2), some (fI pa), some (fI fa), some (fI pb), some (fI fb), some (fI 2), some (fI 2)]) (st_q := [.ref 66]) (h_q := h_932) (cl_q := 0) (sl_q := 0) rfl ?_
  refine fw_gf rfl rfl g_932_66 rfl ?_
  refine ik_Wk 2 (pc_q := 139) (loc_q := [some (.ref 66), some (fI p), some (fI 2), some (fI pa), some (fI fa), some (fI pb), some (fI fb), some (fI 2), some (fI 2)]) (st_q := [fI pb, fI 4, .ref 70]) (h_q := h_932) (cl_q := 0) (sl_q := 0) rfl ?_
  refine fx_ias (z := 4) rfl g_932_70 (by decide +kernel) (Nat.le_of_ble_eq_true rfl) (by decide +kernel) ?_
  intro h_933 e_933 f_933 l_933
  have k_933 : cL h_933 := l_933.trans k_932
  have fr_933 := hfr_wb fr_932 f_933 l_933 rfl
  clear l_933
  have g_933_66 := (f_933 66 (Nat.ne_of_beq_eq_false rfl)).trans g_932_66
  have g_933_67 := (f_933 67 (Nat.ne_of_beq_eq_false rfl)).trans g_932_67
  have g_933_68 := (f_933 68 (Nat.ne_of_beq_eq_false rfl)).trans g_932_68
  have g_933_69 := (f_933 69 (Nat.ne_of_beq_eq_false rfl)).trans g_932_69
  have g_933_77 := (f_933 77 (Nat.ne_of_beq_eq_false rfl)).trans g_932_77
  have g_933_78 := (f_933 78 (Nat.ne_of_beq_eq_false rfl)).trans g_932_78
  have g_933_79 := (f_933 79 (Nat.ne_of_beq_eq_false rfl)).trans g_932_79
  have g_933_80 := (f_933 80 (Nat.ne_of_beq_eq_false rfl)).trans g_932_80
  have g_933_81 := (f_933 81 (Nat.ne_of_beq_eq_false rfl)).trans g_932_81
  have g_933_82 := (f_933 82 (Nat.ne_of_beq_eq_false rfl)).trans g_932_82
  have g_933_83 := (f_933 83 (Nat.ne_of_beq_eq_false rfl)).trans g_932_83
  have g_933_70 : cE h_933 70 (.inl (.int, fA [ka, pa, fa, kb, pb, 0])) := e_933
  refine ik_Wk 1 (pc_q := 141) (loc_q := [some (.ref 66), some (fI p), some (fI 2), some (fI pa), some (fI fa), some (fI pb), some (fI fb), some (fI 2), some (fI 2)]) (st_q := [.ref 66]) (h_q := h_933) (cl_q := 0) (sl_q := 0) rfl ?_
  refine fw_gf rfl rfl g_933_66 rfl ?_
  refine ik_Wk 2 (pc_q := 147) (loc_q := [some (.ref 66), some (fI p), some (fI 2), some (fI pa), some (fI fa), some (fI pb), some (fI fb), some (fI 2), some (fI 2)]) (st_q := [fI fb, fI 5, .ref 70]) (h_q := h_933) (cl_q := 0) (sl_q := 0) rfl ?_
  refine fx_ias (z := 5) rfl g_933_70 (by decide +kernel) (Nat.le_of_ble_eq_true rfl) (by decide +kernel) ?_
  intro h_934 e_934 f_934 l_934
  have k_934 : cL h_934 := l_934.trans k_933
  have fr_934 := hfr_wb fr_933 f_934 l_934 rfl
  clear l_934
  have g_934_66 := (f_934 66 (Nat.ne_of_beq_eq_false rfl)).trans g_933_66
  have g_934_67 := (f_934 67 (Nat.ne_of_beq_eq_false rfl)).trans g_933_67
  have g_934_68 := (f_934 68 (Nat.ne_of_beq_eq_false rfl)).trans g_933_68
  have g_934_69 := (f_934 69 (Nat.ne_of_beq_eq_false rfl)).trans g_933_69
  have g_934_77 := (f_934 77 (Nat.ne_of_beq_eq_false rfl)).trans g_933_77
  have g_934_78 := (f_934 78 (Nat.ne_of_beq_eq_false rfl)).trans g_933_78
  have g_934_79 := (f_934 79 (Nat.ne_of_beq_eq_false rfl)).trans g_933_79
  have g_934_80 := (f_934 80 (Nat.ne_of_beq_eq_false rfl)).trans g_933_80
  have g_934_81 := (f_934 81 (Nat.ne_of_beq_eq_false rfl)).trans g_933_81
  have g_934_82 := (f_934 82 (Nat.ne_of_beq_eq_false rfl)).trans g_933_82
  have g_934_83 := (f_934 83 (Nat.ne_of_beq_eq_false rfl)).trans g_933_83
  have g_934_70 : cE h_934 70 (.inl (.int, fA [ka, pa, fa, kb, pb, fb])) := e_934
  exact ik_Wret rfl rfl ⟨_, _, rfl, rfl, rfl, rfl, ⟨w'_929, gt'_929, gd'_929, xs'_929, ys'_929, r1'_929, r2'_929, ((((fr.set (0 : Int).toNat ((mr_w (mf_cm (fun x => mx_w cn go ch s x) (pl - 1) ka (p + 0)) 0 (mf_cm (fun x => mx_w cn go ch s x) (pl - 1) kb (p + 0)) 0 0) / 1000)).set (1 : Int).toNat ((mr_w (mf_cm (fun x => mx_w cn go ch s x) (pl - 1) ka (p + 0)) 0 (mf_cm (fun x => mx_w cn go ch s x) (pl - 1) kb (p + 1)) 0 0) / 1000)).set (3 : Int).toNat ((mr_w (mf_cm (fun x => mx_w cn go ch s x) (pl - 1) ka (p + 1)) 0 (mf_cm (fun x => mx_w cn go ch s x) (pl - 1) kb (p + 0)) 0 0) / 1000)).set (4 : Int).toNat ((mr_w (mf_cm (fun x => mx_w cn go ch s x) (pl - 1) ka (p + 1)) 0 (mf_cm (fun x => mx_w cn go ch s x) (pl - 1) kb (p + 1)) 0 0) / 1000)), rfl, g_934_66, g_934_77, m_929_77, g_934_78, m_929_78, g_934_79, m_929_79, g_934_80, m_929_80, g_934_81, m_929_81, g_934_82, m_929_82, g_934_70, g_934_83, hl11, fr_934⟩⟩

theorem cr_fears3 {h : List ik_E} {pl : Int} {f : Nat → Int} {s : Nat} {cn : List Int} {go : List Int} {ch : List Int} {gt : List Int} {gd : List Int} {xs : List Int} {ys : List Int} {ka : Int} {pa : Int} {fa : Int} {kb : Int} {pb : Int} {fb : Int} {r1 : List Int} {r2 : List Int} {p : Int} {fr : List Int} (q0 : 1 ≤ pl ∧ pl ≤ 12) (q1 : s < 4096) (q2 : ∀ x : Int, (0 : Int) ≤ x → x < pl - 1 → 0 ≤ cn.getD x.toNat 0 ∧ cn.getD x.toNat 0 ≤ 4) (q3 : ∀ x : Int, (0 : Int) ≤ x → x < pl - 1 → 1 ≤ cn.getD x.toNat 0 ∧ ∀ j : Int, 4 * x ≤ j → j < 4 * x + cn.getD x.toNat 0 → 0 ≤ ch.getD j.toNat 0 ∧ ch.getD j.toNat 0 ≤ 100) (q4 : ∀ x : Int, (0 : Int) ≤ x → x < pl - 1 → mx_ok pl (mx_w cn go ch s x)) (q5 : (0 : Int) ≤ ka ∧ ka ≤ (2 : Int)) (q6 : (0 : Int) ≤ kb ∧ kb ≤ (2 : Int)) (q7 : (0 : Int) ≤ p ∧ p + 3 < pl) (h66 : cE h 66 (.inr (10, (fI pl :: .ref 67 :: .ref 68 :: .ref 69 :: fI ((s : Nat) : Int) :: .ref 70 :: .ref 71 :: fI (f 7) :: fI (f 8) :: .ref 72 :: fI (f 10) :: fI (f 11) :: fI (f 12) :: fJ (f 13) :: fI (f 14) :: fI (f 15) :: fI (f 16) :: fI (f 17) :: .ref 73 :: .ref 74 :: .ref 75 :: .ref 76 :: .ref 77 :: .ref 78 :: fI (f 24) :: .ref 79 :: .ref 80 :: .ref 81 :: .ref 82 :: .ref 83 :: .ref 84 :: .ref 85 :: fJ (f 32) :: fJ (f 33) :: .ref 86 :: .ref 87 :: fI (f 36) :: .ref 88 :: .ref 89 :: .ref 90 :: .ref 91 :: .ref 92 :: .ref 93 :: [])))) (h67 : cE h 67 (.inl (.int, fA cn))) (n67 : cn.length = (12 : Nat)) (h68 : cE h 68 (.inl (.int, fA go))) (n68 : go.length = (48 : Nat)) (h69 : cE h 69 (.inl (.int, fA ch))) (n69 : ch.length = (48 : Nat)) (h77 : cE h 77 (.inl (.int, fA gt))) (n77 : gt.length = (5 : Nat)) (h78 : cE h 78 (.inl (.int, fA gd))) (n78 : gd.length = (5 : Nat)) (h79 : cE h 79 (.inl (.long, fL xs))) (n79 : xs.length = (12 : Nat)) (h80 : cE h 80 (.inl (.long, fL ys))) (n80 : ys.length = (12 : Nat)) (h70 : cE h 70 (.inl (.int, fA [ka, pa, fa, kb, pb, fb]))) (h81 : cE h 81 (.inl (.long, fL r1))) (n81 : r1.length = (201 : Nat)) (h82 : cE h 82 (.inl (.long, fL r2))) (n82 : r2.length = (201 : Nat)) (h83 : cE h 83 (.inl (.long, fL fr))) (n83 : fr.length = (9 : Nat)) (hl : h.length = (94 : Nat)) : ik_F 178 [.ref 66, fI p, fI 3] h (fun rv h_q => ∃ (w' : Int) (gt' : List Int) (gd' : List Int) (xs' : List Int) (ys' : List Int) (r1' : List Int) (r2' : List Int) (fr' : List Int), rv = [] ∧ cE h_q 66 (.inr (10, (fI pl :: .ref 67 :: .ref 68 :: .ref 69 :: fI ((s : Nat) : Int) :: .ref 70 :: .ref 71 :: fI (f 7) :: fI (f 8) :: .ref 72 :: fI (f 10) :: fI (f 11) :: fI (f 12) :: fJ (f 13) :: fI (f 14) :: fI (f 15) :: fI (f 16) :: fI (f 17) :: .ref 73 :: .ref 74 :: .ref 75 :: .ref 76 :: .ref 77 :: .ref 78 :: fI w' :: .ref 79 :: .ref 80 :: .ref 81 :: .ref 82 :: .ref 83 :: .ref 84 :: .ref 85 :: fJ (f 32) :: fJ (f 33) :: .ref 86 :: .ref 87 :: fI (f 36) :: .ref 88 :: .ref 89 :: .ref 90 :: .ref 91 :: .ref 92 :: .ref 93 :: []))) ∧ cE h_q 77 (.inl (.int, fA gt')) ∧ gt'.length = (5 : Nat) ∧ cE h_q 78 (.inl (.int, fA gd')) ∧ gd'.length = (5 : Nat) ∧ cE h_q 79 (.inl (.long, fL xs')) ∧ xs'.length = (12 : Nat) ∧ cE h_q 80 (.inl (.long, fL ys')) ∧ ys'.length = (12 : Nat) ∧ cE h_q 81 (.inl (.long, fL r1')) ∧ r1'.length = (201 : Nat) ∧ cE h_q 82 (.inl (.long, fL r2')) ∧ r2'.length = (201 : Nat) ∧ cE h_q 70 (.inl (.int, fA [ka, pa, fa, kb, pb, fb])) ∧ cE h_q 83 (.inl (.long, fL fr')) ∧ fr'.length = (9 : Nat) ∧ hfr [66, 77, 78, 79, 80, 81, 82, 70, 83] h h_q) := by
  refine ik_Wk 1 (pc_q := 1) (loc_q := [some (.ref 66), some (fI p), some (fI 3), none, none, none, none, none, none]) (st_q := [.ref 66]) (h_q := h) (cl_q := 0) (sl_q := 0) rfl ?_
  refine fw_gf rfl rfl h66 rfl ?_
  refine ik_Wk 1 (pc_q := 5) (loc_q := [some (.ref 66), some (fI p), some (fI 3), none, none, none, none, none, none]) (st_q := [fI 1, .ref 70]) (h_q := h) (cl_q := 0) (sl_q := 0) rfl ?_
  refine fw_ial (z := 1) rfl h70 (by decide +kernel) (Nat.le_of_ble_eq_true rfl) (by decide +kernel) ?_
  refine ik_Wk 0 (pc_q := 6) (loc_q := [some (.ref 66), some (fI p), some (fI 3), none, none, none, none, none, none]) (st_q := [fI pa]) (h_q := h) (cl_q := 0) (sl_q := 0) rfl ?_
  refine ik_Wk 2 (pc_q := 8) (loc_q := [some (.ref 66), some (fI p), some (fI 3), some (fI pa), none, none, none, none, none]) (st_q := [.ref 66]) (h_q := h) (cl_q := 0) (sl_q := 0) rfl ?_
  refine fw_gf rfl rfl h66 rfl ?_
  refine ik_Wk 1 (pc_q := 12) (loc_q := [some (.ref 66), some (fI p), some (fI 3), some (fI pa), none, none, none, none, none]) (st_q := [fI 2, .ref 70]) (h_q := h) (cl_q := 0) (sl_q := 0) rfl ?_
  refine fw_ial (z := 2) rfl h70 (by decide +kernel) (Nat.le_of_ble_eq_true rfl) (by decide +kernel) ?_
  refine ik_Wk 0 (pc_q := 13) (loc_q := [some (.ref 66), some (fI p), some (fI 3), some (fI pa), none, none, none, none, none]) (st_q := [fI fa]) (h_q := h) (cl_q := 0) (sl_q := 0) rfl ?_
  refine ik_Wk 2 (pc_q := 16) (loc_q := [some (.ref 66), some (fI p), some (fI 3), some (fI pa), some (fI fa), none, none, none, none]) (st_q := [.ref 66]) (h_q := h) (cl_q := 0) (sl_q := 0) rfl ?_
  refine fw_gf rfl rfl h66 rfl ?_
  refine ik_Wk 1 (pc_q := 20) (loc_q := [some (.ref 66), some (fI p), some (fI 3), some (fI pa), some (fI fa), none, none, none, none]) (st_q := [fI 4, .ref 70]) (h_q := h) (cl_q := 0) (sl_q := 0) rfl ?_
  refine fw_ial (z := 4) rfl h70 (by decide +kernel) (Nat.le_of_ble_eq_true rfl) (by decide +kernel) ?_
  refine ik_Wk 0 (pc_q := 21) (loc_q := [some (.ref 66), some (fI p), some (fI 3), some (fI pa), some (fI fa), none, none, none, none]) (st_q := [fI pb]) (h_q := h) (cl_q := 0) (sl_q := 0) rfl ?_
  refine ik_Wk 2 (pc_q := 24) (loc_q := [some (.ref 66), some (fI p), some (fI 3), some (fI pa), some (fI fa), some (fI pb), none, none, none]) (st_q := [.ref 66]) (h_q := h) (cl_q := 0) (sl_q := 0) rfl ?_
  refine fw_gf rfl rfl h66 rfl ?_
  refine ik_Wk 1 (pc_q := 28) (loc_q := [some (.ref 66), some (fI p), some (fI 3), some (fI pa), some (fI fa), some (fI pb), none, none, none]) (st_q := [fI 5, .ref 70]) (h_q := h) (cl_q := 0) (sl_q := 0) rfl ?_
  refine fw_ial (z := 5) rfl h70 (by decide +kernel) (Nat.le_of_ble_eq_true rfl) (by decide +kernel) ?_
  refine ik_Wk 0 (pc_q := 29) (loc_q := [some (.ref 66), some (fI p), some (fI 3), some (fI pa), some (fI fa), some (fI pb), none, none, none]) (st_q := [fI fb]) (h_q := h) (cl_q := 0) (sl_q := 0) rfl ?_
  refine ik_Wk 2 (pc_q := 32) (loc_q := [some (.ref 66), some (fI p), some (fI 3), some (fI pa), some (fI fa), some (fI pb), some (fI fb), none, none]) (st_q := [.ref 66]) (h_q := h) (cl_q := 0) (sl_q := 0) rfl ?_
  refine fw_gf rfl rfl h66 rfl ?_
  refine ik_Wk 2 (pc_q := 37) (loc_q := [some (.ref 66), some (fI p), some (fI 3), some (fI pa), some (fI fa), some (fI pb), some (fI fb), none, none]) (st_q := [fI 0, fI 2, .ref 70]) (h_q := h) (cl_q := 0) (sl_q := 0) rfl ?_
  refine fx_ias (z := 2) rfl h70 (by decide +kernel) (Nat.le_of_ble_eq_true rfl) (by decide +kernel) ?_
  intro h_935 e_935 f_935 l_935
  have k_935 : cL h_935 := l_935.trans hl
  have fr_935 := hfr_wb (hfr_refl [66, 77, 78, 79, 80, 81, 82, 70, 83] h) f_935 l_935 rfl
  clear l_935
  have g_935_66 := (f_935 66 (Nat.ne_of_beq_eq_false rfl)).trans h66
  have g_935_67 := (f_935 67 (Nat.ne_of_beq_eq_false rfl)).trans h67
  have g_935_68 := (f_935 68 (Nat.ne_of_beq_eq_false rfl)).trans h68
  have g_935_69 := (f_935 69 (Nat.ne_of_beq_eq_false rfl)).trans h69
  have g_935_77 := (f_935 77 (Nat.ne_of_beq_eq_false rfl)).trans h77
  have g_935_78 := (f_935 78 (Nat.ne_of_beq_eq_false rfl)).trans h78
  have g_935_79 := (f_935 79 (Nat.ne_of_beq_eq_false rfl)).trans h79
  have g_935_80 := (f_935 80 (Nat.ne_of_beq_eq_false rfl)).trans h80
  have g_935_81 := (f_935 81 (Nat.ne_of_beq_eq_false rfl)).trans h81
  have g_935_82 := (f_935 82 (Nat.ne_of_beq_eq_false rfl)).trans h82
  have g_935_83 := (f_935 83 (Nat.ne_of_beq_eq_false rfl)).trans h83
  have g_935_70 : cE h_935 70 (.inl (.int, fA [ka, pa, 0, kb, pb, fb])) := e_935
  refine ik_Wk 1 (pc_q := 39) (loc_q := [some (.ref 66), some (fI p), some (fI 3), some (fI pa), some (fI fa), some (fI pb), some (fI fb), none, none]) (st_q := [.ref 66]) (h_q := h_935) (cl_q := 0) (sl_q := 0) rfl ?_
  refine fw_gf rfl rfl g_935_66 rfl ?_
  refine ik_Wk 2 (pc_q := 44) (loc_q := [some (.ref 66), some (fI p), some (fI 3), some (fI pa), some (fI fa), some (fI pb), some (fI fb), none, none]) (st_q := [fI 0, fI 5, .ref 70]) (h_q := h_935) (cl_q := 0) (sl_q := 0) rfl ?_
  refine fx_ias (z := 5) rfl g_935_70 (by decide +kernel) (Nat.le_of_ble_eq_true rfl) (by decide +kernel) ?_
  intro h_936 e_936 f_936 l_936
  have k_936 : cL h_936 := l_936.trans k_935
  have fr_936 := hfr_wb fr_935 f_936 l_936 rfl
  clear l_936
  have g_936_66 := (f_936 66 (Nat.ne_of_beq_eq_false rfl)).trans g_935_66
  have g_936_67 := (f_936 67 (Nat.ne_of_beq_eq_false rfl)).trans g_935_67
  have g_936_68 := (f_936 68 (Nat.ne_of_beq_eq_false rfl)).trans g_935_68
  have g_936_69 := (f_936 69 (Nat.ne_of_beq_eq_false rfl)).trans g_935_69
  have g_936_77 := (f_936 77 (Nat.ne_of_beq_eq_false rfl)).trans g_935_77
  have g_936_78 := (f_936 78 (Nat.ne_of_beq_eq_false rfl)).trans g_935_78
  have g_936_79 := (f_936 79 (Nat.ne_of_beq_eq_false rfl)).trans g_935_79
  have g_936_80 := (f_936 80 (Nat.ne_of_beq_eq_false rfl)).trans g_935_80
  have g_936_81 := (f_936 81 (Nat.ne_of_beq_eq_false rfl)).trans g_935_81
  have g_936_82 := (f_936 82 (Nat.ne_of_beq_eq_false rfl)).trans g_935_82
  have g_936_83 := (f_936 83 (Nat.ne_of_beq_eq_false rfl)).trans g_935_83
  have g_936_70 : cE h_936 70 (.inl (.int, fA [ka, pa, 0, kb, pb, 0])) := e_936
  refine ik_Wk 4 (pc_q := 51) (loc_q := [some (.ref 66), some (fI p), some (fI 3), some (fI pa), some (fI fa), some (fI pb), some (fI fb), some (fI 0), none]) (st_q := [fI 3, fI 0]) (h_q := h_936) (cl_q := 0) (sl_q := 0) rfl ?_
  refine fw_ic_ge rfl rfl (by decide +kernel) (by decide +kernel) (by decide +kernel) (by decide +kernel) (fun hc1 => absurd hc1 (by decide +kernel)) (fun hc1 => ?_)
  refine ik_Wk 4 (pc_q := 60) (loc_q := [some (.ref 66), some (fI p), some (fI 3), some (fI pa), some (fI fa), some (fI pb), some (fI fb), some (fI 0), some (fI 0)]) (st_q := [fI 3, fI 0]) (h_q := h_936) (cl_q := 0) (sl_q := 0) rfl ?_
  refine fw_ic_ge rfl rfl (by decide +kernel) (by decide +kernel) (by decide +kernel) (by decide +kernel) (fun hc2 => absurd hc2 (by decide +kernel)) (fun hc2 => ?_)
  refine ik_Wk 1 (pc_q := 64) (loc_q := [some (.ref 66), some (fI p), some (fI 3), some (fI pa), some (fI fa), some (fI pb), some (fI fb), some (fI 0), some (fI 0)]) (st_q := [.ref 66]) (h_q := h_936) (cl_q := 0) (sl_q := 0) rfl ?_
  refine fw_gf rfl rfl g_936_66 rfl ?_
  refine ik_Wk 3 (pc_q := 71) (loc_q := [some (.ref 66), some (fI p), some (fI 3), some (fI pa), some (fI fa), some (fI pb), some (fI fb), some (fI 0), some (fI 0)]) (st_q := [fI 0, fI p, fI 1, .ref 70]) (h_q := h_936) (cl_q := 0) (sl_q := 0) rfl ?_
  refine fw_add rfl ?_
  refine fx_ias (z := 1) rfl g_936_70 (by decide +kernel) (Nat.le_of_ble_eq_true rfl) (by decide +kernel) ?_
  intro h_937 e_937 f_937 l_937
  have k_937 : cL h_937 := l_937.trans k_936
  have fr_937 := hfr_wb fr_936 f_937 l_937 rfl
  clear l_937
  have g_937_66 := (f_937 66 (Nat.ne_of_beq_eq_false rfl)).trans g_936_66
  have g_937_67 := (f_937 67 (Nat.ne_of_beq_eq_false rfl)).trans g_936_67
  have g_937_68 := (f_937 68 (Nat.ne_of_beq_eq_false rfl)).trans g_936_68
  have g_937_69 := (f_937 69 (Nat.ne_of_beq_eq_false rfl)).trans g_936_69
  have g_937_77 := (f_937 77 (Nat.ne_of_beq_eq_false rfl)).trans g_936_77
  have g_937_78 := (f_937 78 (Nat.ne_of_beq_eq_false rfl)).trans g_936_78
  have g_937_79 := (f_937 79 (Nat.ne_of_beq_eq_false rfl)).trans g_936_79
  have g_937_80 := (f_937 80 (Nat.ne_of_beq_eq_false rfl)).trans g_936_80
  have g_937_81 := (f_937 81 (Nat.ne_of_beq_eq_false rfl)).trans g_936_81
  have g_937_82 := (f_937 82 (Nat.ne_of_beq_eq_false rfl)).trans g_936_82
  have g_937_83 := (f_937 83 (Nat.ne_of_beq_eq_false rfl)).trans g_936_83
  have g_937_70 : cE h_937 70 (.inl (.int, fA [ka, p + 0, 0, kb, pb, 0])) := e_937
  refine ik_Wk 1 (pc_q := 74) (loc_q := [some (.ref 66), some (fI p), some (fI 3), some (fI pa), some (fI fa), some (fI pb), some (fI fb), some (fI 0), some (fI 0)]) (st_q := [.ref 66]) (h_q := h_937) (cl_q := 0) (sl_q := 0) rfl ?_
  refine fw_gf rfl rfl g_937_66 rfl ?_
  refine ik_Wk 3 (pc_q := 81) (loc_q := [some (.ref 66), some (fI p), some (fI 3), some (fI pa), some (fI fa), some (fI pb), some (fI fb), some (fI 0), some (fI 0)]) (st_q := [fI 0, fI p, fI 4, .ref 70]) (h_q := h_937) (cl_q := 0) (sl_q := 0) rfl ?_
  refine fw_add rfl ?_
  refine fx_ias (z := 4) rfl g_937_70 (by decide +kernel) (Nat.le_of_ble_eq_true rfl) (by decide +kernel) ?_
  intro h_938 e_938 f_938 l_938
  have k_938 : cL h_938 := l_938.trans k_937
  have fr_938 := hfr_wb fr_937 f_938 l_938 rfl
  clear l_938
  have g_938_66 := (f_938 66 (Nat.ne_of_beq_eq_false rfl)).trans g_937_66
  have g_938_67 := (f_938 67 (Nat.ne_of_beq_eq_false rfl)).trans g_937_67
  have g_938_68 := (f_938 68 (Nat.ne_of_beq_eq_false rfl)).trans g_937_68
  have g_938_69 := (f_938 69 (Nat.ne_of_beq_eq_false rfl)).trans g_937_69
  have g_938_77 := (f_938 77 (Nat.ne_of_beq_eq_false rfl)).trans g_937_77
  have g_938_78 := (f_938 78 (Nat.ne_of_beq_eq_false rfl)).trans g_937_78
  have g_938_79 := (f_938 79 (Nat.ne_of_beq_eq_false rfl)).trans g_937_79
  have g_938_80 := (f_938 80 (Nat.ne_of_beq_eq_false rfl)).trans g_937_80
  have g_938_81 := (f_938 81 (Nat.ne_of_beq_eq_false rfl)).trans g_937_81
  have g_938_82 := (f_938 82 (Nat.ne_of_beq_eq_false rfl)).trans g_937_82
  have g_938_83 := (f_938 83 (Nat.ne_of_beq_eq_false rfl)).trans g_937_83
  have g_938_70 : cE h_938 70 (.inl (.int, fA [ka, p + 0, 0, kb, p + 0, 0])) := e_938
  refine ik_Wk 1 (pc_q := 84) (loc_q := [some (.ref 66), some (fI p), some (fI 3), some (fI pa), some (fI fa), some (fI pb), some (fI fb), some (fI 0), some (fI 0)]) (st_q := [.ref 66]) (h_q := h_938) (cl_q := 0) (sl_q := 0) rfl ?_
  refine fw_gf rfl rfl g_938_66 rfl ?_
  refine ik_Wk 2 (pc_q := 90) (loc_q := [some (.ref 66), some (fI p), some (fI 3), some (fI pa), some (fI fa), some (fI pb), some (fI fb), some (fI 0), some (fI 0)]) (st_q := [fI 0, fI 3, .ref 83]) (h_q := h_938) (cl_q := 0) (sl_q := 0) rfl ?_
  refine fw_mul rfl ?_
  refine ik_Wk 1 (pc_q := 93) (loc_q := [some (.ref 66), some (fI p), some (fI 3), some (fI pa), some (fI fa), some (fI pb), some (fI fb), some (fI 0), some (fI 0)]) (st_q := [fI 0, fI 0, .ref 83]) (h_q := h_938) (cl_q := 0) (sl_q := 0) rfl ?_
  refine fw_add rfl ?_
  refine ik_Wk 2 (pc_q := 96) (loc_q := [some (.ref 66), some (fI p), some (fI 3), some (fI pa), some (fI fa), some (fI pb), some (fI fb), some (fI 0), some (fI 0)]) (st_q := [fI 0, .ref 66, fI 0, .ref 83]) (h_q := h_938) (cl_q := 0) (sl_q := 0) rfl ?_
  refine fw_call 169 2 0 [.ref 66, fI 0] [fI 0, .ref 83] rfl rfl rfl (Nat.le_of_ble_eq_true rfl) rfl rfl (fw_rec k_938 rfl g_938_66 rfl (Nat.le_of_ble_eq_true rfl)) (cr_laterOf (pl := pl) (f := fun j => ((0 :: 0 :: 0 :: 0 :: 0 :: 0 :: 0 :: f 7 :: f 8 :: 0 :: f 10 :: f 11 :: f 12 :: f 13 :: f 14 :: f 15 :: f 16 :: f 17 :: 0 :: 0 :: 0 :: 0 :: 0 :: 0 :: f 24 :: 0 :: 0 :: 0 :: 0 :: 0 :: 0 :: 0 :: f 32 :: f 33 :: 0 :: 0 :: f 36 :: 0 :: 0 :: 0 :: 0 :: 0 :: 0 :: []) : List Int).getD j 0) (s := s) (cn := cn) (go := go) (ch := ch) (gt := gt) (gd := gd) (xs := xs) (ys := ys) (ka := ka) (pa := p + 0) (fa := 0) (kb := kb) (pb := p + 0) (fb := 0) (r1 := r1) (r2 := r2) (wh := 0) (by omega) (by omega) q2 q3 q4 (by omega) (by omega) (by omega) (by omega) (by omega) (by omega) (by omega) g_938_66 g_938_67 n67 g_938_68 n68 g_938_69 n69 g_938_77 n77 g_938_78 n78 g_938_79 n79 g_938_80 n80 g_938_70 g_938_81 n81 g_938_82 n82 k_938) ?_
  rintro _ h_939 ⟨w'_939, gt'_939, gd'_939, xs'_939, ys'_939, r1'_939, r2'_939, rfl, e_939_66, e_939_77, m_939_77, e_939_78, m_939_78, e_939_79, m_939_79, e_939_80, m_939_80, e_939_81, m_939_81, e_939_82, m_939_82, F_939⟩
  have k_939 : cL h_939 := F_939.1.trans k_938
  have fr_939 := hfr_cb fr_938 F_939 rfl
  have g_939_67 := (hfr_g F_939 67 rfl).trans g_938_67
  have g_939_68 := (hfr_g F_939 68 rfl).trans g_938_68
  have g_939_69 := (hfr_g F_939 69 rfl).trans g_938_69
  have g_939_70 := (hfr_g F_939 70 rfl).trans g_938_70
  have g_939_83 := (hfr_g F_939 83 rfl).trans g_938_83
  have g_939_66 : cE h_939 66 (.inr (10, (fI pl :: .ref 67 :: .ref 68 :: .ref 69 :: fI ((s : Nat) : Int) :: .ref 70 :: .ref 71 :: fI (f 7) :: fI (f 8) :: .ref 72 :: fI (f 10) :: fI (f 11) :: fI (f 12) :: fJ (f 13) :: fI (f 14) :: fI (f 15) :: fI (f 16) :: fI (f 17) :: .ref 73 :: .ref 74 :: .ref 75 :: .ref 76 :: .ref 77 :: .ref 78 :: fI w'_939 :: .ref 79 :: .ref 80 :: .ref 81 :: .ref 82 :: .ref 83 :: .ref 84 :: .ref 85 :: fJ (f 32) :: fJ (f 33) :: .ref 86 :: .ref 87 :: fI (f 36) :: .ref 88 :: .ref 89 :: .ref 90 :: .ref 91 :: .ref 92 :: .ref 93 :: []))) := e_939_66
  have g_939_77 : cE h_939 77 (.inl (.int, fA gt'_939)) := e_939_77
  have g_939_78 : cE h_939 78 (.inl (.int, fA gd'_939)) := e_939_78
  have g_939_79 : cE h_939 79 (.inl (.long, fL xs'_939)) := e_939_79
  have g_939_80 : cE h_939 80 (.inl (.long, fL ys'_939)) := e_939_80
  have g_939_81 : cE h_939 81 (.inl (.long, fL r1'_939)) := e_939_81
  have g_939_82 : cE h_939 82 (.inl (.long, fL r2'_939)) := e_939_82
  refine ik_Wk 0 (pc_q := 99) (loc_q := [some (.ref 66), some (fI p), some (fI 3), some (fI pa), some (fI fa), some (fI pb), some (fI fb), some (fI 0), some (fI 0)]) (st_q := [fI (mr_w (mf_cm (fun x => mx_w cn go ch s x) (pl - 1) ka (p + 0)) 0 (mf_cm (fun x => mx_w cn go ch s x) (pl - 1) kb (p + 0)) 0 0), fI 0, .ref 83]) (h_q := h_939) (cl_q := 0) (sl_q := 0) rfl ?_
  have wb_939 : 0 ≤ mr_w (mf_cm (fun x => mx_w cn go ch s x) (pl - 1) ka (p + 0)) 0 (mf_cm (fun x => mx_w cn go ch s x) (pl - 1) kb (p + 0)) 0 0 ∧ mr_w (mf_cm (fun x => mx_w cn go ch s x) (pl - 1) ka (p + 0)) 0 (mf_cm (fun x => mx_w cn go ch s x) (pl - 1) kb (p + 0)) 0 0 ≤ 1000000 := mr_w_b (mr_ok_cm (W := (fun x => mx_w cn go ch s x)) (k := ka) q4 (show 0 ≤ p + 0 ∧ p + 0 < pl - 1 by omega)) (mr_ok_cm (W := (fun x => mx_w cn go ch s x)) (k := kb) q4 (show 0 ≤ p + 0 ∧ p + 0 < pl - 1 by omega)) (by decide +kernel) (by decide +kernel) 0
  refine fw_si rfl (by decide +kernel) ?_
  refine fx_idiv rfl (by omega) (by omega) (by omega) (by omega) ?_
  refine fw_i2l rfl (by omega) (by omega) ?_
  have hl3 : (fr.set (0 : Int).toNat ((mr_w (mf_cm (fun x => mx_w cn go ch s x) (pl - 1) ka (p + 0)) 0 (mf_cm (fun x => mx_w cn go ch s x) (pl - 1) kb (p + 0)) 0 0) / 1000)).length = 9 := (List.length_set ..).trans n83
  refine fx_las rfl g_939_83 (by omega) (by omega) (by omega) ?_
  intro h_940 e_940 f_940 l_940
  have k_940 : cL h_940 := l_940.trans k_939
  have fr_940 := hfr_wb fr_939 f_940 l_940 rfl
  clear l_940
  have g_940_66 := (f_940 66 (Nat.ne_of_beq_eq_false rfl)).trans g_939_66
  have g_940_67 := (f_940 67 (Nat.ne_of_beq_eq_false rfl)).trans g_939_67
  have g_940_68 := (f_940 68 (Nat.ne_of_beq_eq_false rfl)).trans g_939_68
  have g_940_69 := (f_940 69 (Nat.ne_of_beq_eq_false rfl)).trans g_939_69
  have g_940_77 := (f_940 77 (Nat.ne_of_beq_eq_false rfl)).trans g_939_77
  have g_940_78 := (f_940 78 (Nat.ne_of_beq_eq_false rfl)).trans g_939_78
  have g_940_79 := (f_940 79 (Nat.ne_of_beq_eq_false rfl)).trans g_939_79
  have g_940_80 := (f_940 80 (Nat.ne_of_beq_eq_false rfl)).trans g_939_80
  have g_940_70 := (f_940 70 (Nat.ne_of_beq_eq_false rfl)).trans g_939_70
  have g_940_81 := (f_940 81 (Nat.ne_of_beq_eq_false rfl)).trans g_939_81
  have g_940_82 := (f_940 82 (Nat.ne_of_beq_eq_false rfl)).trans g_939_82
  have g_940_83 : cE h_940 83 (.inl (.long, fL (fr.set (0 : Int).toNat ((mr_w (mf_cm (fun x => mx_w cn go ch s x) (pl - 1) ka (p + 0)) 0 (mf_cm (fun x => mx_w cn go ch s x) (pl - 1) kb (p + 0)) 0 0) / 1000)))) := e_940
  refine fw_inc (a := 0) (loc_q := [some (.ref 66), some (fI p), some (fI 3), some (fI pa), some (fI fa), some (fI pb), some (fI fb), some (fI 0), some (fI 1)]) rfl rfl (Nat.le_of_ble_eq_true rfl) rfl ?_
  refine ik_Wk 3 (pc_q := 60) (loc_q := [some (.ref 66), some (fI p), some (fI 3), some (fI pa), some (fI fa), some (fI pb), some (fI fb), some (fI 0), some (fI 1)]) (st_q := [fI 3, fI 1]) (h_q := h_940) (cl_q := 0) (sl_q := 0) rfl ?_
  refine fw_ic_ge rfl rfl (by decide +kernel) (by decide +kernel) (by decide +kernel) (by decide +kernel) (fun hc4 => absurd hc4 (by decide +kernel)) (fun hc4 => ?_)
  refine ik_Wk 1 (pc_q := 64) (loc_q := [some (.ref 66), some (fI p), some (fI 3), some (fI pa), some (fI fa), some (fI pb), some (fI fb), some (fI 0), some (fI 1)]) (st_q := [.ref 66]) (h_q := h_940) (cl_q := 0) (sl_q := 0) rfl ?_
  refine fw_gf rfl rfl g_940_66 rfl ?_
  refine ik_Wk 3 (pc_q := 71) (loc_q := [some (.ref 66), some (fI p), some (fI 3), some (fI pa), some (fI fa), some (fI pb), some (fI fb), some (fI 0), some (fI 1)]) (st_q := [fI 0, fI p, fI 1, .ref 70]) (h_q := h_940) (cl_q := 0) (sl_q := 0) rfl ?_
  refine fw_add rfl ?_
  refine fx_ias (z := 1) rfl g_940_70 (by decide +kernel) (Nat.le_of_ble_eq_true rfl) (by decide +kernel) ?_
  intro h_941 e_941 f_941 l_941
  have k_941 : cL h_941 := l_941.trans k_940
  have fr_941 := hfr_wb fr_940 f_941 l_941 rfl
  clear l_941
  have g_941_66 := (f_941 66 (Nat.ne_of_beq_eq_false rfl)).trans g_940_66
  have g_941_67 := (f_941 67 (Nat.ne_of_beq_eq_false rfl)).trans g_940_67
  have g_941_68 := (f_941 68 (Nat.ne_of_beq_eq_false rfl)).trans g_940_68
  have g_941_69 := (f_941 69 (Nat.ne_of_beq_eq_false rfl)).trans g_940_69
  have g_941_77 := (f_941 77 (Nat.ne_of_beq_eq_false rfl)).trans g_940_77
  have g_941_78 := (f_941 78 (Nat.ne_of_beq_eq_false rfl)).trans g_940_78
  have g_941_79 := (f_941 79 (Nat.ne_of_beq_eq_false rfl)).trans g_940_79
  have g_941_80 := (f_941 80 (Nat.ne_of_beq_eq_false rfl)).trans g_940_80
  have g_941_81 := (f_941 81 (Nat.ne_of_beq_eq_false rfl)).trans g_940_81
  have g_941_82 := (f_941 82 (Nat.ne_of_beq_eq_false rfl)).trans g_940_82
  have g_941_83 := (f_941 83 (Nat.ne_of_beq_eq_false rfl)).trans g_940_83
  have g_941_70 : cE h_941 70 (.inl (.int, fA [ka, p + 0, 0, kb, p + 0, 0])) := e_941
  refine ik_Wk 1 (pc_q := 74) (loc_q := [some (.ref 66), some (fI p), some (fI 3), some (fI pa), some (fI fa), some (fI pb), some (fI fb), some (fI 0), some (fI 1)]) (st_q := [.ref 66]) (h_q := h_941) (cl_q := 0) (sl_q := 0) rfl ?_
  refine fw_gf rfl rfl g_941_66 rfl ?_
  refine ik_Wk 3 (pc_q := 81) (loc_q := [some (.ref 66), some (fI p), some (fI 3), some (fI pa), some (fI fa), some (fI pb), some (fI fb), some (fI 0), some (fI 1)]) (st_q := [fI 1, fI p, fI 4, .ref 70]) (h_q := h_941) (cl_q := 0) (sl_q := 0) rfl ?_
  refine fw_add rfl ?_
  refine fx_ias (z := 4) rfl g_941_70 (by decide +kernel) (Nat.le_of_ble_eq_true rfl) (by decide +kernel) ?_
  intro h_942 e_942 f_942 l_942
  have k_942 : cL h_942 := l_942.trans k_941
  have fr_942 := hfr_wb fr_941 f_942 l_942 rfl
  clear l_942
  have g_942_66 := (f_942 66 (Nat.ne_of_beq_eq_false rfl)).trans g_941_66
  have g_942_67 := (f_942 67 (Nat.ne_of_beq_eq_false rfl)).trans g_941_67
  have g_942_68 := (f_942 68 (Nat.ne_of_beq_eq_false rfl)).trans g_941_68
  have g_942_69 := (f_942 69 (Nat.ne_of_beq_eq_false rfl)).trans g_941_69
  have g_942_77 := (f_942 77 (Nat.ne_of_beq_eq_false rfl)).trans g_941_77
  have g_942_78 := (f_942 78 (Nat.ne_of_beq_eq_false rfl)).trans g_941_78
  have g_942_79 := (f_942 79 (Nat.ne_of_beq_eq_false rfl)).trans g_941_79
  have g_942_80 := (f_942 80 (Nat.ne_of_beq_eq_false rfl)).trans g_941_80
  have g_942_81 := (f_942 81 (Nat.ne_of_beq_eq_false rfl)).trans g_941_81
  have g_942_82 := (f_942 82 (Nat.ne_of_beq_eq_false rfl)).trans g_941_82
  have g_942_83 := (f_942 83 (Nat.ne_of_beq_eq_false rfl)).trans g_941_83
  have g_942_70 : cE h_942 70 (.inl (.int, fA [ka, p + 0, 0, kb, p + 1, 0])) := e_942
  refine ik_Wk 1 (pc_q := 84) (loc_q := [some (.ref 66), some (fI p), some (fI 3), some (fI pa), some (fI fa), some (fI pb), some (fI fb), some (fI 0), some (fI 1)]) (st_q := [.ref 66]) (h_q := h_942) (cl_q := 0) (sl_q := 0) rfl ?_
  refine fw_gf rfl rfl g_942_66 rfl ?_
  refine ik_Wk 2 (pc_q := 90) (loc_q := [some (.ref 66), some (fI p), some (fI 3), some (fI pa), some (fI fa), some (fI pb), some (fI fb), some (fI 0), some (fI 1)]) (st_q := [fI 0, fI 3, .ref 83]) (h_q := h_942) (cl_q := 0) (sl_q := 0) rfl ?_
  refine fw_mul rfl ?_
  refine ik_Wk 1 (pc_q := 93) (loc_q := [some (.ref 66), some (fI p), some (fI 3), some (fI pa), some (fI fa), some (fI pb), some (fI fb), some (fI 0), some (fI 1)]) (st_q := [fI 1, fI 0, .ref 83]) (h_q := h_942) (cl_q := 0) (sl_q := 0) rfl ?_
  refine fw_add rfl ?_
  refine ik_Wk 2 (pc_q := 96) (loc_q := [some (.ref 66), some (fI p), some (fI 3), some (fI pa), some (fI fa), some (fI pb), some (fI fb), some (fI 0), some (fI 1)]) (st_q := [fI 0, .ref 66, fI 1, .ref 83]) (h_q := h_942) (cl_q := 0) (sl_q := 0) rfl ?_
  refine fw_call 169 2 0 [.ref 66, fI 0] [fI 1, .ref 83] rfl rfl rfl (Nat.le_of_ble_eq_true rfl) rfl rfl (fw_rec k_942 rfl g_942_66 rfl (Nat.le_of_ble_eq_true rfl)) (cr_laterOf (pl := pl) (f := fun j => ((0 :: 0 :: 0 :: 0 :: 0 :: 0 :: 0 :: ((f 7)) :: ((f 8)) :: 0 :: ((f 10)) :: ((f 11)) :: ((f 12)) :: ((f 13)) :: ((f 14)) :: ((f 15)) :: ((f 16)) :: ((f 17)) :: 0 :: 0 :: 0 :: 0 :: 0 :: 0 :: w'_939 :: 0 :: 0 :: 0 :: 0 :: 0 :: 0 :: 0 :: ((f 32)) :: ((f 33)) :: 0 :: 0 :: ((f 36)) :: 0 :: 0 :: 0 :: 0 :: 0 :: 0 :: []) : List Int).getD j 0) (s := s) (cn := cn) (go := go) (ch := ch) (gt := gt'_939) (gd := gd'_939) (xs := xs'_939) (ys := ys'_939) (ka := ka) (pa := p + 0) (fa := 0) (kb := kb) (pb := p + 1) (fb := 0) (r1 := r1'_939) (r2 := r2'_939) (wh := 0) (by omega) (by omega) q2 q3 q4 (by omega) (by omega) (by omega) (by omega) (by omega) (by omega) (by omega) g_942_66 g_942_67 n67 g_942_68 n68 g_942_69 n69 g_942_77 m_939_77 g_942_78 m_939_78 g_942_79 m_939_79 g_942_80 m_939_80 g_942_70 g_942_81 m_939_81 g_942_82 m_939_82 k_942) ?_
  rintro _ h_943 ⟨w'_943, gt'_943, gd'_943, xs'_943, ys'_943, r1'_943, r2'_943, rfl, e_943_66, e_943_77, m_943_77, e_943_78, m_943_78, e_943_79, m_943_79, e_943_80, m_943_80, e_943_81, m_943_81, e_943_82, m_943_82, F_943⟩
  have k_943 : cL h_943 := F_943.1.trans k_942
  have fr_943 := hfr_cb fr_942 F_943 rfl
  have g_943_67 := (hfr_g F_943 67 rfl).trans g_942_67
  have g_943_68 := (hfr_g F_943 68 rfl).trans g_942_68
  have g_943_69 := (hfr_g F_943 69 rfl).trans g_942_69
  have g_943_70 := (hfr_g F_943 70 rfl).trans g_942_70
  have g_943_83 := (hfr_g F_943 83 rfl).trans g_942_83
  have g_943_66 : cE h_943 66 (.inr (10, (fI pl :: .ref 67 :: .ref 68 :: .ref 69 :: fI ((s : Nat) : Int) :: .ref 70 :: .ref 71 :: fI (f 7) :: fI (f 8) :: .ref 72 :: fI (f 10) :: fI (f 11) :: fI (f 12) :: fJ (f 13) :: fI (f 14) :: fI (f 15) :: fI (f 16) :: fI (f 17) :: .ref 73 :: .ref 74 :: .ref 75 :: .ref 76 :: .ref 77 :: .ref 78 :: fI w'_943 :: .ref 79 :: .ref 80 :: .ref 81 :: .ref 82 :: .ref 83 :: .ref 84 :: .ref 85 :: fJ (f 32) :: fJ (f 33) :: .ref 86 :: .ref 87 :: fI (f 36) :: .ref 88 :: .ref 89 :: .ref 90 :: .ref 91 :: .ref 92 :: .ref 93 :: []))) := e_943_66
  have g_943_77 : cE h_943 77 (.inl (.int, fA gt'_943)) := e_943_77
  have g_943_78 : cE h_943 78 (.inl (.int, fA gd'_943)) := e_943_78
  have g_943_79 : cE h_943 79 (.inl (.long, fL xs'_943)) := e_943_79
  have g_943_80 : cE h_943 80 (.inl (.long, fL ys'_943)) := e_943_80
  have g_943_81 : cE h_943 81 (.inl (.long, fL r1'_943)) := e_943_81
  have g_943_82 : cE h_943 82 (.inl (.long, fL r2'_943)) := e_943_82
  refine ik_Wk 0 (pc_q := 99) (loc_q := [some (.ref 66), some (fI p), some (fI 3), some (fI pa), some (fI fa), some (fI pb), some (fI fb), some (fI 0), some (fI 1)]) (st_q := [fI (mr_w (mf_cm (fun x => mx_w cn go ch s x) (pl - 1) ka (p + 0)) 0 (mf_cm (fun x => mx_w cn go ch s x) (pl - 1) kb (p + 1)) 0 0), fI 1, .ref 83]) (h_q := h_943) (cl_q := 0) (sl_q := 0) rfl ?_
  have wb_943 : 0 ≤ mr_w (mf_cm (fun x => mx_w cn go ch s x) (pl - 1) ka (p + 0)) 0 (mf_cm (fun x => mx_w cn go ch s x) (pl - 1) kb (p + 1)) 0 0 ∧ mr_w (mf_cm (fun x => mx_w cn go ch s x) (pl - 1) ka (p + 0)) 0 (mf_cm (fun x => mx_w cn go ch s x) (pl - 1) kb (p + 1)) 0 0 ≤ 1000000 := mr_w_b (mr_ok_cm (W := (fun x => mx_w cn go ch s x)) (k := ka) q4 (show 0 ≤ p + 0 ∧ p + 0 < pl - 1 by omega)) (mr_ok_cm (W := (fun x => mx_w cn go ch s x)) (k := kb) q4 (show 0 ≤ p + 1 ∧ p + 1 < pl - 1 by omega)) (by decide +kernel) (by decide +kernel) 0
  refine fw_si rfl (by decide +kernel) ?_
  refine fx_idiv rfl (by omega) (by omega) (by omega) (by omega) ?_
  refine fw_i2l rfl (by omega) (by omega) ?_
  have hl5 : ((fr.set (0 : Int).toNat ((mr_w (mf_cm (fun x => mx_w cn go ch s x) (pl - 1) ka (p + 0)) 0 (mf_cm (fun x => mx_w cn go ch s x) (pl - 1) kb (p + 0)) 0 0) / 1000)).set (1 : Int).toNat ((mr_w (mf_cm (fun x => mx_w cn go ch s x) (pl - 1) ka (p + 0)) 0 (mf_cm (fun x => mx_w cn go ch s x) (pl - 1) kb (p + 1)) 0 0) / 1000)).length = 9 := (List.length_set ..).trans hl3
  refine fx_las rfl g_943_83 (by omega) (by omega) (by omega) ?_
  intro h_944 e_944 f_944 l_944
  have k_944 : cL h_944 := l_944.trans k_943
  have fr_944 := hfr_wb fr_943 f_944 l_944 rfl
  clear l_944
  have g_944_66 := (f_944 66 (Nat.ne_of_beq_eq_false rfl)).trans g_943_66
  have g_944_67 := (f_944 67 (Nat.ne_of_beq_eq_false rfl)).trans g_943_67
  have g_944_68 := (f_944 68 (Nat.ne_of_beq_eq_false rfl)).trans g_943_68
  have g_944_69 := (f_944 69 (Nat.ne_of_beq_eq_false rfl)).trans g_943_69
  have g_944_77 := (f_944 77 (Nat.ne_of_beq_eq_false rfl)).trans g_943_77
  have g_944_78 := (f_944 78 (Nat.ne_of_beq_eq_false rfl)).trans g_943_78
  have g_944_79 := (f_944 79 (Nat.ne_of_beq_eq_false rfl)).trans g_943_79
  have g_944_80 := (f_944 80 (Nat.ne_of_beq_eq_false rfl)).trans g_943_80
  have g_944_70 := (f_944 70 (Nat.ne_of_beq_eq_false rfl)).trans g_943_70
  have g_944_81 := (f_944 81 (Nat.ne_of_beq_eq_false rfl)).trans g_943_81
  have g_944_82 := (f_944 82 (Nat.ne_of_beq_eq_false rfl)).trans g_943_82
  have g_944_83 : cE h_944 83 (.inl (.long, fL ((fr.set (0 : Int).toNat ((mr_w (mf_cm (fun x => mx_w cn go ch s x) (pl - 1) ka (p + 0)) 0 (mf_cm (fun x => mx_w cn go ch s x) (pl - 1) kb (p + 0)) 0 0) / 1000)).set (1 : Int).toNat ((mr_w (mf_cm (fun x => mx_w cn go ch s x) (pl - 1) ka (p + 0)) 0 (mf_cm (fun x => mx_w cn go ch s x) (pl - 1) kb (p + 1)) 0 0) / 1000)))) := e_944
  refine fw_inc (a := 1) (loc_q := [some (.ref 66), some (fI p), some (fI 3), some (fI pa), some (fI fa), some (fI pb), some (fI fb), some (fI 0), some (fI 2)]) rfl rfl (Nat.le_of_ble_eq_true rfl) rfl ?_
  refine ik_Wk 3 (pc_q := 60) (loc_q := [some (.ref 66), some (fI p), some (fI 3), some (fI pa), some (fI fa), some (fI pb), some (fI fb), some (fI 0), some (fI 2)]) (st_q := [fI 3, fI 2]) (h_q := h_944) (cl_q := 0) (sl_q := 0) rfl ?_
  refine fw_ic_ge rfl rfl (by decide +kernel) (by decide +kernel) (by decide +kernel) (by decide +kernel) (fun hc6 => absurd hc6 (by decide +kernel)) (fun hc6 => ?_)
  refine ik_Wk 1 (pc_q := 64) (loc_q := [some (.ref 66), some (fI p), some (fI 3), some (fI pa), some (fI fa), some (fI pb), some (fI fb), some (fI 0), some (fI 2)]) (st_q := [.ref 66]) (h_q := h_944) (cl_q := 0) (sl_q := 0) rfl ?_
  refine fw_gf rfl rfl g_944_66 rfl ?_
  refine ik_Wk 3 (pc_q := 71) (loc_q := [some (.ref 66), some (fI p), some (fI 3), some (fI pa), some (fI fa), some (fI pb), some (fI fb), some (fI 0), some (fI 2)]) (st_q := [fI 0, fI p, fI 1, .ref 70]) (h_q := h_944) (cl_q := 0) (sl_q := 0) rfl ?_
  refine fw_add rfl ?_
  refine fx_ias (z := 1) rfl g_944_70 (by decide +kernel) (Nat.le_of_ble_eq_true rfl) (by decide +kernel) ?_
  intro h_945 e_945 f_945 l_945
  have k_945 : cL h_945 := l_945.trans k_944
  have fr_945 := hfr_wb fr_944 f_945 l_945 rfl
  clear l_945
  have g_945_66 := (f_945 66 (Nat.ne_of_beq_eq_false rfl)).trans g_944_66
  have g_945_67 := (f_945 67 (Nat.ne_of_beq_eq_false rfl)).trans g_944_67
  have g_945_68 := (f_945 68 (Nat.ne_of_beq_eq_false rfl)).trans g_944_68
  have g_945_69 := (f_945 69 (Nat.ne_of_beq_eq_false rfl)).trans g_944_69
  have g_945_77 := (f_945 77 (Nat.ne_of_beq_eq_false rfl)).trans g_944_77
  have g_945_78 := (f_945 78 (Nat.ne_of_beq_eq_false rfl)).trans g_944_78
  have g_945_79 := (f_945 79 (Nat.ne_of_beq_eq_false rfl)).trans g_944_79
  have g_945_80 := (f_945 80 (Nat.ne_of_beq_eq_false rfl)).trans g_944_80
  have g_945_81 := (f_945 81 (Nat.ne_of_beq_eq_false rfl)).trans g_944_81
  have g_945_82 := (f_945 82 (Nat.ne_of_beq_eq_false rfl)).trans g_944_82
  have g_945_83 := (f_945 83 (Nat.ne_of_beq_eq_false rfl)).trans g_944_83
  have g_945_70 : cE h_945 70 (.inl (.int, fA [ka, p + 0, 0, kb, p + 1, 0])) := e_945
  refine ik_Wk 1 (pc_q := 74) (loc_q := [some (.ref 66), some (fI p), some (fI 3), some (fI pa), some (fI fa), some (fI pb), some (fI fb), some (fI 0), some (fI 2)]) (st_q := [.ref 66]) (h_q := h_945) (cl_q := 0) (sl_q := 0) rfl ?_
  refine fw_gf rfl rfl g_945_66 rfl ?_
  refine ik_Wk 3 (pc_q := 81) (loc_q := [some (.ref 66), some (fI p), some (fI 3), some (fI pa), some (fI fa), some (fI pb), some (fI fb), some (fI 0), some (fI 2)]) (st_q := [fI 2, fI p, fI 4, .ref 70]) (h_q := h_945) (cl_q := 0) (sl_q := 0) rfl ?_
  refine fw_add rfl ?_
  refine fx_ias (z := 4) rfl g_945_70 (by decide +kernel) (Nat.le_of_ble_eq_true rfl) (by decide +kernel) ?_
  intro h_946 e_946 f_946 l_946
  have k_946 : cL h_946 := l_946.trans k_945
  have fr_946 := hfr_wb fr_945 f_946 l_946 rfl
  clear l_946
  have g_946_66 := (f_946 66 (Nat.ne_of_beq_eq_false rfl)).trans g_945_66
  have g_946_67 := (f_946 67 (Nat.ne_of_beq_eq_false rfl)).trans g_945_67
  have g_946_68 := (f_946 68 (Nat.ne_of_beq_eq_false rfl)).trans g_945_68
  have g_946_69 := (f_946 69 (Nat.ne_of_beq_eq_false rfl)).trans g_945_69
  have g_946_77 := (f_946 77 (Nat.ne_of_beq_eq_false rfl)).trans g_945_77
  have g_946_78 := (f_946 78 (Nat.ne_of_beq_eq_false rfl)).trans g_945_78
  have g_946_79 := (f_946 79 (Nat.ne_of_beq_eq_false rfl)).trans g_945_79
  have g_946_80 := (f_946 80 (Nat.ne_of_beq_eq_false rfl)).trans g_945_80
  have g_946_81 := (f_946 81 (Nat.ne_of_beq_eq_false rfl)).trans g_945_81
  have g_946_82 := (f_946 82 (Nat.ne_of_beq_eq_false rfl)).trans g_945_82
  have g_946_83 := (f_946 83 (Nat.ne_of_beq_eq_false rfl)).trans g_945_83
  have g_946_70 : cE h_946 70 (.inl (.int, fA [ka, p + 0, 0, kb, p + 2, 0])) := e_946
  refine ik_Wk 1 (pc_q := 84) (loc_q := [some (.ref 66), some (fI p), some (fI 3), some (fI pa), some (fI fa), some (fI pb), some (fI fb), some (fI 0), some (fI 2)]) (st_q := [.ref 66]) (h_q := h_946) (cl_q := 0) (sl_q := 0) rfl ?_
  refine fw_gf rfl rfl g_946_66 rfl ?_
  refine ik_Wk 2 (pc_q := 90) (loc_q := [some (.ref 66), some (fI p), some (fI 3), some (fI pa), some (fI fa), some (fI pb), some (fI fb), some (fI 0), some (fI 2)]) (st_q := [fI 0, fI 3, .ref 83]) (h_q := h_946) (cl_q := 0) (sl_q := 0) rfl ?_
  refine fw_mul rfl ?_
  refine ik_Wk 1 (pc_q := 93) (loc_q := [some (.ref 66), some (fI p), some (fI 3), some (fI pa), some (fI fa), some (fI pb), some (fI fb), some (fI 0), some (fI 2)]) (st_q := [fI 2, fI 0, .ref 83]) (h_q := h_946) (cl_q := 0) (sl_q := 0) rfl ?_
  refine fw_add rfl ?_
  refine ik_Wk 2 (pc_q := 96) (loc_q := [some (.ref 66), some (fI p), some (fI 3), some (fI pa), some (fI fa), some (fI pb), some (fI fb), some (fI 0), some (fI 2)]) (st_q := [fI 0, .ref 66, fI 2, .ref 83]) (h_q := h_946) (cl_q := 0) (sl_q := 0) rfl ?_
  refine fw_call 169 2 0 [.ref 66, fI 0] [fI 2, .ref 83] rfl rfl rfl (Nat.le_of_ble_eq_true rfl) rfl rfl (fw_rec k_946 rfl g_946_66 rfl (Nat.le_of_ble_eq_true rfl)) (cr_laterOf (pl := pl) (f := fun j => ((0 :: 0 :: 0 :: 0 :: 0 :: 0 :: 0 :: ((f 7)) :: ((f 8)) :: 0 :: ((f 10)) :: ((f 11)) :: ((f 12)) :: ((f 13)) :: ((f 14)) :: ((f 15)) :: ((f 16)) :: ((f 17)) :: 0 :: 0 :: 0 :: 0 :: 0 :: 0 :: w'_943 :: 0 :: 0 :: 0 :: 0 :: 0 :: 0 :: 0 :: ((f 32)) :: ((f 33)) :: 0 :: 0 :: ((f 36)) :: 0 :: 0 :: 0 :: 0 :: 0 :: 0 :: []) : List Int).getD j 0) (s := s) (cn := cn) (go := go) (ch := ch) (gt := gt'_943) (gd := gd'_943) (xs := xs'_943) (ys := ys'_943) (ka := ka) (pa := p + 0) (fa := 0) (kb := kb) (pb := p + 2) (fb := 0) (r1 := r1'_943) (r2 := r2'_943) (wh := 0) (by omega) (by omega) q2 q3 q4 (by omega) (by omega) (by omega) (by omega) (by omega) (by omega) (by omega) g_946_66 g_946_67 n67 g_946_68 n68 g_946_69 n69 g_946_77 m_943_77 g_946_78 m_943_78 g_946_79 m_943_79 g_946_80 m_943_80 g_946_70 g_946_81 m_943_81 g_946_82 m_943_82 k_946) ?_
  rintro _ h_947 ⟨w'_947, gt'_947, gd'_947, xs'_947, ys'_947, r1'_947, r2'_947, rfl, e_947_66, e_947_77, m_947_77, e_947_78, m_947_78, e_947_79, m_947_79, e_947_80, m_947_80, e_947_81, m_947_81, e_947_82, m_947_82, F_947⟩
  have k_947 : cL h_947 := F_947.1.trans k_946
  have fr_947 := hfr_cb fr_946 F_947 rfl
  have g_947_67 := (hfr_g F_947 67 rfl).trans g_946_67
  have g_947_68 := (hfr_g F_947 68 rfl).trans g_946_68
  have g_947_69 := (hfr_g F_947 69 rfl).trans g_946_69
  have g_947_70 := (hfr_g F_947 70 rfl).trans g_946_70
  have g_947_83 := (hfr_g F_947 83 rfl).trans g_946_83
  have g_947_66 : cE h_947 66 (.inr (10, (fI pl :: .ref 67 :: .ref 68 :: .ref 69 :: fI ((s : Nat) : Int) :: .ref 70 :: .ref 71 :: fI (f 7) :: fI (f 8) :: .ref 72 :: fI (f 10) :: fI (f 11) :: fI (f 12) :: fJ (f 13) :: fI (f 14) :: fI (f 15) :: fI (f 16) :: fI (f 17) :: .ref 73 :: .ref 74 :: .ref 75 :: .ref 76 :: .ref 77 :: .ref 78 :: fI w'_947 :: .ref 79 :: .ref 80 :: .ref 81 :: .ref 82 :: .ref 83 :: .ref 84 :: .ref 85 :: fJ (f 32) :: fJ (f 33) :: .ref 86 :: .ref 87 :: fI (f 36) :: .ref 88 :: .ref 89 :: .ref 90 :: .ref 91 :: .ref 92 :: .ref 93 :: []))) := e_947_66
  have g_947_77 : cE h_947 77 (.inl (.int, fA gt'_947)) := e_947_77
  have g_947_78 : cE h_947 78 (.inl (.int, fA gd'_947)) := e_947_78
  have g_947_79 : cE h_947 79 (.inl (.long, fL xs'_947)) := e_947_79
  have g_947_80 : cE h_947 80 (.inl (.long, fL ys'_947)) := e_947_80
  have g_947_81 : cE h_947 81 (.inl (.long, fL r1'_947)) := e_947_81
  have g_947_82 : cE h_947 82 (.inl (.long, fL r2'_947)) := e_947_82
  refine ik_Wk 0 (pc_q := 99) (loc_q := [some (.ref 66), some (fI p), some (fI 3), some (fI pa), some (fI fa), some (fI pb), some (fI fb), some (fI 0), some (fI 2)]) (st_q := [fI (mr_w (mf_cm (fun x => mx_w cn go ch s x) (pl - 1) ka (p + 0)) 0 (mf_cm (fun x => mx_w cn go ch s x) (pl - 1) kb (p + 2)) 0 0), fI 2, .ref 83]) (h_q := h_947) (cl_q := 0) (sl_q := 0) rfl ?_
  have wb_947 : 0 ≤ mr_w (mf_cm (fun x => mx_w cn go ch s x) (pl - 1) ka (p + 0)) 0 (mf_cm (fun x => mx_w cn go ch s x) (pl - 1) kb (p + 2)) 0 0 ∧ mr_w (mf_cm (fun x => mx_w cn go ch s x) (pl - 1) ka (p + 0)) 0 (mf_cm (fun x => mx_w cn go ch s x) (pl - 1) kb (p + 2)) 0 0 ≤ 1000000 := mr_w_b (mr_ok_cm (W := (fun x => mx_w cn go ch s x)) (k := ka) q4 (show 0 ≤ p + 0 ∧ p + 0 < pl - 1 by omega)) (mr_ok_cm (W := (fun x => mx_w cn go ch s x)) (k := kb) q4 (show 0 ≤ p + 2 ∧ p + 2 < pl - 1 by omega)) (by decide +kernel) (by decide +kernel) 0
  refine fw_si rfl (by decide +kernel) ?_
  refine fx_idiv rfl (by omega) (by omega) (by omega) (by omega) ?_
  refine fw_i2l rfl (by omega) (by omega) ?_
  have hl7 : (((fr.set (0 : Int).toNat ((mr_w (mf_cm (fun x => mx_w cn go ch s x) (pl - 1) ka (p + 0)) 0 (mf_cm (fun x => mx_w cn go ch s x) (pl - 1) kb (p + 0)) 0 0) / 1000)).set (1 : Int).toNat ((mr_w (mf_cm (fun x => mx_w cn go ch s x) (pl - 1) ka (p + 0)) 0 (mf_cm (fun x => mx_w cn go ch s x) (pl - 1) kb (p + 1)) 0 0) / 1000)).set (2 : Int).toNat ((mr_w (mf_cm (fun x => mx_w cn go ch s x) (pl - 1) ka (p + 0)) 0 (mf_cm (fun x => mx_w cn go ch s x) (pl - 1) kb (p + 2)) 0 0) / 1000)).length = 9 := (List.length_set ..).trans hl5
  refine fx_las rfl g_947_83 (by omega) (by omega) (by omega) ?_
  intro h_948 e_948 f_948 l_948
  have k_948 : cL h_948 := l_948.trans k_947
  have fr_948 := hfr_wb fr_947 f_948 l_948 rfl
  clear l_948
  have g_948_66 := (f_948 66 (Nat.ne_of_beq_eq_false rfl)).trans g_947_66
  have g_948_67 := (f_948 67 (Nat.ne_of_beq_eq_false rfl)).trans g_947_67
  have g_948_68 := (f_948 68 (Nat.ne_of_beq_eq_false rfl)).trans g_947_68
  have g_948_69 := (f_948 69 (Nat.ne_of_beq_eq_false rfl)).trans g_947_69
  have g_948_77 := (f_948 77 (Nat.ne_of_beq_eq_false rfl)).trans g_947_77
  have g_948_78 := (f_948 78 (Nat.ne_of_beq_eq_false rfl)).trans g_947_78
  have g_948_79 := (f_948 79 (Nat.ne_of_beq_eq_false rfl)).trans g_947_79
  have g_948_80 := (f_948 80 (Nat.ne_of_beq_eq_false rfl)).trans g_947_80
  have g_948_70 := (f_948 70 (Nat.ne_of_beq_eq_false rfl)).trans g_947_70
  have g_948_81 := (f_948 81 (Nat.ne_of_beq_eq_false rfl)).trans g_947_81
  have g_948_82 := (f_948 82 (Nat.ne_of_beq_eq_false rfl)).trans g_947_82
  have g_948_83 : cE h_948 83 (.inl (.long, fL (((fr.set (0 : Int).toNat ((mr_w (mf_cm (fun x => mx_w cn go ch s x) (pl - 1) ka (p + 0)) 0 (mf_cm (fun x => mx_w cn go ch s x) (pl - 1) kb (p + 0)) 0 0) / 1000)).set (1 : Int).toNat ((mr_w (mf_cm (fun x => mx_w cn go ch s x) (pl - 1) ka (p + 0)) 0 (mf_cm (fun x => mx_w cn go ch s x) (pl - 1) kb (p + 1)) 0 0) / 1000)).set (2 : Int).toNat ((mr_w (mf_cm (fun x => mx_w cn go ch s x) (pl - 1) ka (p + 0)) 0 (mf_cm (fun x => mx_w cn go ch s x) (pl - 1) kb (p + 2)) 0 0) / 1000)))) := e_948
  refine fw_inc (a := 2) (loc_q := [some (.ref 66), some (fI p), some (fI 3), some (fI pa), some (fI fa), some (fI pb), some (fI fb), some (fI 0), some (fI 3)]) rfl rfl (Nat.le_of_ble_eq_true rfl) rfl ?_
  refine ik_Wk 3 (pc_q := 60) (loc_q := [some (.ref 66), some (fI p), some (fI 3), some (fI pa), some (fI fa), some (fI pb), some (fI fb), some (fI 0), some (fI 3)]) (st_q := [fI 3, fI 3]) (h_q := h_948) (cl_q := 0) (sl_q := 0) rfl ?_
  refine fw_ic_ge rfl rfl (by decide +kernel) (by decide +kernel) (by decide +kernel) (by decide +kernel) (fun hc8 => ?_) (fun hc8 => absurd hc8 (by decide +kernel))
  refine fw_inc (a := 0) (loc_q := [some (.ref 66), some (fI p), some (fI 3), some (fI pa), some (fI fa), some (fI pb), some (fI fb), some (fI 1), some (fI 3)]) rfl rfl (Nat.le_of_ble_eq_true rfl) rfl ?_
  refine ik_Wk 3 (pc_q := 51) (loc_q := [some (.ref 66), some (fI p), some (fI 3), some (fI pa), some (fI fa), some (fI pb), some (fI fb), some (fI 1), some (fI 3)]) (st_q := [fI 3, fI 1]) (h_q := h_948) (cl_q := 0) (sl_q := 0) rfl ?_
  refine fw_ic_ge rfl rfl (by decide +kernel) (by decide +kernel) (by decide +kernel) (by decide +kernel) (fun hc9 => absurd hc9 (by decide +kernel)) (fun hc9 => ?_)
  refine ik_Wk 4 (pc_q := 60) (loc_q := [some (.ref 66), some (fI p), some (fI 3), some (fI pa), some (fI fa), some (fI pb), some (fI fb), some (fI 1), some (fI 0)]) (st_q := [fI 3, fI 0]) (h_q := h_948) (cl_q := 0) (sl_q := 0) rfl ?_
  refine fw_ic_ge rfl rfl (by decide +kernel) (by decide +kernel) (by decide +kernel) (by decide +kernel) (fun hc10 => absurd hc10 (by decide +kernel)) (fun hc10 => ?_)
  refine ik_Wk 1 (pc_q := 64) (loc_q := [some (.ref 66), some (fI p), some (fI 3), some (fI pa), some (fI fa), some (fI pb), some (fI fb), some (fI 1), some (fI 0)]) (st_q := [.ref 66]) (h_q := h_948) (cl_q := 0) (sl_q := 0) rfl ?_
  refine fw_gf rfl rfl g_948_66 rfl ?_
  refine ik_Wk 3 (pc_q := 71) (loc_q := [some (.ref 66), some (fI p), some (fI 3), some (fI pa), some (fI fa), some (fI pb), some (fI fb), some (fI 1), some (fI 0)]) (st_q := [fI 1, fI p, fI 1, .ref 70]) (h_q := h_948) (cl_q := 0) (sl_q := 0) rfl ?_
  refine fw_add rfl ?_
  refine fx_ias (z := 1) rfl g_948_70 (by decide +kernel) (Nat.le_of_ble_eq_true rfl) (by decide +kernel) ?_
  intro h_949 e_949 f_949 l_949
  have k_949 : cL h_949 := l_949.trans k_948
  have fr_949 := hfr_wb fr_948 f_949 l_949 rfl
  clear l_949
  have g_949_66 := (f_949 66 (Nat.ne_of_beq_eq_false rfl)).trans g_948_66
  have g_949_67 := (f_949 67 (Nat.ne_of_beq_eq_false rfl)).trans g_948_67
  have g_949_68 := (f_949 68 (Nat.ne_of_beq_eq_false rfl)).trans g_948_68
  have g_949_69 := (f_949 69 (Nat.ne_of_beq_eq_false rfl)).trans g_948_69
  have g_949_77 := (f_949 77 (Nat.ne_of_beq_eq_false rfl)).trans g_948_77
  have g_949_78 := (f_949 78 (Nat.ne_of_beq_eq_false rfl)).trans g_948_78
  have g_949_79 := (f_949 79 (Nat.ne_of_beq_eq_false rfl)).trans g_948_79
  have g_949_80 := (f_949 80 (Nat.ne_of_beq_eq_false rfl)).trans g_948_80
  have g_949_81 := (f_949 81 (Nat.ne_of_beq_eq_false rfl)).trans g_948_81
  have g_949_82 := (f_949 82 (Nat.ne_of_beq_eq_false rfl)).trans g_948_82
  have g_949_83 := (f_949 83 (Nat.ne_of_beq_eq_false rfl)).trans g_948_83
  have g_949_70 : cE h_949 70 (.inl (.int, fA [ka, p + 1, 0, kb, p + 2, 0])) := e_949
  refine ik_Wk 1 (pc_q := 74) (loc_q := [some (.ref 66), some (fI p), some (fI 3), some (fI pa), some (fI fa), some (fI pb), some (fI fb), some (fI 1), some (fI 0)]) (st_q := [.ref 66]) (h_q := h_949) (cl_q := 0) (sl_q := 0) rfl ?_
  refine fw_gf rfl rfl g_949_66 rfl ?_
  refine ik_Wk 3 (pc_q := 81) (loc_q := [some (.ref 66), some (fI p), some (fI 3), some (fI pa), some (fI fa), some (fI pb), some (fI fb), some (fI 1), some (fI 0)]) (st_q := [fI 0, fI p, fI 4, .ref 70]) (h_q := h_949) (cl_q := 0) (sl_q := 0) rfl ?_
  refine fw_add rfl ?_
  refine fx_ias (z := 4) rfl g_949_70 (by decide +kernel) (Nat.le_of_ble_eq_true rfl) (by decide +kernel) ?_
  intro h_950 e_950 f_950 l_950
  have k_950 : cL h_950 := l_950.trans k_949
  have fr_950 := hfr_wb fr_949 f_950 l_950 rfl
  clear l_950
  have g_950_66 := (f_950 66 (Nat.ne_of_beq_eq_false rfl)).trans g_949_66
  have g_950_67 := (f_950 67 (Nat.ne_of_beq_eq_false rfl)).trans g_949_67
  have g_950_68 := (f_950 68 (Nat.ne_of_beq_eq_false rfl)).trans g_949_68
  have g_950_69 := (f_950 69 (Nat.ne_of_beq_eq_false rfl)).trans g_949_69
  have g_950_77 := (f_950 77 (Nat.ne_of_beq_eq_false rfl)).trans g_949_77
  have g_950_78 := (f_950 78 (Nat.ne_of_beq_eq_false rfl)).trans g_949_78
  have g_950_79 := (f_950 79 (Nat.ne_of_beq_eq_false rfl)).trans g_949_79
  have g_950_80 := (f_950 80 (Nat.ne_of_beq_eq_false rfl)).trans g_949_80
  have g_950_81 := (f_950 81 (Nat.ne_of_beq_eq_false rfl)).trans g_949_81
  have g_950_82 := (f_950 82 (Nat.ne_of_beq_eq_false rfl)).trans g_949_82
  have g_950_83 := (f_950 83 (Nat.ne_of_beq_eq_false rfl)).trans g_949_83
  have g_950_70 : cE h_950 70 (.inl (.int, fA [ka, p + 1, 0, kb, p + 0, 0])) := e_950
  refine ik_Wk 1 (pc_q := 84) (loc_q := [some (.ref 66), some (fI p), some (fI 3), some (fI pa), some (fI fa), some (fI pb), some (fI fb), some (fI 1), some (fI 0)]) (st_q := [.ref 66]) (h_q := h_950) (cl_q := 0) (sl_q := 0) rfl ?_
  refine fw_gf rfl rfl g_950_66 rfl ?_
  refine ik_Wk 2 (pc_q := 90) (loc_q := [some (.ref 66), some (fI p), some (fI 3), some (fI pa), some (fI fa), some (fI pb), some (fI fb), some (fI 1), some (fI 0)]) (st_q := [fI 1, fI 3, .ref 83]) (h_q := h_950) (cl_q := 0) (sl_q := 0) rfl ?_
  refine fw_mul rfl ?_
  refine ik_Wk 1 (pc_q := 93) (loc_q := [some (.ref 66), some (fI p), some (fI 3), some (fI pa), some (fI fa), some (fI pb), some (fI fb), some (fI 1), some (fI 0)]) (st_q := [fI 0, fI 3, .ref 83]) (h_q := h_950) (cl_q := 0) (sl_q := 0) rfl ?_
  refine fw_add rfl ?_
  refine ik_Wk 2 (pc_q := 96) (loc_q := [some (.ref 66), some (fI p), some (fI 3), some (fI pa), some (fI fa), some (fI pb), some (fI fb), some (fI 1), some (fI 0)]) (st_q := [fI 0, .ref 66, fI 3, .ref 83]) (h_q := h_950) (cl_q := 0) (sl_q := 0) rfl ?_
  refine fw_call 169 2 0 [.ref 66, fI 0] [fI 3, .ref 83] rfl rfl rfl (Nat.le_of_ble_eq_true rfl) rfl rfl (fw_rec k_950 rfl g_950_66 rfl (Nat.le_of_ble_eq_true rfl)) (cr_laterOf (pl := pl) (f := fun j => ((0 :: 0 :: 0 :: 0 :: 0 :: 0 :: 0 :: ((f 7)) :: ((f 8)) :: 0 :: ((f 10)) :: ((f 11)) :: ((f 12)) :: ((f 13)) :: ((f 14)) :: ((f 15)) :: ((f 16)) :: ((f 17)) :: 0 :: 0 :: 0 :: 0 :: 0 :: 0 :: w'_947 :: 0 :: 0 :: 0 :: 0 :: 0 :: 0 :: 0 :: ((f 32)) :: ((f 33)) :: 0 :: 0 :: ((f 36)) :: 0 :: 0 :: 0 :: 0 :: 0 :: 0 :: []) : List Int).getD j 0) (s := s) (cn := cn) (go := go) (ch := ch) (gt := gt'_947) (gd := gd'_947) (xs := xs'_947) (ys := ys'_947) (ka := ka) (pa := p + 1) (fa := 0) (kb := kb) (pb := p + 0) (fb := 0) (r1 := r1'_947) (r2 := r2'_947) (wh := 0) (by omega) (by omega) q2 q3 q4 (by omega) (by omega) (by omega) (by omega) (by omega) (by omega) (by omega) g_950_66 g_950_67 n67 g_950_68 n68 g_950_69 n69 g_950_77 m_947_77 g_950_78 m_947_78 g_950_79 m_947_79 g_950_80 m_947_80 g_950_70 g_950_81 m_947_81 g_950_82 m_947_82 k_950) ?_
  rintro _ h_951 ⟨w'_951, gt'_951, gd'_951, xs'_951, ys'_951, r1'_951, r2'_951, rfl, e_951_66, e_951_77, m_951_77, e_951_78, m_951_78, e_951_79, m_951_79, e_951_80, m_951_80, e_951_81, m_951_81, e_951_82, m_951_82, F_951⟩
  have k_951 : cL h_951 := F_951.1.trans k_950
  have fr_951 := hfr_cb fr_950 F_951 rfl
  have g_951_67 := (hfr_g F_951 67 rfl).trans g_950_67
  have g_951_68 := (hfr_g F_951 68 rfl).trans g_950_68
  have g_951_69 := (hfr_g F_951 69 rfl).trans g_950_69
  have g_951_70 := (hfr_g F_951 70 rfl).trans g_950_70
  have g_951_83 := (hfr_g F_951 83 rfl).trans g_950_83
  have g_951_66 : cE h_951 66 (.inr (10, (fI pl :: .ref 67 :: .ref 68 :: .ref 69 :: fI ((s : Nat) : Int) :: .ref 70 :: .ref 71 :: fI (f 7) :: fI (f 8) :: .ref 72 :: fI (f 10) :: fI (f 11) :: fI (f 12) :: fJ (f 13) :: fI (f 14) :: fI (f 15) :: fI (f 16) :: fI (f 17) :: .ref 73 :: .ref 74 :: .ref 75 :: .ref 76 :: .ref 77 :: .ref 78 :: fI w'_951 :: .ref 79 :: .ref 80 :: .ref 81 :: .ref 82 :: .ref 83 :: .ref 84 :: .ref 85 :: fJ (f 32) :: fJ (f 33) :: .ref 86 :: .ref 87 :: fI (f 36) :: .ref 88 :: .ref 89 :: .ref 90 :: .ref 91 :: .ref 92 :: .ref 93 :: []))) := e_951_66
  have g_951_77 : cE h_951 77 (.inl (.int, fA gt'_951)) := e_951_77
  have g_951_78 : cE h_951 78 (.inl (.int, fA gd'_951)) := e_951_78
  have g_951_79 : cE h_951 79 (.inl (.long, fL xs'_951)) := e_951_79
  have g_951_80 : cE h_951 80 (.inl (.long, fL ys'_951)) := e_951_80
  have g_951_81 : cE h_951 81 (.inl (.long, fL r1'_951)) := e_951_81
  have g_951_82 : cE h_951 82 (.inl (.long, fL r2'_951)) := e_951_82
  refine ik_Wk 0 (pc_q := 99) (loc_q := [some (.ref 66), some (fI p), some (fI 3), some (fI pa), some (fI fa), some (fI pb), some (fI fb), some (fI 1), some (fI 0)]) (st_q := [fI (mr_w (mf_cm (fun x => mx_w cn go ch s x) (pl - 1) ka (p + 1)) 0 (mf_cm (fun x => mx_w cn go ch s x) (pl - 1) kb (p + 0)) 0 0), fI 3, .ref 83]) (h_q := h_951) (cl_q := 0) (sl_q := 0) rfl ?_
  have wb_951 : 0 ≤ mr_w (mf_cm (fun x => mx_w cn go ch s x) (pl - 1) ka (p + 1)) 0 (mf_cm (fun x => mx_w cn go ch s x) (pl - 1) kb (p + 0)) 0 0 ∧ mr_w (mf_cm (fun x => mx_w cn go ch s x) (pl - 1) ka (p + 1)) 0 (mf_cm (fun x => mx_w cn go ch s x) (pl - 1) kb (p + 0)) 0 0 ≤ 1000000 := mr_w_b (mr_ok_cm (W := (fun x => mx_w cn go ch s x)) (k := ka) q4 (show 0 ≤ p + 1 ∧ p + 1 < pl - 1 by omega)) (mr_ok_cm (W := (fun x => mx_w cn go ch s x)) (k := kb) q4 (show 0 ≤ p + 0 ∧ p + 0 < pl - 1 by omega)) (by decide +kernel) (by decide +kernel) 0
  refine fw_si rfl (by decide +kernel) ?_
  refine fx_idiv rfl (by omega) (by omega) (by omega) (by omega) ?_
  refine fw_i2l rfl (by omega) (by omega) ?_
  have hl11 : ((((fr.set (0 : Int).toNat ((mr_w (mf_cm (fun x => mx_w cn go ch s x) (pl - 1) ka (p + 0)) 0 (mf_cm (fun x => mx_w cn go ch s x) (pl - 1) kb (p + 0)) 0 0) / 1000)).set (1 : Int).toNat ((mr_w (mf_cm (fun x => mx_w cn go ch s x) (pl - 1) ka (p + 0)) 0 (mf_cm (fun x => mx_w cn go ch s x) (pl - 1) kb (p + 1)) 0 0) / 1000)).set (2 : Int).toNat ((mr_w (mf_cm (fun x => mx_w cn go ch s x) (pl - 1) ka (p + 0)) 0 (mf_cm (fun x => mx_w cn go ch s x) (pl - 1) kb (p + 2)) 0 0) / 1000)).set (3 : Int).toNat ((mr_w (mf_cm (fun x => mx_w cn go ch s x) (pl - 1) ka (p + 1)) 0 (mf_cm (fun x => mx_w cn go ch s x) (pl - 1) kb (p + 0)) 0 0) / 1000)).length = 9 := (List.length_set ..).trans hl7
  refine fx_las rfl g_951_83 (by omega) (by omega) (by omega) ?_
  intro h_952 e_952 f_952 l_952
  have k_952 : cL h_952 := l_952.trans k_951
  have fr_952 := hfr_wb fr_951 f_952 l_952 rfl
  clear l_952
  have g_952_66 := (f_952 66 (Nat.ne_of_beq_eq_false rfl)).trans g_951_66
  have g_952_67 := (f_952 67 (Nat.ne_of_beq_eq_false rfl)).trans g_951_67
  have g_952_68 := (f_952 68 (Nat.ne_of_beq_eq_false rfl)).trans g_951_68
  have g_952_69 := (f_952 69 (Nat.ne_of_beq_eq_false rfl)).trans g_951_69
  have g_952_77 := (f_952 77 (Nat.ne_of_beq_eq_false rfl)).trans g_951_77
  have g_952_78 := (f_952 78 (Nat.ne_of_beq_eq_false rfl)).trans g_951_78
  have g_952_79 := (f_952 79 (Nat.ne_of_beq_eq_false rfl)).trans g_951_79
  have g_952_80 := (f_952 80 (Nat.ne_of_beq_eq_false rfl)).trans g_951_80
  have g_952_70 := (f_952 70 (Nat.ne_of_beq_eq_false rfl)).trans g_951_70
  have g_952_81 := (f_952 81 (Nat.ne_of_beq_eq_false rfl)).trans g_951_81
  have g_952_82 := (f_952 82 (Nat.ne_of_beq_eq_false rfl)).trans g_951_82
  have g_952_83 : cE h_952 83 (.inl (.long, fL ((((fr.set (0 : Int).toNat ((mr_w (mf_cm (fun x => mx_w cn go ch s x) (pl - 1) ka (p + 0)) 0 (mf_cm (fun x => mx_w cn go ch s x) (pl - 1) kb (p + 0)) 0 0) / 1000)).set (1 : Int).toNat ((mr_w (mf_cm (fun x => mx_w cn go ch s x) (pl - 1) ka (p + 0)) 0 (mf_cm (fun x => mx_w cn go ch s x) (pl - 1) kb (p + 1)) 0 0) / 1000)).set (2 : Int).toNat ((mr_w (mf_cm (fun x => mx_w cn go ch s x) (pl - 1) ka (p + 0)) 0 (mf_cm (fun x => mx_w cn go ch s x) (pl - 1) kb (p + 2)) 0 0) / 1000)).set (3 : Int).toNat ((mr_w (mf_cm (fun x => mx_w cn go ch s x) (pl - 1) ka (p + 1)) 0 (mf_cm (fun x => mx_w cn go ch s x) (pl - 1) kb (p + 0)) 0 0) / 1000)))) := e_952
  refine fw_inc (a := 0) (loc_q := [some (.ref 66), some (fI p), some (fI 3), some (fI pa), some (fI fa), some (fI pb), some (fI fb), some (fI 1), some (fI 1)]) rfl rfl (Nat.le_of_ble_eq_true rfl) rfl ?_
  refine ik_Wk 3 (pc_q := 60) (loc_q := [some (.ref 66), some (fI p), some (fI 3), some (fI pa), some (fI fa), some (fI pb), some (fI fb), some (fI 1), some (fI 1)]) (st_q := [fI 3, fI 1]) (h_q := h_952) (cl_q := 0) (sl_q := 0) rfl ?_
  refine fw_ic_ge rfl rfl (by decide +kernel) (by decide +kernel) (by decide +kernel) (by decide +kernel) (fun hc12 => absurd hc12 (by decide +kernel)) (fun hc12 => ?_)
  refine ik_Wk 1 (pc_q := 64) (loc_q := [some (.ref 66), some (fI p), some (fI 3), some (fI pa), some (fI fa), some (fI pb), some (fI fb), some (fI 1), some (fI 1)]) (st_q := [.ref 66]) (h_q := h_952) (cl_q := 0) (sl_q := 0) rfl ?_
  refine fw_gf rfl rfl g_952_66 rfl ?_
  refine ik_Wk 3 (pc_q := 71) (loc_q := [some (.ref 66), some (fI p), some (fI 3), some (fI pa), some (fI fa), some (fI pb), some (fI fb), some (fI 1), some (fI 1)]) (st_q := [fI 1, fI p, fI 1, .ref 70]) (h_q := h_952) (cl_q := 0) (sl_q := 0) rfl ?_
  refine fw_add rfl ?_
  refine fx_ias (z := 1) rfl g_952_70 (by decide +kernel) (Nat.le_of_ble_eq_true rfl) (by decide +kernel) ?_
  intro h_953 e_953 f_953 l_953
  have k_953 : cL h_953 := l_953.trans k_952
  have fr_953 := hfr_wb fr_952 f_953 l_953 rfl
  clear l_953
  have g_953_66 := (f_953 66 (Nat.ne_of_beq_eq_false rfl)).trans g_952_66
  have g_953_67 := (f_953 67 (Nat.ne_of_beq_eq_false rfl)).trans g_952_67
  have g_953_68 := (f_953 68 (Nat.ne_of_beq_eq_false rfl)).trans g_952_68
  have g_953_69 := (f_953 69 (Nat.ne_of_beq_eq_false rfl)).trans g_952_69
  have g_953_77 := (f_953 77 (Nat.ne_of_beq_eq_false rfl)).trans g_952_77
  have g_953_78 := (f_953 78 (Nat.ne_of_beq_eq_false rfl)).trans g_952_78
  have g_953_79 := (f_953 79 (Nat.ne_of_beq_eq_false rfl)).trans g_952_79
  have g_953_80 := (f_953 80 (Nat.ne_of_beq_eq_false rfl)).trans g_952_80
  have g_953_81 := (f_953 81 (Nat.ne_of_beq_eq_false rfl)).trans g_952_81
  have g_953_82 := (f_953 82 (Nat.ne_of_beq_eq_false rfl)).trans g_952_82
  have g_953_83 := (f_953 83 (Nat.ne_of_beq_eq_false rfl)).trans g_952_83
  have g_953_70 : cE h_953 70 (.inl (.int, fA [ka, p + 1, 0, kb, p + 0, 0])) := e_953
  refine ik_Wk 1 (pc_q := 74) (loc_q := [some (.ref 66), some (fI p), some (fI 3), some (fI pa), some (fI fa), some (fI pb), some (fI fb), some (fI 1), some (fI 1)]) (st_q := [.ref 66]) (h_q := h_953) (cl_q := 0) (sl_q := 0) rfl ?_
  refine fw_gf rfl rfl g_953_66 rfl ?_
  refine ik_Wk 3 (pc_q := 81) (loc_q := [some (.ref 66), some (fI p), some (fI 3), some (fI pa), some (fI fa), some (fI pb), some (fI fb), some (fI 1), some (fI 1)]) (st_q := [fI 1, fI p, fI 4, .ref 70]) (h_q := h_953) (cl_q := 0) (sl_q := 0) rfl ?_
  refine fw_add rfl ?_
  refine fx_ias (z := 4) rfl g_953_70 (by decide +kernel) (Nat.le_of_ble_eq_true rfl) (by decide +kernel) ?_
  intro h_954 e_954 f_954 l_954
  have k_954 : cL h_954 := l_954.trans k_953
  have fr_954 := hfr_wb fr_953 f_954 l_954 rfl
  clear l_954
  have g_954_66 := (f_954 66 (Nat.ne_of_beq_eq_false rfl)).trans g_953_66
  have g_954_67 := (f_954 67 (Nat.ne_of_beq_eq_false rfl)).trans g_953_67
  have g_954_68 := (f_954 68 (Nat.ne_of_beq_eq_false rfl)).trans g_953_68
  have g_954_69 := (f_954 69 (Nat.ne_of_beq_eq_false rfl)).trans g_953_69
  have g_954_77 := (f_954 77 (Nat.ne_of_beq_eq_false rfl)).trans g_953_77
  have g_954_78 := (f_954 78 (Nat.ne_of_beq_eq_false rfl)).trans g_953_78
  have g_954_79 := (f_954 79 (Nat.ne_of_beq_eq_false rfl)).trans g_953_79
  have g_954_80 := (f_954 80 (Nat.ne_of_beq_eq_false rfl)).trans g_953_80
  have g_954_81 := (f_954 81 (Nat.ne_of_beq_eq_false rfl)).trans g_953_81
  have g_954_82 := (f_954 82 (Nat.ne_of_beq_eq_false rfl)).trans g_953_82
  have g_954_83 := (f_954 83 (Nat.ne_of_beq_eq_false rfl)).trans g_953_83
  have g_954_70 : cE h_954 70 (.inl (.int, fA [ka, p + 1, 0, kb, p + 1, 0])) := e_954
  refine ik_Wk 1 (pc_q := 84) (loc_q := [some (.ref 66), some (fI p), some (fI 3), some (fI pa), some (fI fa), some (fI pb), some (fI fb), some (fI 1), some (fI 1)]) (st_q := [.ref 66]) (h_q := h_954) (cl_q := 0) (sl_q := 0) rfl ?_
  refine fw_gf rfl rfl g_954_66 rfl ?_
  refine ik_Wk 2 (pc_q := 90) (loc_q := [some (.ref 66), some (fI p), some (fI 3), some (fI pa), some (fI fa), some (fI pb), some (fI fb), some (fI 1), some (fI 1)]) (st_q := [fI 1, fI 3, .ref 83]) (h_q := h_954) (cl_q := 0) (sl_q := 0) rfl ?_
  refine fw_mul rfl ?_
  refine ik_Wk 1 (pc_q := 93) (loc_q := [some (.ref 66), some (fI p), some (fI 3), some (fI pa), some (fI fa), some (fI pb), some (fI fb), some (fI 1), some (fI 1)]) (st_q := [fI 1, fI 3, .ref 83]) (h_q := h_954) (cl_q := 0) (sl_q := 0) rfl ?_
  refine fw_add rfl ?_
  refine ik_Wk 2 (pc_q := 96) (loc_q := [some (.ref 66), some (fI p), some (fI 3), some (fI pa), some (fI fa), some (fI pb), some (fI fb), some (fI 1), some (fI 1)]) (st_q := [fI 0, .ref 66, fI 4, .ref 83]) (h_q := h_954) (cl_q := 0) (sl_q := 0) rfl ?_
  refine fw_call 169 2 0 [.ref 66, fI 0] [fI 4, .ref 83] rfl rfl rfl (Nat.le_of_ble_eq_true rfl) rfl rfl (fw_rec k_954 rfl g_954_66 rfl (Nat.le_of_ble_eq_true rfl)) (cr_laterOf (pl := pl) (f := fun j => ((0 :: 0 :: 0 :: 0 :: 0 :: 0 :: 0 :: ((f 7)) :: ((f 8)) :: 0 :: ((f 10)) :: ((f 11)) :: ((f 12)) :: ((f 13)) :: ((f 14)) :: ((f 15)) :: ((f 16)) :: ((f 17)) :: 0 :: 0 :: 0 :: 0 :: 0 :: 0 :: w'_951 :: 0 :: 0 :: 0 :: 0 :: 0 :: 0 :: 0 :: ((f 32)) :: ((f 33)) :: 0 :: 0 :: ((f 36)) :: 0 :: 0 :: 0 :: 0 :: 0 :: 0 :: []) : List Int).getD j 0) (s := s) (cn := cn) (go := go) (ch := ch) (gt := gt'_951) (gd := gd'_951) (xs := xs'_951) (ys := ys'_951) (ka := ka) (pa := p + 1) (fa := 0) (kb := kb) (pb := p + 1) (fb := 0) (r1 := r1'_951) (r2 := r2'_951) (wh := 0) (by omega) (by omega) q2 q3 q4 (by omega) (by omega) (by omega) (by omega) (by omega) (by omega) (by omega) g_954_66 g_954_67 n67 g_954_68 n68 g_954_69 n69 g_954_77 m_951_77 g_954_78 m_951_78 g_954_79 m_951_79 g_954_80 m_951_80 g_954_70 g_954_81 m_951_81 g_954_82 m_951_82 k_954) ?_
  rintro _ h_955 ⟨w'_955, gt'_955, gd'_955, xs'_955, ys'_955, r1'_955, r2'_955, rfl, e_955_66, e_955_77, m_955_77, e_955_78, m_955_78, e_955_79, m_955_79, e_955_80, m_955_80, e_955_81, m_955_81, e_955_82, m_955_82, F_955⟩
  have k_955 : cL h_955 := F_955.1.trans k_954
  have fr_955 := hfr_cb fr_954 F_955 rfl
  have g_955_67 := (hfr_g F_955 67 rfl).trans g_954_67
  have g_955_68 := (hfr_g F_955 68 rfl).trans g_954_68
  have g_955_69 := (hfr_g F_955 69 rfl).trans g_954_69
  have g_955_70 := (hfr_g F_955 70 rfl).trans g_954_70
  have g_955_83 := (hfr_g F_955 83 rfl).trans g_954_83
  have g_955_66 : cE h_955 66 (.inr (10, (fI pl :: .ref 67 :: .ref 68 :: .ref 69 :: fI ((s : Nat) : Int) :: .ref 70 :: .ref 71 :: fI (f 7) :: fI (f 8) :: .ref 72 :: fI (f 10) :: fI (f 11) :: fI (f 12) :: fJ (f 13) :: fI (f 14) :: fI (f 15) :: fI (f 16) :: fI (f 17) :: .ref 73 :: .ref 74 :: .ref 75 :: .ref 76 :: .ref 77 :: .ref 78 :: fI w'_955 :: .ref 79 :: .ref 80 :: .ref 81 :: .ref 82 :: .ref 83 :: .ref 84 :: .ref 85 :: fJ (f 32) :: fJ (f 33) :: .ref 86 :: .ref 87 :: fI (f 36) :: .ref 88 :: .ref 89 :: .ref 90 :: .ref 91 :: .ref 92 :: .ref 93 :: []))) := e_955_66
  have g_955_77 : cE h_955 77 (.inl (.int, fA gt'_955)) := e_955_77
  have g_955_78 : cE h_955 78 (.inl (.int, fA gd'_955)) := e_955_78
  have g_955_79 : cE h_955 79 (.inl (.long, fL xs'_955)) := e_955_79
  have g_955_80 : cE h_955 80 (.inl (.long, fL ys'_955)) := e_955_80
  have g_955_81 : cE h_955 81 (.inl (.long, fL r1'_955)) := e_955_81
  have g_955_82 : cE h_955 82 (.inl (.long, fL r2'_955)) := e_955_82
  refine ik_Wk 0 (pc_q := 99) (loc_q := [some (.ref 66), some (fI p), some (fI 3), some (fI pa), some (fI fa), some (fI pb), some (fI fb), some (fI 1), some (fI 1)]) (st_q := [fI (mr_w (mf_cm (fun x => mx_w cn go ch s x) (pl - 1) ka (p + 1)) 0 (mf_cm (fun x => mx_w cn go ch s x) (pl - 1) kb (p + 1)) 0 0), fI 4, .ref 83]) (h_q := h_955) (cl_q := 0) (sl_q := 0) rfl ?_
  have wb_955 : 0 ≤ mr_w (mf_cm (fun x => mx_w cn go ch s x) (pl - 1) ka (p + 1)) 0 (mf_cm (fun x => mx_w cn go ch s x) (pl - 1) kb (p + 1)) 0 0 ∧ mr_w (mf_cm (fun x => mx_w cn go ch s x) (pl - 1) ka (p + 1)) 0 (mf_cm (fun x => mx_w cn go ch s x) (pl - 1) kb (p + 1)) 0 0 ≤ 1000000 := mr_w_b (mr_ok_cm (W := (fun x => mx_w cn go ch s x)) (k := ka) q4 (show 0 ≤ p + 1 ∧ p + 1 < pl - 1 by omega)) (mr_ok_cm (W := (fun x => mx_w cn go ch s x)) (k := kb) q4 (show 0 ≤ p + 1 ∧ p + 1 < pl - 1 by omega)) (by decide +kernel) (by decide +kernel) 0
  refine fw_si rfl (by decide +kernel) ?_
  refine fx_idiv rfl (by omega) (by omega) (by omega) (by omega) ?_
  refine fw_i2l rfl (by omega) (by omega) ?_
  have hl13 : (((((fr.set (0 : Int).toNat ((mr_w (mf_cm (fun x => mx_w cn go ch s x) (pl - 1) ka (p + 0)) 0 (mf_cm (fun x => mx_w cn go ch s x) (pl - 1) kb (p + 0)) 0 0) / 1000)).set (1 : Int).toNat ((mr_w (mf_cm (fun x => mx_w cn go ch s x) (pl - 1) ka (p + 0)) 0 (mf_cm (fun x => mx_w cn go ch s x) (pl - 1) kb (p + 1)) 0 0) / 1000)).set (2 : Int).toNat ((mr_w (mf_cm (fun x => mx_w cn go ch s x) (pl - 1) ka (p + 0)) 0 (mf_cm (fun x => mx_w cn go ch s x) (pl - 1) kb (p + 2)) 0 0) / 1000)).set (3 : Int).toNat ((mr_w (mf_cm (fun x => mx_w cn go ch s x) (pl - 1) ka (p + 1)) 0 (mf_cm (fun x => mx_w cn go ch s x) (pl - 1) kb (p + 0)) 0 0) / 1000)).set (4 : Int).toNat ((mr_w (mf_cm (fun x => mx_w cn go ch s x) (pl - 1) ka (p + 1)) 0 (mf_cm (fun x => mx_w cn go ch s x) (pl - 1) kb (p + 1)) 0 0) / 1000)).length = 9 := (List.length_set ..).trans hl11
  refine fx_las rfl g_955_83 (by omega) (by omega) (by omega) ?_
  intro h_956 e_956 f_956 l_956
  have k_956 : cL h_956 := l_956.trans k_955
  have fr_956 := hfr_wb fr_955 f_956 l_956 rfl
  clear l_956
  have g_956_66 := (f_956 66 (Nat.ne_of_beq_eq_false rfl)).trans g_955_66
  have g_956_67 := (f_956 67 (Nat.ne_of_beq_eq_false rfl)).trans g_955_67
  have g_956_68 := (f_956 68 (Nat.ne_of_beq_eq_false rfl)).trans g_955_68
  have g_956_69 := (f_956 69 (Nat.ne_of_beq_eq_false rfl)).trans g_955_69
  have g_956_77 := (f_956 77 (Nat.ne_of_beq_eq_false rfl)).trans g_955_77
  have g_956_78 := (f_956 78 (Nat.ne_of_beq_eq_false rfl)).trans g_955_78
  have g_956_79 := (f_956 79 (Nat.ne_of_beq_eq_false rfl)).trans g_955_79
  have g_956_80 := (f_956 80 (Nat.ne_of_beq_eq_false rfl)).trans g_955_80
  have g_956_70 := (f_956 70 (Nat.ne_of_beq_eq_false rfl)).trans g_955_70
  have g_956_81 := (f_956 81 (Nat.ne_of_beq_eq_false rfl)).trans g_955_81
  have g_956_82 := (f_956 82 (Nat.ne_of_beq_eq_false rfl)).trans g_955_82
  have g_956_83 : cE h_956 83 (.inl (.long, fL (((((fr.set (0 : Int).toNat ((mr_w (mf_cm (fun x => mx_w cn go ch s x) (pl - 1) ka (p + 0)) 0 (mf_cm (fun x => mx_w cn go ch s x) (pl - 1) kb (p + 0)) 0 0) / 1000)).set (1 : Int).toNat ((mr_w (mf_cm (fun x => mx_w cn go ch s x) (pl - 1) ka (p + 0)) 0 (mf_cm (fun x => mx_w cn go ch s x) (pl - 1) kb (p + 1)) 0 0) / 1000)).set (2 : Int).toNat ((mr_w (mf_cm (fun x => mx_w cn go ch s x) (pl - 1) ka (p + 0)) 0 (mf_cm (fun x => mx_w cn go ch s x) (pl - 1) kb (p + 2)) 0 0) / 1000)).set (3 : Int).toNat ((mr_w (mf_cm (fun x => mx_w cn go ch s x) (pl - 1) ka (p + 1)) 0 (mf_cm (fun x => mx_w cn go ch s x) (pl - 1) kb (p + 0)) 0 0) / 1000)).set (4 : Int).toNat ((mr_w (mf_cm (fun x => mx_w cn go ch s x) (pl - 1) ka (p + 1)) 0 (mf_cm (fun x => mx_w cn go ch s x) (pl - 1) kb (p + 1)) 0 0) / 1000)))) := e_956
  refine fw_inc (a := 1) (loc_q := [some (.ref 66), some (fI p), some (fI 3), some (fI pa), some (fI fa), some (fI pb), some (fI fb), some (fI 1), some (fI 2)]) rfl rfl (Nat.le_of_ble_eq_true rfl) rfl ?_
  refine ik_Wk 3 (pc_q := 60) (loc_q := [some (.ref 66), some (fI p), some (fI 3), some (fI pa), some (fI fa), some (fI pb), some (fI fb), some (fI 1), some (fI 2)]) (st_q := [fI 3, fI 2]) (h_q := h_956) (cl_q := 0) (sl_q := 0) rfl ?_
  refine fw_ic_ge rfl rfl (by decide +kernel) (by decide +kernel) (by decide +kernel) (by decide +kernel) (fun hc14 => absurd hc14 (by decide +kernel)) (fun hc14 => ?_)
  refine ik_Wk 1 (pc_q := 64) (loc_q := [some (.ref 66), some (fI p), some (fI 3), some (fI pa), some (fI fa), some (fI pb), some (fI fb), some (fI 1), some (fI 2)]) (st_q := [.ref 66]) (h_q := h_956) (cl_q := 0) (sl_q := 0) rfl ?_
  refine fw_gf rfl rfl g_956_66 rfl ?_
  refine ik_Wk 3 (pc_q := 71) (loc_q := [some (.ref 66), some (fI p), some (fI 3), some (fI pa), some (fI fa), some (fI pb), some (fI fb), some (fI 1), some (fI 2)]) (st_q := [fI 1, fI p, fI 1, .ref 70]) (h_q := h_956) (cl_q := 0) (sl_q := 0) rfl ?_
  refine fw_add rfl ?_
  refine fx_ias (z := 1) rfl g_956_70 (by decide +kernel) (Nat.le_of_ble_eq_true rfl) (by decide +kernel) ?_
  intro h_957 e_957 f_957 l_957
  have k_957 : cL h_957 := l_957.trans k_956
  have fr_957 := hfr_wb fr_956 f_957 l_957 rfl
  clear l_957
  have g_957_66 := (f_957 66 (Nat.ne_of_beq_eq_false rfl)).trans g_956_66
  have g_957_67 := (f_957 67 (Nat.ne_of_beq_eq_false rfl)).trans g_956_67
  have g_957_68 := (f_957 68 (Nat.ne_of_beq_eq_false rfl)).trans g_956_68
  have g_957_69 := (f_957 69 (Nat.ne_of_beq_eq_false rfl)).trans g_956_69
  have g_957_77 := (f_957 77 (Nat.ne_of_beq_eq_false rfl)).trans g_956_77
  have g_957_78 := (f_957 78 (Nat.ne_of_beq_eq_false rfl)).trans g_956_78
  have g_957_79 := (f_957 79 (Nat.ne_of_beq_eq_false rfl)).trans g_956_79
  have g_957_80 := (f_957 80 (Nat.ne_of_beq_eq_false rfl)).trans g_956_80
  have g_957_81 := (f_957 81 (Nat.ne_of_beq_eq_false rfl)).trans g_956_81
  have g_957_82 := (f_957 82 (Nat.ne_of_beq_eq_false rfl)).trans g_956_82
  have g_957_83 := (f_957 83 (Nat.ne_of_beq_eq_false rfl)).trans g_956_83
  have g_957_70 : cE h_957 70 (.inl (.int, fA [ka, p + 1, 0, kb, p + 1, 0])) := e_957
  refine ik_Wk 1 (pc_q := 74) (loc_q := [some (.ref 66), some (fI p), some (fI 3), some (fI pa), some (fI fa), some (fI pb), some (fI fb), some (fI 1), some (fI 2)]) (st_q := [.ref 66]) (h_q := h_957) (cl_q := 0) (sl_q := 0) rfl ?_
  refine fw_gf rfl rfl g_957_66 rfl ?_
  refine ik_Wk 3 (pc_q := 81) (loc_q := [some (.ref 66), some (fI p), some (fI 3), some (fI pa), some (fI fa), some (fI pb), some (fI fb), some (fI 1), some (fI 2)]) (st_q := [fI 2, fI p, fI 4, .ref 70]) (h_q := h_957) (cl_q := 0) (sl_q := 0) rfl ?_
  refine fw_add rfl ?_
  refine fx_ias (z := 4) rfl g_957_70 (by decide +kernel) (Nat.le_of_ble_eq_true rfl) (by decide +kernel) ?_
  intro h_958 e_958 f_958 l_958
  have k_958 : cL h_958 := l_958.trans k_957
  have fr_958 := hfr_wb fr_957 f_958 l_958 rfl
  clear l_958
  have g_958_66 := (f_958 66 (Nat.ne_of_beq_eq_false rfl)).trans g_957_66
  have g_958_67 := (f_958 67 (Nat.ne_of_beq_eq_false rfl)).trans g_957_67
  have g_958_68 := (f_958 68 (Nat.ne_of_beq_eq_false rfl)).trans g_957_68
  have g_958_69 := (f_958 69 (Nat.ne_of_beq_eq_false rfl)).trans g_957_69
  have g_958_77 := (f_958 77 (Nat.ne_of_beq_eq_false rfl)).trans g_957_77
  have g_958_78 := (f_958 78 (Nat.ne_of_beq_eq_false rfl)).trans g_957_78
  have g_958_79 := (f_958 79 (Nat.ne_of_beq_eq_false rfl)).trans g_957_79
  have g_958_80 := (f_958 80 (Nat.ne_of_beq_eq_false rfl)).trans g_957_80
  have g_958_81 := (f_958 81 (Nat.ne_of_beq_eq_false rfl)).trans g_957_81
  have g_958_82 := (f_958 82 (Nat.ne_of_beq_eq_false rfl)).trans g_957_82
  have g_958_83 := (f_958 83 (Nat.ne_of_beq_eq_false rfl)).trans g_957_83
  have g_958_70 : cE h_958 70 (.inl (.int, fA [ka, p + 1, 0, kb, p + 2, 0])) := e_958
  refine ik_Wk 1 (pc_q := 84) (loc_q := [some (.ref 66), some (fI p), some (fI 3), some (fI pa), some (fI fa), some (fI pb), some (fI fb), some (fI 1), some (fI 2)]) (st_q := [.ref 66]) (h_q := h_958) (cl_q := 0) (sl_q := 0) rfl ?_
  refine fw_gf rfl rfl g_958_66 rfl ?_
  refine ik_Wk 2 (pc_q := 90) (loc_q := [some (.ref 66), some (fI p), some (fI 3), some (fI pa), some (fI fa), some (fI pb), some (fI fb), some (fI 1), some (fI 2)]) (st_q := [fI 1, fI 3, .ref 83]) (h_q := h_958) (cl_q := 0) (sl_q := 0) rfl ?_
  refine fw_mul rfl ?_
  refine ik_Wk 1 (pc_q := 93) (loc_q := [some (.ref 66), some (fI p), some (fI 3), some (fI pa), some (fI fa), some (fI pb), some (fI fb), some (fI 1), some (fI 2)]) (st_q := [fI 2, fI 3, .ref 83]) (h_q := h_958) (cl_q := 0) (sl_q := 0) rfl ?_
  refine fw_add rfl ?_
  refine ik_Wk 2 (pc_q := 96) (loc_q := [some (.ref 66), some (fI p), some (fI 3), some (fI pa), some (fI fa), some (fI pb), some (fI fb), some (fI 1), some (fI 2)]) (st_q := [fI 0, .ref 66, fI 5, .ref 83]) (h_q := h_958) (cl_q := 0) (sl_q := 0) rfl ?_
  refine fw_call 169 2 0 [.ref 66, fI 0] [fI 5, .ref 83] rfl rfl rfl (Nat.le_of_ble_eq_true rfl) rfl rfl (fw_rec k_958 rfl g_958_66 rfl (Nat.le_of_ble_eq_true rfl)) (cr_laterOf (pl := pl) (f := fun j => ((0 :: 0 :: 0 :: 0 :: 0 :: 0 :: 0 :: ((f 7)) :: ((f 8)) :: 0 :: ((f 10)) :: ((f 11)) :: ((f 12)) :: ((f 13)) :: ((f 14)) :: ((f 15)) :: ((f 16)) :: ((f 17)) :: 0 :: 0 :: 0 :: 0 :: 0 :: 0 :: w'_955 :: 0 :: 0 :: 0 :: 0 :: 0 :: 0 :: 0 :: ((f 32)) :: ((f 33)) :: 0 :: 0 :: ((f 36)) :: 0 :: 0 :: 0 :: 0 :: 0 :: 0 :: []) : List Int).getD j 0) (s := s) (cn := cn) (go := go) (ch := ch) (gt := gt'_955) (gd := gd'_955) (xs := xs'_955) (ys := ys'_955) (ka := ka) (pa := p + 1) (fa := 0) (kb := kb) (pb := p + 2) (fb := 0) (r1 := r1'_955) (r2 := r2'_955) (wh := 0) (by omega) (by omega) q2 q3 q4 (by omega) (by omega) (by omega) (by omega) (by omega) (by omega) (by omega) g_958_66 g_958_67 n67 g_958_68 n68 g_958_69 n69 g_958_77 m_955_77 g_958_78 m_955_78 g_958_79 m_955_79 g_958_80 m_955_80 g_958_70 g_958_81 m_955_81 g_958_82 m_955_82 k_958) ?_
  rintro _ h_959 ⟨w'_959, gt'_959, gd'_959, xs'_959, ys'_959, r1'_959, r2'_959, rfl, e_959_66, e_959_77, m_959_77, e_959_78, m_959_78, e_959_79, m_959_79, e_959_80, m_959_80, e_959_81, m_959_81, e_959_82, m_959_82, F_959⟩
  have k_959 : cL h_959 := F_959.1.trans k_958
  have fr_959 := hfr_cb fr_958 F_959 rfl
  have g_959_67 := (hfr_g F_959 67 rfl).trans g_958_67
  have g_959_68 := (hfr_g F_959 68 rfl).trans g_958_68
  have g_959_69 := (hfr_g F_959 69 rfl).trans g_958_69
  have g_959_70 := (hfr_g F_959 70 rfl).trans g_958_70
  have g_959_83 := (hfr_g F_959 83 rfl).trans g_958_83
  have g_959_66 : cE h_959 66 (.inr (10, (fI pl :: .ref 67 :: .ref 68 :: .ref 69 :: fI ((s : Nat) : Int) :: .ref 70 :: .ref 71 :: fI (f 7) :: fI (f 8) :: .ref 72 :: fI (f 10) :: fI (f 11) :: fI (f 12) :: fJ (f 13) :: fI (f 14) :: fI (f 15) :: fI (f 16) :: fI (f 17) :: .ref 73 :: .ref 74 :: .ref 75 :: .ref 76 :: .ref 77 :: .ref 78 :: fI w'_959 :: .ref 79 :: .ref 80 :: .ref 81 :: .ref 82 :: .ref 83 :: .ref 84 :: .ref 85 :: fJ (f 32) :: fJ (f 33) :: .ref 86 :: .ref 87 :: fI (f 36) :: .ref 88 :: .ref 89 :: .ref 90 :: .ref 91 :: .ref 92 :: .ref 93 :: []))) := e_959_66
  have g_959_77 : cE h_959 77 (.inl (.int, fA gt'_959)) := e_959_77
  have g_959_78 : cE h_959 78 (.inl (.int, fA gd'_959)) := e_959_78
  have g_959_79 : cE h_959 79 (.inl (.long, fL xs'_959)) := e_959_79
  have g_959_80 : cE h_959 80 (.inl (.long, fL ys'_959)) := e_959_80
  have g_959_81 : cE h_959 81 (.inl (.long, fL r1'_959)) := e_959_81
  have g_959_82 : cE h_959 82 (.inl (.long, fL r2'_959)) := e_959_82
  refine ik_Wk 0 (pc_q := 99) (loc_q := [some (.ref 66), some (fI p), some (fI 3), some (fI pa), some (fI fa), some (fI pb), some (fI fb), some (fI 1), some (fI 2)]) (st_q := [fI (mr_w (mf_cm (fun x => mx_w cn go ch s x) (pl - 1) ka (p + 1)) 0 (mf_cm (fun x => mx_w cn go ch s x) (pl - 1) kb (p + 2)) 0 0), fI 5, .ref 83]) (h_q := h_959) (cl_q := 0) (sl_q := 0) rfl ?_
  have wb_959 : 0 ≤ mr_w (mf_cm (fun x => mx_w cn go ch s x) (pl - 1) ka (p + 1)) 0 (mf_cm (fun x => mx_w cn go ch s x) (pl - 1) kb (p + 2)) 0 0 ∧ mr_w (mf_cm (fun x => mx_w cn go ch s x) (pl - 1) ka (p + 1)) 0 (mf_cm (fun x => mx_w cn go ch s x) (pl - 1) kb (p + 2)) 0 0 ≤ 1000000 := mr_w_b (mr_ok_cm (W := (fun x => mx_w cn go ch s x)) (k := ka) q4 (show 0 ≤ p + 1 ∧ p + 1 < pl - 1 by omega)) (mr_ok_cm (W := (fun x => mx_w cn go ch s x)) (k := kb) q4 (show 0 ≤ p + 2 ∧ p + 2 < pl - 1 by omega)) (by decide +kernel) (by decide +kernel) 0
  refine fw_si rfl (by decide +kernel) ?_
  refine fx_idiv rfl (by omega) (by omega) (by omega) (by omega) ?_
  refine fw_i2l rfl (by omega) (by omega) ?_
  have hl15 : ((((((fr.set (0 : Int).toNat ((mr_w (mf_cm (fun x => mx_w cn go ch s x) (pl - 1) ka (p + 0)) 0 (mf_cm (fun x => mx_w cn go ch s x) (pl - 1) kb (p + 0)) 0 0) / 1000)).set (1 : Int).toNat ((mr_w (mf_cm (fun x => mx_w cn go ch s x) (pl - 1) ka (p + 0)) 0 (mf_cm (fun x => mx_w cn go ch s x) (pl - 1) kb (p + 1)) 0 0) / 1000)).set (2 : Int).toNat ((mr_w (mf_cm (fun x => mx_w cn go ch s x) (pl - 1) ka (p + 0)) 0 (mf_cm (fun x => mx_w cn go ch s x) (pl - 1) kb (p + 2)) 0 0) / 1000)).set (3 : Int).toNat ((mr_w (mf_cm (fun x => mx_w cn go ch s x) (pl - 1) ka (p + 1)) 0 (mf_cm (fun x => mx_w cn go ch s x) (pl - 1) kb (p + 0)) 0 0) / 1000)).set (4 : Int).toNat ((mr_w (mf_cm (fun x => mx_w cn go ch s x) (pl - 1) ka (p + 1)) 0 (mf_cm (fun x => mx_w cn go ch s x) (pl - 1) kb (p + 1)) 0 0) / 1000)).set (5 : Int).toNat ((mr_w (mf_cm (fun x => mx_w cn go ch s x) (pl - 1) ka (p + 1)) 0 (mf_cm (fun x => mx_w cn go ch s x) (pl - 1) kb (p + 2)) 0 0) / 1000)).length = 9 := (List.length_set ..).trans hl13
  refine fx_las rfl g_959_83 (by omega) (by omega) (by omega) ?_
  intro h_960 e_960 f_960 l_960
  have k_960 : cL h_960 := l_960.trans k_959
  have fr_960 := hfr_wb fr_959 f_960 l_960 rfl
  clear l_960
  have g_960_66 := (f_960 66 (Nat.ne_of_beq_eq_false rfl)).trans g_959_66
  have g_960_67 := (f_960 67 (Nat.ne_of_beq_eq_false rfl)).trans g_959_67
  have g_960_68 := (f_960 68 (Nat.ne_of_beq_eq_false rfl)).trans g_959_68
  have g_960_69 := (f_960 69 (Nat.ne_of_beq_eq_false rfl)).trans g_959_69
  have g_960_77 := (f_960 77 (Nat.ne_of_beq_eq_false rfl)).trans g_959_77
  have g_960_78 := (f_960 78 (Nat.ne_of_beq_eq_false rfl)).trans g_959_78
  have g_960_79 := (f_960 79 (Nat.ne_of_beq_eq_false rfl)).trans g_959_79
  have g_960_80 := (f_960 80 (Nat.ne_of_beq_eq_false rfl)).trans g_959_80
  have g_960_70 := (f_960 70 (Nat.ne_of_beq_eq_false rfl)).trans g_959_70
  have g_960_81 := (f_960 81 (Nat.ne_of_beq_eq_false rfl)).trans g_959_81
  have g_960_82 := (f_960 82 (Nat.ne_of_beq_eq_false rfl)).trans g_959_82
  have g_960_83 : cE h_960 83 (.inl (.long, fL ((((((fr.set (0 : Int).toNat ((mr_w (mf_cm (fun x => mx_w cn go ch s x) (pl - 1) ka (p + 0)) 0 (mf_cm (fun x => mx_w cn go ch s x) (pl - 1) kb (p + 0)) 0 0) / 1000)).set (1 : Int).toNat ((mr_w (mf_cm (fun x => mx_w cn go ch s x) (pl - 1) ka (p + 0)) 0 (mf_cm (fun x => mx_w cn go ch s x) (pl - 1) kb (p + 1)) 0 0) / 1000)).set (2 : Int).toNat ((mr_w (mf_cm (fun x => mx_w cn go ch s x) (pl - 1) ka (p + 0)) 0 (mf_cm (fun x => mx_w cn go ch s x) (pl - 1) kb (p + 2)) 0 0) / 1000)).set (3 : Int).toNat ((mr_w (mf_cm (fun x => mx_w cn go ch s x) (pl - 1) ka (p + 1)) 0 (mf_cm (fun x => mx_w cn go ch s x) (pl - 1) kb (p + 0)) 0 0) / 1000)).set (4 : Int).toNat ((mr_w (mf_cm (fun x => mx_w cn go ch s x) (pl - 1) ka (p + 1)) 0 (mf_cm (fun x => mx_w cn go ch s x) (pl - 1) kb (p + 1)) 0 0) / 1000)).set (5 : Int).toNat ((mr_w (mf_cm (fun x => mx_w cn go ch s x) (pl - 1) ka (p + 1)) 0 (mf_cm (fun x => mx_w cn go ch s x) (pl - 1) kb (p + 2)) 0 0) / 1000)))) := e_960
  refine fw_inc (a := 2) (loc_q := [some (.ref 66), some (fI p), some (fI 3), some (fI pa), some (fI fa), some (fI pb), some (fI fb), some (fI 1), some (fI 3)]) rfl rfl (Nat.le_of_ble_eq_true rfl) rfl ?_
  refine ik_Wk 3 (pc_q := 60) (loc_q := [some (.ref 66), some (fI p), some (fI 3), some (fI pa), some (fI fa), some (fI pb), some (fI fb), some (fI 1), some (fI 3)]) (st_q := [fI 3, fI 3]) (h_q := h_960) (cl_q := 0) (sl_q := 0) rfl ?_
  refine fw_ic_ge rfl rfl (by decide +kernel) (by decide +kernel) (by decide +kernel) (by decide +kernel) (fun hc16 => ?_) (fun hc16 => absurd hc16 (by decide +kernel))
  refine fw_inc (a := 1) (loc_q := [some (.ref 66), some (fI p), some (fI 3), some (fI pa), some (fI fa), some (fI pb), some (fI fb), some (fI 2), some (fI 3)]) rfl rfl (Nat.le_of_ble_eq_true rfl) rfl ?_
  refine ik_Wk 3 (pc_q := 51) (loc_q := [some (.ref 66), some (fI p), some (fI 3), some (fI pa), some (fI fa), some (fI pb), some (fI fb), some (fI 2), some (fI 3)]) (st_q := [fI 3, fI 2]) (h_q := h_960) (cl_q := 0) (sl_q := 0) rfl ?_
  refine fw_ic_ge rfl rfl (by decide +kernel) (by decide +kernel) (by decide +kernel) (by decide +kernel) (fun hc17 => absurd hc17 (by decide +kernel)) (fun hc17 => ?_)
  refine ik_Wk 4 (pc_q := 60) (loc_q := [some (.ref 66), some (fI p), some (fI 3), some (fI pa), some (fI fa), some (fI pb), some (fI fb), some (fI 2), some (fI 0)]) (st_q := [fI 3, fI 0]) (h_q := h_960) (cl_q := 0) (sl_q := 0) rfl ?_
  refine fw_ic_ge rfl rfl (by decide +kernel) (by decide +kernel) (by decide +kernel) (by decide +kernel) (fun hc18 => absurd hc18 (by decide +kernel)) (fun hc18 => ?_)
  refine ik_Wk 1 (pc_q := 64) (loc_q := [some (.ref 66), some (fI p), some (fI 3), some (fI pa), some (fI fa), some (fI pb), some (fI fb), some (fI 2), some (fI 0)]) (st_q := [.ref 66]) (h_q := h_960) (cl_q := 0) (sl_q := 0) rfl ?_
  refine fw_gf rfl rfl g_960_66 rfl ?_
  refine ik_Wk 3 (pc_q := 71) (loc_q := [some (.ref 66), some (fI p), some (fI 3), some (fI pa), some (fI fa), some (fI pb), some (fI fb), some (fI 2), some (fI 0)]) (st_q := [fI 2, fI p, fI 1, .ref 70]) (h_q := h_960) (cl_q := 0) (sl_q := 0) rfl ?_
  refine fw_add rfl ?_
  refine fx_ias (z := 1) rfl g_960_70 (by decide +kernel) (Nat.le_of_ble_eq_true rfl) (by decide +kernel) ?_
  intro h_961 e_961 f_961 l_961
  have k_961 : cL h_961 := l_961.trans k_960
  have fr_961 := hfr_wb fr_960 f_961 l_961 rfl
  clear l_961
  have g_961_66 := (f_961 66 (Nat.ne_of_beq_eq_false rfl)).trans g_960_66
  have g_961_67 := (f_961 67 (Nat.ne_of_beq_eq_false rfl)).trans g_960_67
  have g_961_68 := (f_961 68 (Nat.ne_of_beq_eq_false rfl)).trans g_960_68
  have g_961_69 := (f_961 69 (Nat.ne_of_beq_eq_false rfl)).trans g_960_69
  have g_961_77 := (f_961 77 (Nat.ne_of_beq_eq_false rfl)).trans g_960_77
  have g_961_78 := (f_961 78 (Nat.ne_of_beq_eq_false rfl)).trans g_960_78
  have g_961_79 := (f_961 79 (Nat.ne_of_beq_eq_false rfl)).trans g_960_79
  have g_961_80 := (f_961 80 (Nat.ne_of_beq_eq_false rfl)).trans g_960_80
  have g_961_81 := (f_961 81 (Nat.ne_of_beq_eq_false rfl)).trans g_960_81
  have g_961_82 := (f_961 82 (Nat.ne_of_beq_eq_false rfl)).trans g_960_82
  have g_961_83 := (f_961 83 (Nat.ne_of_beq_eq_false rfl)).trans g_960_83
  have g_961_70 : cE h_961 70 (.inl (.int, fA [ka, p + 2, 0, kb, p + 2, 0])) := e_961
  refine ik_Wk 1 (pc_q := 74) (loc_q := [some (.ref 66), some (fI p), some (fI 3), some (fI pa), some (fI fa), some (fI pb), some (fI fb), some (fI 2), some (fI 0)]) (st_q := [.ref 66]) (h_q := h_961) (cl_q := 0) (sl_q := 0) rfl ?_
  refine fw_gf rfl rfl g_961_66 rfl ?_
  refine ik_Wk 3 (pc_q := 81) (loc_q := [some (.ref 66), some (fI p), some (fI 3), some (fI pa), some (fI fa), some (fI pb), some (fI fb), some (fI 2), some (fI 0)]) (st_q := [fI 0, fI p, fI 4, .ref 70]) (h_q := h_961) (cl_q := 0) (sl_q := 0) rfl ?_
  refine fw_add rfl ?_
  refine fx_ias (z := 4) rfl g_961_70 (by decide +kernel) (Nat.le_of_ble_eq_true rfl) (by decide +kernel) ?_
  intro h_962 e_962 f_962 l_962
  have k_962 : cL h_962 := l_962.trans k_961
  have fr_962 := hfr_wb fr_961 f_962 l_962 rfl
  clear l_962
  have g_962_66 := (f_962 66 (Nat.ne_of_beq_eq_false rfl)).trans g_961_66
  have g_962_67 := (f_962 67 (Nat.ne_of_beq_eq_false rfl)).trans g_961_67
  have g_962_68 := (f_962 68 (Nat.ne_of_beq_eq_false rfl)).trans g_961_68
  have g_962_69 := (f_962 69 (Nat.ne_of_beq_eq_false rfl)).trans g_961_69
  have g_962_77 := (f_962 77 (Nat.ne_of_beq_eq_false rfl)).trans g_961_77
  have g_962_78 := (f_962 78 (Nat.ne_of_beq_eq_false rfl)).trans g_961_78
  have g_962_79 := (f_962 79 (Nat.ne_of_beq_eq_false rfl)).trans g_961_79
  have g_962_80 := (f_962 80 (Nat.ne_of_beq_eq_false rfl)).trans g_961_80
  have g_962_81 := (f_962 81 (Nat.ne_of_beq_eq_false rfl)).trans g_961_81
  have g_962_82 := (f_962 82 (Nat.ne_of_beq_eq_false rfl)).trans g_961_82
  have g_962_83 := (f_962 83 (Nat.ne_of_beq_eq_false rfl)).trans g_961_83
  have g_962_70 : cE h_962 70 (.inl (.int, fA [ka, p + 2, 0, kb, p + 0, 0])) := e_962
  refine ik_Wk 1 (pc_q := 84) (loc_q := [some (.ref 66), some (fI p), some (fI 3), some (fI pa), some (fI fa), some (fI pb), some (fI fb), some (fI 2), some (fI 0)]) (st_q := [.ref 66]) (h_q := h_962) (cl_q := 0) (sl_q := 0) rfl ?_
  refine fw_gf rfl rfl g_962_66 rfl ?_
  refine ik_Wk 2 (pc_q := 90) (loc_q := [some (.ref 66), some (fI p), some (fI 3), some (fI pa), some (fI fa), some (fI pb), some (fI fb), some (fI 2), some (fI 0)]) (st_q := [fI 2, fI 3, .ref 83]) (h_q := h_962) (cl_q := 0) (sl_q := 0) rfl ?_
  refine fw_mul rfl ?_
  refine ik_Wk 1 (pc_q := 93) (loc_q := [some (.ref 66), some (fI p), some (fI 3), some (fI pa), some (fI fa), some (fI pb), some (fI fb), some (fI 2), some (fI 0)]) (st_q := [fI 0, fI 6, .ref 83]) (h_q := h_962) (cl_q := 0) (sl_q := 0) rfl ?_
  refine fw_add rfl ?_
  refine ik_Wk 2 (pc_q := 96) (loc_q := [some (.ref 66), some (fI p), some (fI 3), some (fI pa), some (fI fa), some (fI pb), some (fI fb), some (fI 2), some (fI 0)]) (st_q := [fI 0, .ref 66, fI 6, .ref 83]) (h_q := h_962) (cl_q := 0) (sl_q := 0) rfl ?_
  refine fw_call 169 2 0 [.ref 66, fI 0] [fI 6, .ref 83] rfl rfl rfl (Nat.le_of_ble_eq_true rfl) rfl rfl (fw_rec k_962 rfl g_962_66 rfl (Nat.le_of_ble_eq_true rfl)) (cr_laterOf (pl := pl) (f := fun j => ((0 :: 0 :: 0 :: 0 :: 0 :: 0 :: 0 :: ((f 7)) :: ((f 8)) :: 0 :: ((f 10)) :: ((f 11)) :: ((f 12)) :: ((f 13)) :: ((f 14)) :: ((f 15)) :: ((f 16)) :: ((f 17)) :: 0 :: 0 :: 0 :: 0 :: 0 :: 0 :: w'_959 :: 0 :: 0 :: 0 :: 0 :: 0 :: 0 :: 0 :: ((f 32)) :: ((f 33)) :: 0 :: 0 :: ((f 36)) :: 0 :: 0 :: 0 :: 0 :: 0 :: 0 :: []) : List Int).getD j 0) (s := s) (cn := cn) (go := go) (ch := ch) (gt := gt'_959) (gd := gd'_959) (xs := xs'_959) (ys := ys'_959) (ka := ka) (pa := p + 2) (fa := 0) (kb := kb) (pb := p + 0) (fb := 0) (r1 := r1'_959) (r2 := r2'_959) (wh := 0) (by omega) (by omega) q2 q3 q4 (by omega) (by omega) (by omega) (by omega) (by omega) (by omega) (by omega) g_962_66 g_962_67 n67 g_962_68 n68 g_962_69 n69 g_962_77 m_959_77 g_962_78 m_959_78 g_962_79 m_959_79 g_962_80 m_959_80 g_962_70 g_962_81 m_959_81 g_962_82 m_959_82 k_962) ?_
  rintro _ h_963 ⟨w'_963, gt'_963, gd'_963, xs'_963, ys'_963, r1'_963, r2'_963, rfl, e_963_66, e_963_77, m_963_77, e_963_78, m_963_78, e_963_79, m_963_79, e_963_80, m_963_80, e_963_81, m_963_81, e_963_82, m_963_82, F_963⟩
  have k_963 : cL h_963 := F_963.1.trans k_962
  have fr_963 := hfr_cb fr_962 F_963 rfl
  have g_963_67 := (hfr_g F_963 67 rfl).trans g_962_67
  have g_963_68 := (hfr_g F_963 68 rfl).trans g_962_68
  have g_963_69 := (hfr_g F_963 69 rfl).trans g_962_69
  have g_963_70 := (hfr_g F_963 70 rfl).trans g_962_70
  have g_963_83 := (hfr_g F_963 83 rfl).trans g_962_83
  have g_963_66 : cE h_963 66 (.inr (10, (fI pl :: .ref 67 :: .ref 68 :: .ref 69 :: fI ((s : Nat) : Int) :: .ref 70 :: .ref 71 :: fI (f 7) :: fI (f 8) :: .ref 72 :: fI (f 10) :: fI (f 11) :: fI (f 12) :: fJ (f 13) :: fI (f 14) :: fI (f 15) :: fI (f 16) :: fI (f 17) :: .ref 73 :: .ref 74 :: .ref 75 :: .ref 76 :: .ref 77 :: .ref 78 :: fI w'_963 :: .ref 79 :: .ref 80 :: .ref 81 :: .ref 82 :: .ref 83 :: .ref 84 :: .ref 85 :: fJ (f 32) :: fJ (f 33) :: .ref 86 :: .ref 87 :: fI (f 36) :: .ref 88 :: .ref 89 :: .ref 90 :: .ref 91 :: .ref 92 :: .ref 93 :: []))) := e_963_66
  have g_963_77 : cE h_963 77 (.inl (.int, fA gt'_963)) := e_963_77
  have g_963_78 : cE h_963 78 (.inl (.int, fA gd'_963)) := e_963_78
  have g_963_79 : cE h_963 79 (.inl (.long, fL xs'_963)) := e_963_79
  have g_963_80 : cE h_963 80 (.inl (.long, fL ys'_963)) := e_963_80
  have g_963_81 : cE h_963 81 (.inl (.long, fL r1'_963)) := e_963_81
  have g_963_82 : cE h_963 82 (.inl (.long, fL r2'_963)) := e_963_82
  refine ik_Wk 0 (pc_q := 99) (loc_q := [some (.ref 66), some (fI p), some (fI 3), some (fI pa), some (fI fa), some (fI pb), some (fI fb), some (fI 2), some (fI 0)]) (st_q := [fI (mr_w (mf_cm (fun x => mx_w cn go ch s x) (pl - 1) ka (p + 2)) 0 (mf_cm (fun x => mx_w cn go ch s x) (pl - 1) kb (p + 0)) 0 0), fI 6, .ref 83]) (h_q := h_963) (cl_q := 0) (sl_q := 0) rfl ?_
  have wb_963 : 0 ≤ mr_w (mf_cm (fun x => mx_w cn go ch s x) (pl - 1) ka (p + 2)) 0 (mf_cm (fun x => mx_w cn go ch s x) (pl - 1) kb (p + 0)) 0 0 ∧ mr_w (mf_cm (fun x => mx_w cn go ch s x) (pl - 1) ka (p + 2)) 0 (mf_cm (fun x => mx_w cn go ch s x) (pl - 1) kb (p + 0)) 0 0 ≤ 1000000 := mr_w_b (mr_ok_cm (W := (fun x => mx_w cn go ch s x)) (k := ka) q4 (show 0 ≤ p + 2 ∧ p + 2 < pl - 1 by omega)) (mr_ok_cm (W := (fun x => mx_w cn go ch s x)) (k := kb) q4 (show 0 ≤ p + 0 ∧ p + 0 < pl - 1 by omega)) (by decide +kernel) (by decide +kernel) 0
  refine fw_si rfl (by decide +kernel) ?_
  refine fx_idiv rfl (by omega) (by omega) (by omega) (by omega) ?_
  refine fw_i2l rfl (by omega) (by omega) ?_
  have hl19 : (((((((fr.set (0 : Int).toNat ((mr_w (mf_cm (fun x => mx_w cn go ch s x) (pl - 1) ka (p + 0)) 0 (mf_cm (fun x => mx_w cn go ch s x) (pl - 1) kb (p + 0)) 0 0) / 1000)).set (1 : Int).toNat ((mr_w (mf_cm (fun x => mx_w cn go ch s x) (pl - 1) ka (p + 0)) 0 (mf_cm (fun x => mx_w cn go ch s x) (pl - 1) kb (p + 1)) 0 0) / 1000)).set (2 : Int).toNat ((mr_w (mf_cm (fun x => mx_w cn go ch s x) (pl - 1) ka (p + 0)) 0 (mf_cm (fun x => mx_w cn go ch s x) (pl - 1) kb (p + 2)) 0 0) / 1000)).set (3 : Int).toNat ((mr_w (mf_cm (fun x => mx_w cn go ch s x) (pl - 1) ka (p + 1)) 0 (mf_cm (fun x => mx_w cn go ch s x) (pl - 1) kb (p + 0)) 0 0) / 1000)).set (4 : Int).toNat ((mr_w (mf_cm (fun x => mx_w cn go ch s x) (pl - 1) ka (p + 1)) 0 (mf_cm (fun x => mx_w cn go ch s x) (pl - 1) kb (p + 1)) 0 0) / 1000)).set (5 : Int).toNat ((mr_w (mf_cm (fun x => mx_w cn go ch s x) (pl - 1) ka (p + 1)) 0 (mf_cm (fun x => mx_w cn go ch s x) (pl - 1) kb (p + 2)) 0 0) / 1000)).set (6 : Int).toNat ((mr_w (mf_cm (fun x => mx_w cn go ch s x) (pl - 1) ka (p + 2)) 0 (mf_cm (fun x => mx_w cn go ch s x) (pl - 1) kb (p + 0)) 0 0) / 1000)).length = 9 := (List.length_set ..).trans hl15
  refine fx_las rfl g_963_83 (by omega) (by omega) (by omega) ?_
  intro h_964 e_964 f_964 l_964
  have k_964 : cL h_964 := l_964.trans k_963
  have fr_964 := hfr_wb fr_963 f_964 l_964 rfl
  clear l_964
  have g_964_66 := (f_964 66 (Nat.ne_of_beq_eq_false rfl)).trans g_963_66
  have g_964_67 := (f_964 67 (Nat.ne_of_beq_eq_false rfl)).trans g_963_67
  have g_964_68 := (f_964 68 (Nat.ne_of_beq_eq_false rfl)).trans g_963_68
  have g_964_69 := (f_964 69 (Nat.ne_of_beq_eq_false rfl)).trans g_963_69
  have g_964_77 := (f_964 77 (Nat.ne_of_beq_eq_false rfl)).trans g_963_77
  have g_964_78 := (f_964 78 (Nat.ne_of_beq_eq_false rfl)).trans g_963_78
  have g_964_79 := (f_964 79 (Nat.ne_of_beq_eq_false rfl)).trans g_963_79
  have g_964_80 := (f_964 80 (Nat.ne_of_beq_eq_false rfl)).trans g_963_80
  have g_964_70 := (f_964 70 (Nat.ne_of_beq_eq_false rfl)).trans g_963_70
  have g_964_81 := (f_964 81 (Nat.ne_of_beq_eq_false rfl)).trans g_963_81
  have g_964_82 := (f_964 82 (Nat.ne_of_beq_eq_false rfl)).trans g_963_82
  have g_964_83 : cE h_964 83 (.inl (.long, fL (((((((fr.set (0 : Int).toNat ((mr_w (mf_cm (fun x => mx_w cn go ch s x) (pl - 1) ka (p + 0)) 0 (mf_cm (fun x => mx_w cn go ch s x) (pl - 1) kb (p + 0)) 0 0) / 1000)).set (1 : Int).toNat ((mr_w (mf_cm (fun x => mx_w cn go ch s x) (pl - 1) ka (p + 0)) 0 (mf_cm (fun x => mx_w cn go ch s x) (pl - 1) kb (p + 1)) 0 0) / 1000)).set (2 : Int).toNat ((mr_w (mf_cm (fun x => mx_w cn go ch s x) (pl - 1) ka (p + 0)) 0 (mf_cm (fun x => mx_w cn go ch s x) (pl - 1) kb (p + 2)) 0 0) / 1000)).set (3 : Int).toNat ((mr_w (mf_cm (fun x => mx_w cn go ch s x) (pl - 1) ka (p + 1)) 0 (mf_cm (fun x => mx_w cn go ch s x) (pl - 1) kb (p + 0)) 0 0) / 1000)).set (4 : Int).toNat ((mr_w (mf_cm (fun x => mx_w cn go ch s x) (pl - 1) ka (p + 1)) 0 (mf_cm (fun x => mx_w cn go ch s x) (pl - 1) kb (p + 1)) 0 0) / 1000)).set (5 : Int).toNat ((mr_w (mf_cm (fun x => mx_w cn go ch s x) (pl - 1) ka (p + 1)) 0 (mf_cm (fun x => mx_w cn go ch s x) (pl - 1) kb (p + 2)) 0 0) / 1000)).set (6 : Int).toNat ((mr_w (mf_cm (fun x => mx_w cn go ch s x) (pl - 1) ka (p + 2)) 0 (mf_cm (fun x => mx_w cn go ch s x) (pl - 1) kb (p + 0)) 0 0) / 1000)))) := e_964
  refine fw_inc (a := 0) (loc_q := [some (.ref 66), some (fI p), some (fI 3), some (fI pa), some (fI fa), some (fI pb), some (fI fb), some (fI 2), some (fI 1)]) rfl rfl (Nat.le_of_ble_eq_true rfl) rfl ?_
  refine ik_Wk 3 (pc_q := 60) (loc_q := [some (.ref 66), some (fI p), some (fI 3), some (fI pa), some (fI fa), some (fI pb), some (fI fb), some (fI 2), some (fI 1)]) (st_q := [fI 3, fI 1]) (h_q := h_964) (cl_q := 0) (sl_q := 0) rfl ?_
  refine fw_ic_ge rfl rfl (by decide +kernel) (by decide +kernel) (by decide +kernel) (by decide +kernel) (fun hc20 => absurd hc20 (by decide +kernel)) (fun hc20 => ?_)
  refine ik_Wk 1 (pc_q := 64) (loc_q := [some (.ref 66), some (fI p), some (fI 3), some (fI pa), some (fI fa), some (fI pb), some (fI fb), some (fI 2), some (fI 1)]) (st_q := [.ref 66]) (h_q := h_964) (cl_q := 0) (sl_q := 0) rfl ?_
  refine fw_gf rfl rfl g_964_66 rfl ?_
  refine ik_Wk 3 (pc_q := 71) (loc_q := [some (.ref 66), some (fI p), some (fI 3), some (fI pa), some (fI fa), some (fI pb), some (fI fb), some (fI 2), some (fI 1)]) (st_q := [fI 2, fI p, fI 1, .ref 70]) (h_q := h_964) (cl_q := 0) (sl_q := 0) rfl ?_
  refine fw_add rfl ?_
  refine fx_ias (z := 1) rfl g_964_70 (by decide +kernel) (Nat.le_of_ble_eq_true rfl) (by decide +kernel) ?_
  intro h_965 e_965 f_965 l_965
  have k_965 : cL h_965 := l_965.trans k_964
  have fr_965 := hfr_wb fr_964 f_965 l_965 rfl
  clear l_965
  have g_965_66 := (f_965 66 (Nat.ne_of_beq_eq_false rfl)).trans g_964_66
  have g_965_67 := (f_965 67 (Nat.ne_of_beq_eq_false rfl)).trans g_964_67
  have g_965_68 := (f_965 68 (Nat.ne_of_beq_eq_false rfl)).trans g_964_68
  have g_965_69 := (f_965 69 (Nat.ne_of_beq_eq_false rfl)).trans g_964_69
  have g_965_77 := (f_965 77 (Nat.ne_of_beq_eq_false rfl)).trans g_964_77
  have g_965_78 := (f_965 78 (Nat.ne_of_beq_eq_false rfl)).trans g_964_78
  have g_965_79 := (f_965 79 (Nat.ne_of_beq_eq_false rfl)).trans g_964_79
  have g_965_80 := (f_965 80 (Nat.ne_of_beq_eq_false rfl)).trans g_964_80
  have g_965_81 := (f_965 81 (Nat.ne_of_beq_eq_false rfl)).trans g_964_81
  have g_965_82 := (f_965 82 (Nat.ne_of_beq_eq_false rfl)).trans g_964_82
  have g_965_83 := (f_965 83 (Nat.ne_of_beq_eq_false rfl)).trans g_964_83
  have g_965_70 : cE h_965 70 (.inl (.int, fA [ka, p + 2, 0, kb, p + 0, 0])) := e_965
  refine ik_Wk 1 (pc_q := 74) (loc_q := [some (.ref 66), some (fI p), some (fI 3), some (fI pa), some (fI fa), some (fI pb), some (fI fb), some (fI 2), some (fI 1)]) (st_q := [.ref 66]) (h_q := h_965) (cl_q := 0) (sl_q := 0) rfl ?_
  refine fw_gf rfl rfl g_965_66 rfl ?_
  refine ik_Wk 3 (pc_q := 81) (loc_q := [some (.ref 66), some (fI p), some (fI 3), some (fI pa), some (fI fa), some (fI pb), some (fI fb), some (fI 2), some (fI 1)]) (st_q := [fI 1, fI p, fI 4, .ref 70]) (h_q := h_965) (cl_q := 0) (sl_q := 0) rfl ?_
  refine fw_add rfl ?_
  refine fx_ias (z := 4) rfl g_965_70 (by decide +kernel) (Nat.le_of_ble_eq_true rfl) (by decide +kernel) ?_
  intro h_966 e_966 f_966 l_966
  have k_966 : cL h_966 := l_966.trans k_965
  have fr_966 := hfr_wb fr_965 f_966 l_966 rfl
  clear l_966
  have g_966_66 := (f_966 66 (Nat.ne_of_beq_eq_false rfl)).trans g_965_66
  have g_966_67 := (f_966 67 (Nat.ne_of_beq_eq_false rfl)).trans g_965_67
  have g_966_68 := (f_966 68 (Nat.ne_of_beq_eq_false rfl)).trans g_965_68
  have g_966_69 := (f_966 69 (Nat.ne_of_beq_eq_false rfl)).trans g_965_69
  have g_966_77 := (f_966 77 (Nat.ne_of_beq_eq_false rfl)).trans g_965_77
  have g_966_78 := (f_966 78 (Nat.ne_of_beq_eq_false rfl)).trans g_965_78
  have g_966_79 := (f_966 79 (Nat.ne_of_beq_eq_false rfl)).trans g_965_79
  have g_966_80 := (f_966 80 (Nat.ne_of_beq_eq_false rfl)).trans g_965_80
  have g_966_81 := (f_966 81 (Nat.ne_of_beq_eq_false rfl)).trans g_965_81
  have g_966_82 := (f_966 82 (Nat.ne_of_beq_eq_false rfl)).trans g_965_82
  have g_966_83 := (f_966 83 (Nat.ne_of_beq_eq_false rfl)).trans g_965_83
  have g_966_70 : cE h_966 70 (.inl (.int, fA [ka, p + 2, 0, kb, p + 1, 0])) := e_966
  refine ik_Wk 1 (pc_q := 84) (loc_q := [some (.ref 66), some (fI p), some (fI 3), some (fI pa), some (fI fa), some (fI pb), some (fI fb), some (fI 2), some (fI 1)]) (st_q := [.ref 66]) (h_q := h_966) (cl_q := 0) (sl_q := 0) rfl ?_
  refine fw_gf rfl rfl g_966_66 rfl ?_
  refine ik_Wk 2 (pc_q := 90) (loc_q := [some (.ref 66), some (fI p), some (fI 3), some (fI pa), some (fI fa), some (fI pb), some (fI fb), some (fI 2), some (fI 1)]) (st_q := [fI 2, fI 3, .ref 83]) (h_q := h_966) (cl_q := 0) (sl_q := 0) rfl ?_
  refine fw_mul rfl ?_
  refine ik_Wk 1 (pc_q := 93) (loc_q := [some (.ref 66), some (fI p), some (fI 3), some (fI pa), some (fI fa), some (fI pb), some (fI fb), some (fI 2), some (fI 1)]) (st_q := [fI 1, fI 6, .ref 83]) (h_q := h_966) (cl_q := 0) (sl_q := 0) rfl ?_
  refine fw_add rfl ?_
  refine ik_Wk 2 (pc_q := 96) (loc_q := [some (.ref 66), some (fI p), some (fI 3), some (fI pa), some (fI fa), some (fI pb), some (fI fb), some (fI 2), some (fI 1)]) (st_q := [fI 0, .ref 66, fI 7, .ref 83]) (h_q := h_966) (cl_q := 0) (sl_q := 0) rfl ?_
  refine fw_call 169 2 0 [.ref 66, fI 0] [fI 7, .ref 83] rfl rfl rfl (Nat.le_of_ble_eq_true rfl) rfl rfl (fw_rec k_966 rfl g_966_66 rfl (Nat.le_of_ble_eq_true rfl)) (cr_laterOf (pl := pl) (f := fun j => ((0 :: 0 :: 0 :: 0 :: 0 :: 0 :: 0 :: ((f 7)) :: ((f 8)) :: 0 :: ((f 10)) :: ((f 11)) :: ((f 12)) :: ((f 13)) :: ((f 14)) :: ((f 15)) :: ((f 16)) :: ((f 17)) :: 0 :: 0 :: 0 :: 0 :: 0 :: 0 :: w'_963 :: 0 :: 0 :: 0 :: 0 :: 0 :: 0 :: 0 :: ((f 32)) :: ((f 33)) :: 0 :: 0 :: ((f 36)) :: 0 :: 0 :: 0 :: 0 :: 0 :: 0 :: []) : List Int).getD j 0) (s := s) (cn := cn) (go := go) (ch := ch) (gt := gt'_963) (gd := gd'_963) (xs := xs'_963) (ys := ys'_963) (ka := ka) (pa := p + 2) (fa := 0) (kb := kb) (pb := p + 1) (fb := 0) (r1 := r1'_963) (r2 := r2'_963) (wh := 0) (by omega) (by omega) q2 q3 q4 (by omega) (by omega) (by omega) (by omega) (by omega) (by omega) (by omega) g_966_66 g_966_67 n67 g_966_68 n68 g_966_69 n69 g_966_77 m_963_77 g_966_78 m_963_78 g_966_79 m_963_79 g_966_80 m_963_80 g_966_70 g_966_81 m_963_81 g_966_82 m_963_82 k_966) ?_
  rintro _ h_967 ⟨w'_967, gt'_967, gd'_967, xs'_967, ys'_967, r1'_967, r2'_967, rfl, e_967_66, e_967_77, m_967_77, e_967_78, m_967_78, e_967_79, m_967_79, e_967_80, m_967_80, e_967_81, m_967_81, e_967_82, m_967_82, F_967⟩
  have k_967 : cL h_967 := F_967.1.trans k_966
  have fr_967 := hfr_cb fr_966 F_967 rfl
  have g_967_67 := (hfr_g F_967 67 rfl).trans g_966_67
  have g_967_68 := (hfr_g F_967 68 rfl).trans g_966_68
  have g_967_69 := (hfr_g F_967 69 rfl).trans g_966_69
  have g_967_70 := (hfr_g F_967 70 rfl).trans g_966_70
  have g_967_83 := (hfr_g F_967 83 rfl).trans g_966_83
  have g_967_66 : cE h_967 66 (.inr (10, (fI pl :: .ref 67 :: .ref 68 :: .ref 69 :: fI ((s : Nat) : Int) :: .ref 70 :: .ref 71 :: fI (f 7) :: fI (f 8) :: .ref 72 :: fI (f 10) :: fI (f 11) :: fI (f 12) :: fJ (f 13) :: fI (f 14) :: fI (f 15) :: fI (f 16) :: fI (f 17) :: .ref 73 :: .ref 74 :: .ref 75 :: .ref 76 :: .ref 77 :: .ref 78 :: fI w'_967 :: .ref 79 :: .ref 80 :: .ref 81 :: .ref 82 :: .ref 83 :: .ref 84 :: .ref 85 :: fJ (f 32) :: fJ (f 33) :: .ref 86 :: .ref 87 :: fI (f 36) :: .ref 88 :: .ref 89 :: .ref 90 :: .ref 91 :: .ref 92 :: .ref 93 :: []))) := e_967_66
  have g_967_77 : cE h_967 77 (.inl (.int, fA gt'_967)) := e_967_77
  have g_967_78 : cE h_967 78 (.inl (.int, fA gd'_967)) := e_967_78
  have g_967_79 : cE h_967 79 (.inl (.long, fL xs'_967)) := e_967_79
  have g_967_80 : cE h_967 80 (.inl (.long, fL ys'_967)) := e_967_80
  have g_967_81 : cE h_967 81 (.inl (.long, fL r1'_967)) := e_967_81
  have g_967_82 : cE h_967 82 (.inl (.long, fL r2'_967)) := e_967_82
  refine ik_Wk 0 (pc_q := 99) (loc_q := [some (.ref 66), some (fI p), some (fI 3), some (fI pa), some (fI fa), some (fI pb), some (fI fb), some (fI 2), some (fI 1)]) (st_q := [fI (mr_w (mf_cm (fun x => mx_w cn go ch s x) (pl - 1) ka (p + 2)) 0 (mf_cm (fun x => mx_w cn go ch s x) (pl - 1) kb (p + 1)) 0 0), fI 7, .ref 83]) (h_q := h_967) (cl_q := 0) (sl_q := 0) rfl ?_
  have wb_967 : 0 ≤ mr_w (mf_cm (fun x => mx_w cn go ch s x) (pl - 1) ka (p + 2)) 0 (mf_cm (fun x => mx_w cn go ch s x) (pl - 1) kb (p + 1)) 0 0 ∧ mr_w (mf_cm (fun x => mx_w cn go ch s x) (pl - 1) ka (p + 2)) 0 (mf_cm (fun x => mx_w cn go ch s x) (pl - 1) kb (p + 1)) 0 0 ≤ 1000000 := mr_w_b (mr_ok_cm (W := (fun x => mx_w cn go ch s x)) (k := ka) q4 (show 0 ≤ p + 2 ∧ p + 2 < pl - 1 by omega)) (mr_ok_cm (W := (fun x => mx_w cn go ch s x)) (k := kb) q4 (show 0 ≤ p + 1 ∧ p + 1 < pl - 1 by omega)) (by decide +kernel) (by decide +kernel) 0
  refine fw_si rfl (by decide +kernel) ?_
  refine fx_idiv rfl (by omega) (by omega) (by omega) (by omega) ?_
  refine fw_i2l rfl (by omega) (by omega) ?_
  have hl21 : ((((((((fr.set (0 : Int).toNat ((mr_w (mf_cm (fun x => mx_w cn go ch s x) (pl - 1) ka (p + 0)) 0 (mf_cm (fun x => mx_w cn go ch s x) (pl - 1) kb (p + 0)) 0 0) / 1000)).set (1 : Int).toNat ((mr_w (mf_cm (fun x => mx_w cn go ch s x) (pl - 1) ka (p + 0)) 0 (mf_cm (fun x => mx_w cn go ch s x) (pl - 1) kb (p + 1)) 0 0) / 1000)).set (2 : Int).toNat ((mr_w (mf_cm (fun x => mx_w cn go ch s x) (pl - 1) ka (p + 0)) 0 (mf_cm (fun x => mx_w cn go ch s x) (pl - 1) kb (p + 2)) 0 0) / 1000)).set (3 : Int).toNat ((mr_w (mf_cm (fun x => mx_w cn go ch s x) (pl - 1) ka (p + 1)) 0 (mf_cm (fun x => mx_w cn go ch s x) (pl - 1) kb (p + 0)) 0 0) / 1000)).set (4 : Int).toNat ((mr_w (mf_cm (fun x => mx_w cn go ch s x) (pl - 1) ka (p + 1)) 0 (mf_cm (fun x => mx_w cn go ch s x) (pl - 1) kb (p + 1)) 0 0) / 1000)).set (5 : Int).toNat ((mr_w (mf_cm (fun x => mx_w cn go ch s x) (pl - 1) ka (p + 1)) 0 (mf_cm (fun x => mx_w cn go ch s x) (pl - 1) kb (p + 2)) 0 0) / 1000)).set (6 : Int).toNat ((mr_w (mf_cm (fun x => mx_w cn go ch s x) (pl - 1) ka (p + 2)) 0 (mf_cm (fun x => mx_w cn go ch s x) (pl - 1) kb (p + 0)) 0 0) / 1000)).set (7 : Int).toNat ((mr_w (mf_cm (fun x => mx_w cn go ch s x) (pl - 1) ka (p + 2)) 0 (mf_cm (fun x => mx_w cn go ch s x) (pl - 1) kb (p + 1)) 0 0) / 1000)).length = 9 := (List.length_set ..).trans hl19
  refine fx_las rfl g_967_83 (by omega) (by omega) (by omega) ?_
  intro h_968 e_968 f_968 l_968
  have k_968 : cL h_968 := l_968.trans k_967
  have fr_968 := hfr_wb fr_967 f_968 l_968 rfl
  clear l_968
  have g_968_66 := (f_968 66 (Nat.ne_of_beq_eq_false rfl)).trans g_967_66
  have g_968_67 := (f_968 67 (Nat.ne_of_beq_eq_false rfl)).trans g_967_67
  have g_968_68 := (f_968 68 (Nat.ne_of_beq_eq_false rfl)).trans g_967_68
  have g_968_69 := (f_968 69 (Nat.ne_of_beq_eq_false rfl)).trans g_967_69
  have g_968_77 := (f_968 77 (Nat.ne_of_beq_eq_false rfl)).trans g_967_77
  have g_968_78 := (f_968 78 (Nat.ne_of_beq_eq_false rfl)).trans g_967_78
  have g_968_79 := (f_968 79 (Nat.ne_of_beq_eq_false rfl)).trans g_967_79
  have g_968_80 := (f_968 80 (Nat.ne_of_beq_eq_false rfl)).trans g_967_80
  have g_968_70 := (f_968 70 (Nat.ne_of_beq_eq_false rfl)).trans g_967_70
  have g_968_81 := (f_968 81 (Nat.ne_of_beq_eq_false rfl)).trans g_967_81
  have g_968_82 := (f_968 82 (Nat.ne_of_beq_eq_false rfl)).trans g_967_82
  have g_968_83 : cE h_968 83 (.inl (.long, fL ((((((((fr.set (0 : Int).toNat ((mr_w (mf_cm (fun x => mx_w cn go ch s x) (pl - 1) ka (p + 0)) 0 (mf_cm (fun x => mx_w cn go ch s x) (pl - 1) kb (p + 0)) 0 0) / 1000)).set (1 : Int).toNat ((mr_w (mf_cm (fun x => mx_w cn go ch s x) (pl - 1) ka (p + 0)) 0 (mf_cm (fun x => mx_w cn go ch s x) (pl - 1) kb (p + 1)) 0 0) / 1000)).set (2 : Int).toNat ((mr_w (mf_cm (fun x => mx_w cn go ch s x) (pl - 1) ka (p + 0)) 0 (mf_cm (fun x => mx_w cn go ch s x) (pl - 1) kb (p + 2)) 0 0) / 1000)).set (3 : Int).toNat ((mr_w (mf_cm (fun x => mx_w cn go ch s x) (pl - 1) ka (p + 1)) 0 (mf_cm (fun x => mx_w cn go ch s x) (pl - 1) kb (p + 0)) 0 0) / 1000)).set (4 : Int).toNat ((mr_w (mf_cm (fun x => mx_w cn go ch s x) (pl - 1) ka (p + 1)) 0 (mf_cm (fun x => mx_w cn go ch s x) (pl - 1) kb (p + 1)) 0 0) / 1000)).set (5 : Int).toNat ((mr_w (mf_cm (fun x => mx_w cn go ch s x) (pl - 1) ka (p + 1)) 0 (mf_cm (fun x => mx_w cn go ch s x) (pl - 1) kb (p + 2)) 0 0) / 1000)).set (6 : Int).toNat ((mr_w (mf_cm (fun x => mx_w cn go ch s x) (pl - 1) ka (p + 2)) 0 (mf_cm (fun x => mx_w cn go ch s x) (pl - 1) kb (p + 0)) 0 0) / 1000)).set (7 : Int).toNat ((mr_w (mf_cm (fun x => mx_w cn go ch s x) (pl - 1) ka (p + 2)) 0 (mf_cm (fun x => mx_w cn go ch s x) (pl - 1) kb (p + 1)) 0 0) / 1000)))) := e_968
  refine fw_inc (a := 1) (loc_q := [some (.ref 66), some (fI p), some (fI 3), some (fI pa), some (fI fa), some (fI pb), some (fI fb), some (fI 2), some (fI 2)]) rfl rfl (Nat.le_of_ble_eq_true rfl) rfl ?_
  refine ik_Wk 3 (pc_q := 60) (loc_q := [some (.ref 66), some (fI p), some (fI 3), some (fI pa), some (fI fa), some (fI pb), some (fI fb), some (fI 2), some (fI 2)]) (st_q := [fI 3, fI 2]) (h_q := h_968) (cl_q := 0) (sl_q := 0) rfl ?_
  refine fw_ic_ge rfl rfl (by decide +kernel) (by decide +kernel) (by decide +kernel) (by decide +kernel) (fun hc22 => absurd hc22 (by decide +kernel)) (fun hc22 => ?_)
  refine ik_Wk 1 (pc_q := 64) (loc_q := [some (.ref 66), some (fI p), some (fI 3), some (fI pa), some (fI fa), some (fI pb), some (fI fb), some (fI 2), some (fI 2)]) (st_q := [.ref 66]) (h_q := h_968) (cl_q := 0) (sl_q := 0) rfl ?_
  refine fw_gf rfl rfl g_968_66 rfl ?_
  refine ik_Wk 3 (pc_q := 71) (loc_q := [some (.ref 66), some (fI p), some (fI 3), some (fI pa), some (fI fa), some (fI pb), some (fI fb), some (fI 2), some (fI 2)]) (st_q := [fI 2, fI p, fI 1, .ref 70]) (h_q := h_968) (cl_q := 0) (sl_q := 0) rfl ?_
  refine fw_add rfl ?_
  refine fx_ias (z := 1) rfl g_968_70 (by decide +kernel) (Nat.le_of_ble_eq_true rfl) (by decide +kernel) ?_
  intro h_969 e_969 f_969 l_969
  have k_969 : cL h_969 := l_969.trans k_968
  have fr_969 := hfr_wb fr_968 f_969 l_969 rfl
  clear l_969
  have g_969_66 := (f_969 66 (Nat.ne_of_beq_eq_false rfl)).trans g_968_66
  have g_969_67 := (f_969 67 (Nat.ne_of_beq_eq_false rfl)).trans g_968_67
  have g_969_68 := (f_969 68 (Nat.ne_of_beq_eq_false rfl)).trans g_968_68
  have g_969_69 := (f_969 69 (Nat.ne_of_beq_eq_false rfl)).trans g_968_69
  have g_969_77 := (f_969 77 (Nat.ne_of_beq_eq_false rfl)).trans g_968_77
  have g_969_78 := (f_969 78 (Nat.ne_of_beq_eq_false rfl)).trans g_968_78
  have g_969_79 := (f_969 79 (Nat.ne_of_beq_eq_false rfl)).trans g_968_79
  have g_969_80 := (f_969 80 (Nat.ne_of_beq_eq_false rfl)).trans g_968_80
  have g_969_81 := (f_969 81 (Nat.ne_of_beq_eq_false rfl)).trans g_968_81
  have g_969_82 := (f_969 82 (Nat.ne_of_beq_eq_false rfl)).trans g_968_82
  have g_969_83 := (f_969 83 (Nat.ne_of_beq_eq_false rfl)).trans g_968_83
  have g_969_70 : cE h_969 70 (.inl (.int, fA [ka, p + 2, 0, kb, p + 1, 0])) := e_969
  refine ik_Wk 1 (pc_q := 74) (loc_q := [some (.ref 66), some (fI p), some (fI 3), some (fI pa), some (fI fa), some (fI pb), some (fI fb), some (fI 2), some (fI 2)]) (st_q := [.ref 66]) (h_q := h_969) (cl_q := 0) (sl_q := 0) rfl ?_
  refine fw_gf rfl rfl g_969_66 rfl ?_
  refine ik_Wk 3 (pc_q := 81) (loc_q := [some (.ref 66), some (fI p), some (fI 3), some (fI pa), some (fI fa), some (fI pb), some (fI fb), some (fI 2), some (fI 2)]) (st_q := [fI 2, fI p, fI 4, .ref 70]) (h_q := h_969) (cl_q := 0) (sl_q := 0) rfl ?_
  refine fw_add rfl ?_
  refine fx_ias (z := 4) rfl g_969_70 (by decide +kernel) (Nat.le_of_ble_eq_true rfl) (by decide +kernel) ?_
  intro h_970 e_970 f_970 l_970
  have k_970 : cL h_970 := l_970.trans k_969
  have fr_970 := hfr_wb fr_969 f_970 l_970 rfl
  clear l_970
  have g_970_66 := (f_970 66 (Nat.ne_of_beq_eq_false rfl)).trans g_969_66
  have g_970_67 := (f_970 67 (Nat.ne_of_beq_eq_false rfl)).trans g_969_67
  have g_970_68 := (f_970 68 (Nat.ne_of_beq_eq_false rfl)).trans g_969_68
  have g_970_69 := (f_970 69 (Nat.ne_of_beq_eq_false rfl)).trans g_969_69
  have g_970_77 := (f_970 77 (Nat.ne_of_beq_eq_false rfl)).trans g_969_77
  have g_970_78 := (f_970 78 (Nat.ne_of_beq_eq_false rfl)).trans g_969_78
  have g_970_79 := (f_970 79 (Nat.ne_of_beq_eq_false rfl)).trans g_969_79
  have g_970_80 := (f_970 80 (Nat.ne_of_beq_eq_false rfl)).trans g_969_80
  have g_970_81 := (f_970 81 (Nat.ne_of_beq_eq_false rfl)).trans g_969_81
  have g_970_82 := (f_970 82 (Nat.ne_of_beq_eq_false rfl)).trans g_969_82
  have g_970_83 := (f_970 83 (Nat.ne_of_beq_eq_false rfl)).trans g_969_83
  have g_970_70 : cE h_970 70 (.inl (.int, fA [ka, p + 2, 0, kb, p + 2, 0])) := e_970
  refine ik_Wk 1 (pc_q := 84) (loc_q := [some (.ref 66), some (fI p), some (fI 3), some (fI pa), some (fI fa), some (fI pb), some (fI fb), some (fI 2), some (fI 2)]) (st_q := [.ref 66]) (h_q := h_970) (cl_q := 0) (sl_q := 0) rfl ?_
  refine fw_gf rfl rfl g_970_66 rfl ?_
  refine ik_Wk 2 (pc_q := 90) (loc_q := [some (.ref 66), some (fI p), some (fI 3), some (fI pa), some (fI fa), some (fI pb), some (fI fb), some (fI 2), some (fI 2)]) (st_q := [fI 2, fI 3, .ref 83]) (h_q := h_970) (cl_q := 0) (sl_q := 0) rfl ?_
  refine fw_mul rfl ?_
  refine ik_Wk 1 (pc_q := 93) (loc_q := [some (.ref 66), some (fI p), some (fI 3), some (fI pa), some (fI fa), some (fI pb), some (fI fb), some (fI 2), some (fI 2)]) (st_q := [fI 2, fI 6, .ref 83]) (h_q := h_970) (cl_q := 0) (sl_q := 0) rfl ?_
  refine fw_add rfl ?_
  refine ik_Wk 2 (pc_q := 96) (loc_q := [some (.ref 66), some (fI p), some (fI 3), some (fI pa), some (fI fa), some (fI pb), some (fI fb), some (fI 2), some (fI 2)]) (st_q := [fI 0, .ref 66, fI 8, .ref 83]) (h_q := h_970) (cl_q := 0) (sl_q := 0) rfl ?_
  refine fw_call 169 2 0 [.ref 66, fI 0] [fI 8, .ref 83] rfl rfl rfl (Nat.le_of_ble_eq_true rfl) rfl rfl (fw_rec k_970 rfl g_970_66 rfl (Nat.le_of_ble_eq_true rfl)) (cr_laterOf (pl := pl) (f := fun j => ((0 :: 0 :: 0 :: 0 :: 0 :: 0 :: 0 :: ((f 7)) :: ((f 8)) :: 0 :: ((f 10)) :: ((f 11)) :: ((f 12)) :: ((f 13)) :: ((f 14)) :: ((f 15)) :: ((f 16)) :: ((f 17)) :: 0 :: 0 :: 0 :: 0 :: 0 :: 0 :: w'_967 :: 0 :: 0 :: 0 :: 0 :: 0 :: 0 :: 0 :: ((f 32)) :: ((f 33)) :: 0 :: 0 :: ((f 36)) :: 0 :: 0 :: 0 :: 0 :: 0 :: 0 :: []) : List Int).getD j 0) (s := s) (cn := cn) (go := go) (ch := ch) (gt := gt'_967) (gd := gd'_967) (xs := xs'_967) (ys := ys'_967) (ka := ka) (pa := p + 2) (fa := 0) (kb := kb) (pb := p + 2) (fb := 0) (r1 := r1'_967) (r2 := r2'_967) (wh := 0) (by omega) (by omega) q2 q3 q4 (by omega) (by omega) (by omega) (by omega) (by omega) (by omega) (by omega) g_970_66 g_970_67 n67 g_970_68 n68 g_970_69 n69 g_970_77 m_967_77 g_970_78 m_967_78 g_970_79 m_967_79 g_970_80 m_967_80 g_970_70 g_970_81 m_967_81 g_970_82 m_967_82 k_970) ?_
  rintro _ h_971 ⟨w'_971, gt'_971, gd'_971, xs'_971, ys'_971, r1'_971, r2'_971, rfl, e_971_66, e_971_77, m_971_77, e_971_78, m_971_78, e_971_79, m_971_79, e_971_80, m_971_80, e_971_81, m_971_81, e_971_82, m_971_82, F_971⟩
  have k_971 : cL h_971 := F_971.1.trans k_970
  have fr_971 := hfr_cb fr_970 F_971 rfl
  have g_971_67 := (hfr_g F_971 67 rfl).trans g_970_67
  have g_971_68 := (hfr_g F_971 68 rfl).trans g_970_68
  have g_971_69 := (hfr_g F_971 69 rfl).trans g_970_69
  have g_971_70 := (hfr_g F_971 70 rfl).trans g_970_70
  have g_971_83 := (hfr_g F_971 83 rfl).trans g_970_83
  have g_971_66 : cE h_971 66 (.inr (10, (fI pl :: .ref 67 :: .ref 68 :: .ref 69 :: fI ((s : Nat) : Int) :: .ref 70 :: .ref 71 :: fI (f 7) :: fI (f 8) :: .ref 72 :: fI (f 10) :: fI (f 11) :: fI (f 12) :: fJ (f 13) :: fI (f 14) :: fI (f 15) :: fI (f 16) :: fI (f 17) :: .ref 73 :: .ref 74 :: .ref 75 :: .ref 76 :: .ref 77 :: .ref 78 :: fI w'_971 :: .ref 79 :: .ref 80 :: .ref 81 :: .ref 82 :: .ref 83 :: .ref 84 :: .ref 85 :: fJ (f 32) :: fJ (f 33) :: .ref 86 :: .ref 87 :: fI (f 36) :: .ref 88 :: .ref 89 :: .ref 90 :: .ref 91 :: .ref 92 :: .ref 93 :: []))) := e_971_66
  have g_971_77 : cE h_971 77 (.inl (.int, fA gt'_971)) := e_971_77
  have g_971_78 : cE h_971 78 (.inl (.int, fA gd'_971)) := e_971_78
  have g_971_79 : cE h_971 79 (.inl (.long, fL xs'_971)) := e_971_79
  have g_971_80 : cE h_971 80 (.inl (.long, fL ys'_971)) := e_971_80
  have g_971_81 : cE h_971 81 (.inl (.long, fL r1'_971)) := e_971_81
  have g_971_82 : cE h_971 82 (.inl (.long, fL r2'_971)) := e_971_82
  refine ik_Wk 0 (pc_q := 99) (loc_q := [some (.ref 66), some (fI p), some (fI 3), some (fI pa), some (fI fa), some (fI pb), some (fI fb), some (fI 2), some (fI 2)]) (st_q := [fI (mr_w (mf_cm (fun x => mx_w cn go ch s x) (pl - 1) ka (p + 2)) 0 (mf_cm (fun x => mx_w cn go ch s x) (pl - 1) kb (p + 2)) 0 0), fI 8, .ref 83]) (h_q := h_971) (cl_q := 0) (sl_q := 0) rfl ?_
  have wb_971 : 0 ≤ mr_w (mf_cm (fun x => mx_w cn go ch s x) (pl - 1) ka (p + 2)) 0 (mf_cm (fun x => mx_w cn go ch s x) (pl - 1) kb (p + 2)) 0 0 ∧ mr_w (mf_cm (fun x => mx_w cn go ch s x) (pl - 1) ka (p + 2)) 0 (mf_cm (fun x => mx_w cn go ch s x) (pl - 1) kb (p + 2)) 0 0 ≤ 1000000 := mr_w_b (mr_ok_cm (W := (fun x => mx_w cn go ch s x)) (k := ka) q4 (show 0 ≤ p + 2 ∧ p + 2 < pl - 1 by omega)) (mr_ok_cm (W := (fun x => mx_w cn go ch s x)) (k := kb) q4 (show 0 ≤ p + 2 ∧ p + 2 < pl - 1 by omega)) (by decide +kernel) (by decide +kernel) 0
  refine fw_si rfl (by decide +kernel) ?_
  refine fx_idiv rfl (by omega) (by omega) (by omega) (by omega) ?_
  refine fw_i2l rfl (by omega) (by omega) ?_
  have hl23 : (((((((((fr.set (0 : Int).toNat ((mr_w (mf_cm (fun x => mx_w cn go ch s x) (pl - 1) ka (p + 0)) 0 (mf_cm (fun x => mx_w cn go ch s x) (pl - 1) kb (p + 0)) 0 0) / 1000)).set (1 : Int).toNat ((mr_w (mf_cm (fun x => mx_w cn go ch s x) (pl - 1) ka (p + 0)) 0 (mf_cm (fun x => mx_w cn go ch s x) (pl - 1) kb (p + 1)) 0 0) / 1000)).set (2 : Int).toNat ((mr_w (mf_cm (fun x => mx_w cn go ch s x) (pl - 1) ka (p + 0)) 0 (mf_cm (fun x => mx_w cn go ch s x) (pl - 1) kb (p + 2)) 0 0) / 1000)).set (3 : Int).toNat ((mr_w (mf_cm (fun x => mx_w cn go ch s x) (pl - 1) ka (p + 1)) 0 (mf_cm (fun x => mx_w cn go ch s x) (pl - 1) kb (p + 0)) 0 0) / 1000)).set (4 : Int).toNat ((mr_w (mf_cm (fun x => mx_w cn go ch s x) (pl - 1) ka (p + 1)) 0 (mf_cm (fun x => mx_w cn go ch s x) (pl - 1) kb (p + 1)) 0 0) / 1000)).set (5 : Int).toNat ((mr_w (mf_cm (fun x => mx_w cn go ch s x) (pl - 1) ka (p + 1)) 0 (mf_cm (fun x => mx_w cn go ch s x) (pl - 1) kb (p + 2)) 0 0) / 1000)).set (6 : Int).toNat ((mr_w (mf_cm (fun x => mx_w cn go ch s x) (pl - 1) ka (p + 2)) 0 (mf_cm (fun x => mx_w cn go ch s x) (pl - 1) kb (p + 0)) 0 0) / 1000)).set (7 : Int).toNat ((mr_w (mf_cm (fun x => mx_w cn go ch s x) (pl - 1) ka (p + 2)) 0 (mf_cm (fun x => mx_w cn go ch s x) (pl - 1) kb (p + 1)) 0 0) / 1000)).set (8 : Int).toNat ((mr_w (mf_cm (fun x => mx_w cn go ch s x) (pl - 1) ka (p + 2)) 0 (mf_cm (fun x => mx_w cn go ch s x) (pl - 1) kb (p + 2)) 0 0) / 1000)).length = 9 := (List.length_set ..).trans hl21
  refine fx_las rfl g_971_83 (by omega) (by omega) (by omega) ?_
  intro h_972 e_972 f_972 l_972
  have k_972 : cL h_972 := l_972.trans k_971
  have fr_972 := hfr_wb fr_971 f_972 l_972 rfl
  clear l_972
  have g_972_66 := (f_972 66 (Nat.ne_of_beq_eq_false rfl)).trans g_971_66
  have g_972_67 := (f_972 67 (Nat.ne_of_beq_eq_false rfl)).trans g_971_67
  have g_972_68 := (f_972 68 (Nat.ne_of_beq_eq_false rfl)).trans g_971_68
  have g_972_69 := (f_972 69 (Nat.ne_of_beq_eq_false rfl)).trans g_971_69
  have g_972_77 := (f_972 77 (Nat.ne_of_beq_eq_false rfl)).trans g_971_77
  have g_972_78 := (f_972 78 (Nat.ne_of_beq_eq_false rfl)).trans g_971_78
  have g_972_79 := (f_972 79 (Nat.ne_of_beq_eq_false rfl)).trans g_971_79
  have g_972_80 := (f_972 80 (Nat.ne_of_beq_eq_false rfl)).trans g_971_80
  have g_972_70 := (f_972 70 (Nat.ne_of_beq_eq_false rfl)).trans g_971_70
  have g_972_81 := (f_972 81 (Nat.ne_of_beq_eq_false rfl)).trans g_971_81
  have g_972_82 := (f_972 82 (Nat.ne_of_beq_eq_false rfl)).trans g_971_82
  have g_972_83 : cE h_972 83 (.inl (.long, fL (((((((((fr.set (0 : Int).toNat ((mr_w (mf_cm (fun x => mx_w cn go ch s x) (pl - 1) ka (p + 0)) 0 (mf_cm (fun x => mx_w cn go ch s x) (pl - 1) kb (p + 0)) 0 0) / 1000)).set (1 : Int).toNat ((mr_w (mf_cm (fun x => mx_w cn go ch s x) (pl - 1) ka (p + 0)) 0 (mf_cm (fun x => mx_w cn go ch s x) (pl - 1) kb (p + 1)) 0 0) / 1000)).set (2 : Int).toNat ((mr_w (mf_cm (fun x => mx_w cn go ch s x) (pl - 1) ka (p + 0)) 0 (mf_cm (fun x => mx_w cn go ch s x) (pl - 1) kb (p + 2)) 0 0) / 1000)).set (3 : Int).toNat ((mr_w (mf_cm (fun x => mx_w cn go ch s x) (pl - 1) ka (p + 1)) 0 (mf_cm (fun x => mx_w cn go ch s x) (pl - 1) kb (p + 0)) 0 0) / 1000)).set (4 : Int).toNat ((mr_w (mf_cm (fun x => mx_w cn go ch s x) (pl - 1) ka (p + 1)) 0 (mf_cm (fun x => mx_w cn go ch s x) (pl - 1) kb (p + 1)) 0 0) / 1000)).set (5 : Int).toNat ((mr_w (mf_cm (fun x => mx_w cn go ch s x) (pl - 1) ka (p + 1)) 0 (mf_cm (fun x => mx_w cn go ch s x) (pl - 1) kb (p + 2)) 0 0) / 1000)).set (6 : Int).toNat ((mr_w (mf_cm (fun x => mx_w cn go ch s x) (pl - 1) ka (p + 2)) 0 (mf_cm (fun x => mx_w cn go ch s x) (pl - 1) kb (p + 0)) 0 0) / 1000)).set (7 : Int).toNat ((mr_w (mf_cm (fun x => mx_w cn go ch s x) (pl - 1) ka (p + 2)) 0 (mf_cm (fun x => mx_w cn go ch s x) (pl - 1) kb (p + 1)) 0 0) / 1000)).set (8 : Int).toNat ((mr_w (mf_cm (fun x => mx_w cn go ch s x) (pl - 1) ka (p + 2)) 0 (mf_cm (fun x => mx_w cn go ch s x) (pl - 1) kb (p + 2)) 0 0) / 1000)))) := e_972
  refine fw_inc (a := 2) (loc_q := [some (.ref 66), some (fI p), some (fI 3), some (fI pa), some (fI fa), some (fI pb), some (fI fb), some (fI 2), some (fI 3)]) rfl rfl (Nat.le_of_ble_eq_true rfl) rfl ?_
  refine ik_Wk 3 (pc_q := 60) (loc_q := [some (.ref 66), some (fI p), some (fI 3), some (fI pa), some (fI fa), some (fI pb), some (fI fb), some (fI 2), some (fI 3)]) (st_q := [fI 3, fI 3]) (h_q := h_972) (cl_q := 0) (sl_q := 0) rfl ?_
  refine fw_ic_ge rfl rfl (by decide +kernel) (by decide +kernel) (by decide +kernel) (by decide +kernel) (fun hc24 => ?_) (fun hc24 => absurd hc24 (by decide +kernel))
  refine fw_inc (a := 2) (loc_q := [some (.ref 66), some (fI p), some (fI 3), some (fI pa), some (fI fa), some (fI pb), some (fI fb), some (fI 3), some (fI 3)]) rfl rfl (Nat.le_of_ble_eq_true rfl) rfl ?_
  refine ik_Wk 3 (pc_q := 51) (loc_q := [some (.ref 66), some (fI p), some (fI 3), some (fI pa), some (fI fa), some (fI pb), some (fI fb), some (fI 3), some (fI 3)]) (st_q := [fI 3, fI 3]) (h_q := h_972) (cl_q := 0) (sl_q := 0) rfl ?_
  refine fw_ic_ge rfl rfl (by decide +kernel) (by decide +kernel) (by decide +kernel) (by decide +kernel) (fun hc25 => ?_) (fun hc25 => absurd hc25 (by decide +kernel))
  refine ik_Wk 1 (pc_q := 118) (loc_q := [some (.ref 66), some (fI p), some (fI 3), some (fI pa), some (fI fa), some (fI pb), some (fI fb), some (fI 3), some (fI 3)]) (st_q := [.ref 66]) (h_q := h_972) (cl_q := 0) (sl_q := 0) rfl ?_
  refine fw_gf rfl rfl g_972_66 rfl ?_
  refine ik_Wk 2 (pc_q := 123) (loc_q := [some (.ref 66), some (fI p), some (fI 3), some (fI pa), some (fI fa), some (fI pb), some (fI fb), some (fI 3), some (fI 3)]) (st_q := [fI pa, fI 1, .ref 70]) (h_q := h_972) (cl_q := 0) (sl_q := 0) rfl ?_
  refine fx_ias (z := 1) rfl g_972_70 (by decide +kernel) (Nat.le_of_ble_eq_true rfl) (by decide +kernel) ?_
  intro h_973 e_973 f_973 l_973
  have k_973 : cL h_973 := l_973.trans k_972
  have fr_973 := hfr_wb fr_972 f_973 l_973 rfl
  clear l_973
  have g_973_66 := (f_973 66 (Nat.ne_of_beq_eq_false rfl)).trans g_972_66
  have g_973_67 := (f_973 67 (Nat.ne_of_beq_eq_false rfl)).trans g_972_67
  have g_973_68 := (f_973 68 (Nat.ne_of_beq_eq_false rfl)).trans g_972_68
  have g_973_69 := (f_973 69 (Nat.ne_of_beq_eq_false rfl)).trans g_972_69
  have g_973_77 := (f_973 77 (Nat.ne_of_beq_eq_false rfl)).trans g_972_77
  have g_973_78 := (f_973 78 (Nat.ne_of_beq_eq_false rfl)).trans g_972_78
  have g_973_79 := (f_973 79 (Nat.ne_of_beq_eq_false rfl)).trans g_972_79
  have g_973_80 := (f_973 80 (Nat.ne_of_beq_eq_false rfl)).trans g_972_80
  have g_973_81 := (f_973 81 (Nat.ne_of_beq_eq_false rfl)).trans g_972_81
  have g_973_82 := (f_973 82 (Nat.ne_of_beq_eq_false rfl)).trans g_972_82
  have g_973_83 := (f_973 83 (Nat.ne_of_beq_eq_false rfl)).trans g_972_83
  have g_973_70 : cE h_973 70 (.inl (.int, fA [ka, pa, 0, kb, p + 2, 0])) := e_973
  refine ik_Wk 1 (pc_q := 125) (loc_q := [some (.ref 66), some (fI p), some (fI 3), some (fI pa), some (fI fa), some (fI pb), some (fI fb), some (fI 3), some (fI 3)]) (st_q := [.ref 66]) (h_q := h_973) (cl_q := 0) (sl_q := 0) rfl ?_
  refine fw_gf rfl rfl g_973_66 rfl ?_
  refine ik_Wk 2 (pc_q := 131) (loc_q := [some (.ref 66), some (fI p), some (fI 3), some (fI pa), some (fI fa), some (fI pb), some (fI fb), some (fI 3), some (fI 3)]) (st_q := [fI fa, fI 2, .ref 70]) (h_q := h_973) (cl_q := 0) (sl_q := 0) rfl ?_
  refine fx_ias (z := 2) rfl g_973_70 (by decide +kernel) (Nat.le_of_ble_eq_true rfl) (by decide +kernel) ?_
  intro h_974 e_974 f_974 l_974
  have k_974 : cL h_974 := l_974.trans k_973
  have fr_974 := hfr_wb fr_973 f_974 l_974 rfl
  clear l_974
  have g_974_66 := (f_974 66 (Nat.ne_of_beq_eq_false rfl)).trans g_973_66
  have g_974_67 := (f_974 67 (Nat.ne_of_beq_eq_false rfl)).trans g_973_67
  have g_974_68 := (f_974 68 (Nat.ne_of_beq_eq_false rfl)).trans g_973_68
  have g_974_69 := (f_974 69 (Nat.ne_of_beq_eq_false rfl)).trans g_973_69
  have g_974_77 := (f_974 77 (Nat.ne_of_beq_eq_false rfl)).trans g_973_77
  have g_974_78 := (f_974 78 (Nat.ne_of_beq_eq_false rfl)).trans g_973_78
  have g_974_79 := (f_974 79 (Nat.ne_of_beq_eq_false rfl)).trans g_973_79
  have g_974_80 := (f_974 80 (Nat.ne_of_beq_eq_false rfl)).trans g_973_80
  have g_974_81 := (f_974 81 (Nat.ne_of_beq_eq_false rfl)).trans g_973_81
  have g_974_82 := (f_974 82 (Nat.ne_of_beq_eq_false rfl)).trans g_973_82
  have g_974_83 := (f_974 83 (Nat.ne_of_beq_eq_false rfl)).trans g_973_83
  have g_974_70 : cE h_974 70 (.inl (.int, fA [ka, pa, fa, kb, p + 2, 0])) := e_974
  refine ik_Wk 1 (pc_q := 133) (loc_q := [some (.ref 66), some (fI p), some (fI 3), some (fI pa), some (fI fa), some (fI pb), some (fI fb), some (fI 3), some (fI 3)]) (st_q := [.ref 66]) (h_q := h_974) (cl_q := 0) (sl_q := 0) rfl ?_
  refine fw_gf rfl rfl g_974_66 rfl ?_
  refine ik_Wk 2 (pc_q := 139) (loc_q := [some (.ref 66), some (fI p), some (fI 3), some (fI pa), some (fI fa), some (fI pb), some (fI fb), some (fI 3), some (fI 3)]) (st_q := [fI pb, fI 4, .ref 70]) (h_q := h_974) (cl_q := 0) (sl_q := 0) rfl ?_
  refine fx_ias (z := 4) rfl g_974_70 (by decide +kernel) (Nat.le_of_ble_eq_true rfl) (by decide +kernel) ?_
  intro h_975 e_975 f_975 l_975
  have k_975 : cL h_975 := l_975.trans k_974
  have fr_975 := hfr_wb fr_974 f_975 l_975 rfl
  clear l_975
  have g_975_66 := (f_975 66 (Nat.ne_of_beq_eq_false rfl)).trans g_974_66
  have g_975_67 := (f_975 67 (Nat.ne_of_beq_eq_false rfl)).trans g_974_67
  have g_975_68 := (f_975 68 (Nat.ne_of_beq_eq_false rfl)).trans g_974_68
  have g_975_69 := (f_975 69 (Nat.ne_of_beq_eq_false rfl)).trans g_974_69
  have g_975_77 := (f_975 77 (Nat.ne_of_beq_eq_false rfl)).trans g_974_77
  have g_975_78 := (f_975 78 (Nat.ne_of_beq_eq_false rfl)).trans g_974_78
  have g_975_79 := (f_975 79 (Nat.ne_of_beq_eq_false rfl)).trans g_974_79
  have g_975_80 := (f_975 80 (Nat.ne_of_beq_eq_false rfl)).trans g_974_80
  have g_975_81 := (f_975 81 (Nat.ne_of_beq_eq_false rfl)).trans g_974_81
  have g_975_82 := (f_975 82 (Nat.ne_of_beq_eq_false rfl)).trans g_974_82
  have g_975_83 := (f_975 83 (Nat.ne_of_beq_eq_false rfl)).trans g_974_83
  have g_975_70 : cE h_975 70 (.inl (.int, fA [ka, pa, fa, kb, pb, 0])) := e_975
  refine ik_Wk 1 (pc_q := 141) (loc_q := [some (.ref 66), some (fI p), some (fI 3), some (fI pa), some (fI fa), some (fI pb), some (fI fb), some (fI 3), some (fI 3)]) (st_q := [.ref 66]) (h_q := h_975) (cl_q := 0) (sl_q := 0) rfl ?_
  refine fw_gf rfl rfl g_975_66 rfl ?_
  refine ik_Wk 2 (pc_q := 147) (loc_q := [some (.ref 66), some (fI p), some (fI 3), some (fI pa), some (fI fa), some (fI pb), some (fI fb), some (fI 3), some (fI 3)]) (st_q := [fI fb, fI 5, .ref 70]) (h_q := h_975) (cl_q := 0) (sl_q := 0) rfl ?_
  refine fx_ias (z := 5) rfl g_975_70 (by decide +kernel) (Nat.le_of_ble_eq_true rfl) (by decide +kernel) ?_
  intro h_976 e_976 f_976 l_976
  have k_976 : cL h_976 := l_976.trans k_975
  have fr_976 := hfr_wb fr_975 f_976 l_976 rfl
  clear l_976
  have g_976_66 := (f_976 66 (Nat.ne_of_beq_eq_false rfl)).trans g_975_66
  have g_976_67 := (f_976 67 (Nat.ne_of_beq_eq_false rfl)).trans g_975_67
  have g_976_68 := (f_976 68 (Nat.ne_of_beq_eq_false rfl)).trans g_975_68
  have g_976_69 := (f_976 69 (Nat.ne_of_beq_eq_false rfl)).trans g_975_69
  have g_976_77 := (f_976 77 (Nat.ne_of_beq_eq_false rfl)).trans g_975_77
  have g_976_78 := (f_976 78 (Nat.ne_of_beq_eq_false rfl)).trans g_975_78
  have g_976_79 := (f_976 79 (Nat.ne_of_beq_eq_false rfl)).trans g_975_79
  have g_976_80 := (f_976 80 (Nat.ne_of_beq_eq_false rfl)).trans g_975_80
  have g_976_81 := (f_976 81 (Nat.ne_of_beq_eq_false rfl)).trans g_975_81
  have g_976_82 := (f_976 82 (Nat.ne_of_beq_eq_false rfl)).trans g_975_82
  have g_976_83 := (f_976 83 (Nat.ne_of_beq_eq_false rfl)).trans g_975_83
  have g_976_70 : cE h_976 70 (.inl (.int, fA [ka, pa, fa, kb, pb, fb])) := e_976
  exact ik_Wret rfl rfl ⟨_, _, rfl, rfl, rfl, rfl, ⟨w'_971, gt'_971, gd'_971, xs'_971, ys'_971, r1'_971, r2'_971, (((((((((fr.set (0 : Int).toNat ((mr_w (mf_cm (fun x => mx_w cn go ch s x) (pl - 1) ka (p + 0)) 0 (mf_cm (fun x => mx_w cn go ch s x) (pl - 1) kb (p + 0)) 0 0) / 1000)).set (1 : Int).toNat ((mr_w (mf_cm (fun x => mx_w cn go ch s x) (pl - 1) ka (p + 0)) 0 (mf_cm (fun x => mx_w cn go ch s x) (pl - 1) kb (p + 1)) 0 0) / 1000)).set (2 : Int).toNat ((mr_w (mf_cm (fun x => mx_w cn go ch s x) (pl - 1) ka (p + 0)) 0 (mf_cm (fun x => mx_w cn go ch s x) (pl - 1) kb (p + 2)) 0 0) / 1000)).set (3 : Int).toNat ((mr_w (mf_cm (fun x => mx_w cn go ch s x) (pl - 1) ka (p + 1)) 0 (mf_cm (fun x => mx_w cn go ch s x) (pl - 1) kb (p + 0)) 0 0) / 1000)).set (4 : Int).toNat ((mr_w (mf_cm (fun x => mx_w cn go ch s x) (pl - 1) ka (p + 1)) 0 (mf_cm (fun x => mx_w cn go ch s x) (pl - 1) kb (p + 1)) 0 0) / 1000)).set (5 : Int).toNat ((mr_w (mf_cm (fun x => mx_w cn go ch s x) (pl - 1) ka (p + 1)) 0 (mf_cm (fun x => mx_w cn go ch s x) (pl - 1) kb (p + 2)) 0 0) / 1000)).set (6 : Int).toNat ((mr_w (mf_cm (fun x => mx_w cn go ch s x) (pl - 1) ka (p + 2)) 0 (mf_cm (fun x => mx_w cn go ch s x) (pl - 1) kb (p + 0)) 0 0) / 1000)).set (7 : Int).toNat ((mr_w (mf_cm (fun x => mx_w cn go ch s x) (pl - 1) ka (p + 2)) 0 (mf_cm (fun x => mx_w cn go ch s x) (pl - 1) kb (p + 1)) 0 0) / 1000)).set (8 : Int).toNat ((mr_w (mf_cm (fun x => mx_w cn go ch s x) (pl - 1) ka (p + 2)) 0 (mf_cm (fun x => mx_w cn go ch s x) (pl - 1) kb (p + 2)) 0 0) / 1000)), rfl, g_976_66, g_976_77, m_971_77, g_976_78, m_971_78, g_976_79, m_971_79, g_976_80, m_971_80, g_976_81, m_971_81, g_976_82, m_971_82, g_976_70, g_976_83, hl23, fr_976⟩⟩

theorem rp_mixed1 {h : List ik_E} {pl : Int} {f : Nat → Int} {s : Nat} {cn : List Int} {go : List Int} {ch : List Int} {gt : List Int} {gd : List Int} {xs : List Int} {ys : List Int} {ka : Int} {pa : Int} {fa : Int} {kb : Int} {pb : Int} {fb : Int} {r1 : List Int} {r2 : List Int} {p : Int} {what : Int} {fr : List Int} {so : List Int} {sw : List Int} {ro : List Int} {cl : List Int} (q0 : 0 ≤ pl ∧ pl ≤ 12) (q1 : s < 4096) (q2 : ∀ x : Int, (0 : Int) ≤ x → x < pl - 1 → 0 ≤ cn.getD x.toNat 0 ∧ cn.getD x.toNat 0 ≤ 4) (q3 : ∀ x : Int, (0 : Int) ≤ x → x < pl - 1 → 1 ≤ cn.getD x.toNat 0 ∧ ∀ j : Int, 4 * x ≤ j → j < 4 * x + cn.getD x.toNat 0 → 0 ≤ ch.getD j.toNat 0 ∧ ch.getD j.toNat 0 ≤ 100) (q4 : ∀ x : Int, (0 : Int) ≤ x → x < pl - 1 → mx_ok pl (mx_w cn go ch s x)) (q5 : (1 : Int) < pl → (0 : Int) ≤ ka ∧ ka ≤ (2 : Int)) (q6 : (1 : Int) < pl → (0 : Int) ≤ kb ∧ kb ≤ (2 : Int)) (q7 : ∀ i : Int, (0 : Int) ≤ i → i < (3 : Int) → 0 ≤ ro.getD i.toNat 0 ∧ ro.getD i.toNat 0 ≤ 2) (q8 : ∀ i : Int, (0 : Int) ≤ i → i < (3 : Int) → 0 ≤ cl.getD i.toNat 0 ∧ cl.getD i.toNat 0 ≤ 2) (q9 : (-2147483648 : Int) ≤ p ∧ p < (2147483648 : Int)) (q10 : (-2147483648 : Int) ≤ what ∧ what < (2147483648 : Int)) (h66 : cE h 66 (.inr (10, (fI pl :: .ref 67 :: .ref 68 :: .ref 69 :: fI ((s : Nat) : Int) :: .ref 70 :: .ref 71 :: fI (f 7) :: fI (f 8) :: .ref 72 :: fI (f 10) :: fI (f 11) :: fI (f 12) :: fJ (f 13) :: fI (f 14) :: fI (f 15) :: fI (f 16) :: fI (f 17) :: .ref 73 :: .ref 74 :: .ref 75 :: .ref 76 :: .ref 77 :: .ref 78 :: fI (f 24) :: .ref 79 :: .ref 80 :: .ref 81 :: .ref 82 :: .ref 83 :: .ref 84 :: .ref 85 :: fJ (f 32) :: fJ (f 33) :: .ref 86 :: .ref 87 :: fI (f 36) :: .ref 88 :: .ref 89 :: .ref 90 :: .ref 91 :: .ref 92 :: .ref 93 :: [])))) (h67 : cE h 67 (.inl (.int, fA cn))) (n67 : cn.length = (12 : Nat)) (h68 : cE h 68 (.inl (.int, fA go))) (n68 : go.length = (48 : Nat)) (h69 : cE h 69 (.inl (.int, fA ch))) (n69 : ch.length = (48 : Nat)) (h77 : cE h 77 (.inl (.int, fA gt))) (n77 : gt.length = (5 : Nat)) (h78 : cE h 78 (.inl (.int, fA gd))) (n78 : gd.length = (5 : Nat)) (h79 : cE h 79 (.inl (.long, fL xs))) (n79 : xs.length = (12 : Nat)) (h80 : cE h 80 (.inl (.long, fL ys))) (n80 : ys.length = (12 : Nat)) (h70 : cE h 70 (.inl (.int, fA [ka, pa, fa, kb, pb, fb]))) (h81 : cE h 81 (.inl (.long, fL r1))) (n81 : r1.length = (201 : Nat)) (h82 : cE h 82 (.inl (.long, fL r2))) (n82 : r2.length = (201 : Nat)) (h83 : cE h 83 (.inl (.long, fL fr))) (n83 : fr.length = (9 : Nat)) (h84 : cE h 84 (.inl (.long, fL so))) (n84 : so.length = (3 : Nat)) (h85 : cE h 85 (.inl (.long, fL sw))) (n85 : sw.length = (3 : Nat)) (h86 : cE h 86 (.inl (.int, fA ro))) (n86 : ro.length = (3 : Nat)) (h87 : cE h 87 (.inl (.int, fA cl))) (n87 : cl.length = (3 : Nat)) (hl : h.length = (94 : Nat)) : ik_F 180 [.ref 66, fI p, fI 1, fI what] h (fun rv h_q => ∃ (w' : Int) (gt' : List Int) (gd' : List Int) (xs' : List Int) (ys' : List Int) (r1' : List Int) (r2' : List Int) (fr' : List Int) (sb' : Int) (wa' : Int) (so' : List Int) (sw' : List Int) (ro' : List Int) (cl_q : List Int) (v : Int), rv = [fI v] ∧ cE h_q 77 (.inl (.int, fA gt')) ∧ gt'.length = (5 : Nat) ∧ cE h_q 78 (.inl (.int, fA gd')) ∧ gd'.length = (5 : Nat) ∧ cE h_q 79 (.inl (.long, fL xs')) ∧ xs'.length = (12 : Nat) ∧ cE h_q 80 (.inl (.long, fL ys')) ∧ ys'.length = (12 : Nat) ∧ cE h_q 81 (.inl (.long, fL r1')) ∧ r1'.length = (201 : Nat) ∧ cE h_q 82 (.inl (.long, fL r2')) ∧ r2'.length = (201 : Nat) ∧ cE h_q 66 (.inr (10, (fI pl :: .ref 67 :: .ref 68 :: .ref 69 :: fI ((s : Nat) : Int) :: .ref 70 :: .ref 71 :: fI (f 7) :: fI (f 8) :: .ref 72 :: fI (f 10) :: fI (f 11) :: fI (f 12) :: fJ (f 13) :: fI (f 14) :: fI (f 15) :: fI (f 16) :: fI (f 17) :: .ref 73 :: .ref 74 :: .ref 75 :: .ref 76 :: .ref 77 :: .ref 78 :: fI w' :: .ref 79 :: .ref 80 :: .ref 81 :: .ref 82 :: .ref 83 :: .ref 84 :: .ref 85 :: fJ sb' :: fJ wa' :: .ref 86 :: .ref 87 :: fI (f 36) :: .ref 88 :: .ref 89 :: .ref 90 :: .ref 91 :: .ref 92 :: .ref 93 :: []))) ∧ cE h_q 70 (.inl (.int, fA [ka, pa, fa, kb, pb, fb])) ∧ cE h_q 83 (.inl (.long, fL fr')) ∧ fr'.length = (9 : Nat) ∧ cE h_q 84 (.inl (.long, fL so')) ∧ so'.length = (3 : Nat) ∧ cE h_q 85 (.inl (.long, fL sw')) ∧ sw'.length = (3 : Nat) ∧ cE h_q 86 (.inl (.int, fA ro')) ∧ ro'.length = (3 : Nat) ∧ cE h_q 87 (.inl (.int, fA cl_q)) ∧ cl_q.length = (3 : Nat) ∧ (∀ i : Int, (0 : Int) ≤ i → i < (3 : Int) → 0 ≤ ro'.getD i.toNat 0 ∧ ro'.getD i.toNat 0 ≤ 2) ∧ (∀ i : Int, (0 : Int) ≤ i → i < (3 : Int) → 0 ≤ cl_q.getD i.toNat 0 ∧ cl_q.getD i.toNat 0 ≤ 2) ∧ hfr [66, 77, 78, 79, 80, 81, 82, 70, 83, 84, 85, 86, 87] h h_q) := by
  refine ik_Wk 2 (pc_q := 2) (loc_q := [some (.ref 66), some (fI p), some (fI 1), some (fI what)]) (st_q := [fI p, .ref 66]) (h_q := h) (cl_q := 0) (sl_q := 0) rfl ?_
  refine ik_Wc 131 2 0 [.ref 66, fI p] [] rfl rfl rfl (by decide +kernel) rfl rfl (fw_rec hl rfl h66 rfl (Nat.le_of_ble_eq_true rfl)) ?_
  refine ik_Wk 0 (pc_q := 0) (loc_q := [some (.ref 66), some (fI p)]) (st_q := []) (h_q := h) (cl_q := 0) (sl_q := 0) rfl ?_
  refine ik_Wk 1 (pc_q := 1) (loc_q := [some (.ref 66), some (fI p)]) (st_q := [fI p]) (h_q := h) (cl_q := 0) (sl_q := 0) rfl ?_
  refine fw_i2l rfl (by omega) (by omega) ?_
  refine fw_lc (z := 0) rfl (by decide +kernel) ?_
  refine ik_Wk 1 (pc_q := 4) (loc_q := [some (.ref 66), some (fI p)]) (st_q := [.ref 66, fJ 0, fJ p]) (h_q := h) (cl_q := 0) (sl_q := 0) rfl ?_
  refine fw_gf rfl rfl h66 rfl ?_
  refine ik_Wk 1 (pc_q := 8) (loc_q := [some (.ref 66), some (fI p)]) (st_q := [fI 2, fI pl, fJ 0, fJ p]) (h_q := h) (cl_q := 0) (sl_q := 0) rfl ?_
  refine fw_sub rfl ?_
  refine fw_i2l rfl (by omega) (by omega) ?_
  refine fw_call 127 3 3 [fJ p, fJ 0, fJ (pl - 2)] [] rfl rfl rfl (Nat.le_of_ble_eq_true rfl) rfl rfl (fw_sta hl rfl (by decide +kernel)) (cr_in (v := p) (a := 0) (b := pl - 2) (by omega) (by omega) (by omega)  hl) ?_
  rintro _ h_977 (⟨rfl, p_977_0, F_977⟩ | ⟨rfl, p_977_0, F_977⟩)
  · have k_977 : cL h_977 := F_977.1.trans hl
    have fr_977 := hfr_cb (hfr_refl [66, 77, 78, 79, 80, 81, 82, 70, 83, 84, 85, 86, 87] h) F_977 rfl
    have g_977_66 := (hfr_g F_977 66 rfl).trans h66
    have g_977_67 := (hfr_g F_977 67 rfl).trans h67
    have g_977_68 := (hfr_g F_977 68 rfl).trans h68
    have g_977_69 := (hfr_g F_977 69 rfl).trans h69
    have g_977_77 := (hfr_g F_977 77 rfl).trans h77
    have g_977_78 := (hfr_g F_977 78 rfl).trans h78
    have g_977_79 := (hfr_g F_977 79 rfl).trans h79
    have g_977_80 := (hfr_g F_977 80 rfl).trans h80
    have g_977_70 := (hfr_g F_977 70 rfl).trans h70
    have g_977_81 := (hfr_g F_977 81 rfl).trans h81
    have g_977_82 := (hfr_g F_977 82 rfl).trans h82
    have g_977_83 := (hfr_g F_977 83 rfl).trans h83
    have g_977_84 := (hfr_g F_977 84 rfl).trans h84
    have g_977_85 := (hfr_g F_977 85 rfl).trans h85
    have g_977_86 := (hfr_g F_977 86 rfl).trans h86
    have g_977_87 := (hfr_g F_977 87 rfl).trans h87
    refine ik_Wk 0 (pc_q := 13) (loc_q := [some (.ref 66), some (fI p)]) (st_q := [fI 1]) (h_q := h_977) (cl_q := 0) (sl_q := 0) rfl ?_
    refine ik_Wret rfl rfl ⟨_, _, rfl, rfl, ?_⟩
    refine ik_Wk 0 (pc_q := 5) (loc_q := [some (.ref 66), some (fI p), some (fI 1), some (fI what)]) (st_q := [fI 1]) (h_q := h_977) (cl_q := 0) (sl_q := 0) rfl ?_
    refine fw_if_eq rfl rfl (by decide +kernel) (by decide +kernel) (fun hc1 => absurd hc1 (by decide +kernel)) (fun hc1 => ?_)
    refine ik_Wk 1 (pc_q := 9) (loc_q := [some (.ref 66), some (fI p), some (fI 1), some (fI what)]) (st_q := [fI 1]) (h_q := h_977) (cl_q := 0) (sl_q := 0) rfl ?_
    refine fw_i2l rfl (by omega) (by omega) ?_
    refine fw_lc (z := 1) rfl (by decide +kernel) ?_
    refine fw_l2 3 rfl rfl (by decide +kernel) ?_
    refine fw_call 127 3 3 [fJ 1, fJ 1, fJ 3] [] rfl rfl rfl (Nat.le_of_ble_eq_true rfl) rfl rfl (fw_sta k_977 rfl (by decide +kernel)) (cr_in (v := 1) (a := 1) (b := 3) (by omega) (by omega) (by omega)  k_977) ?_
    rintro _ h_978 (⟨rfl, p_978_0, F_978⟩ | ⟨rfl, p_978_0, F_978⟩)
    · have k_978 : cL h_978 := F_978.1.trans k_977
      have fr_978 := hfr_cb fr_977 F_978 rfl
      have g_978_66 := (hfr_g F_978 66 rfl).trans g_977_66
      have g_978_67 := (hfr_g F_978 67 rfl).trans g_977_67
      have g_978_68 := (hfr_g F_978 68 rfl).trans g_977_68
      have g_978_69 := (hfr_g F_978 69 rfl).trans g_977_69
      have g_978_77 := (hfr_g F_978 77 rfl).trans g_977_77
      have g_978_78 := (hfr_g F_978 78 rfl).trans g_977_78
      have g_978_79 := (hfr_g F_978 79 rfl).trans g_977_79
      have g_978_80 := (hfr_g F_978 80 rfl).trans g_977_80
      have g_978_70 := (hfr_g F_978 70 rfl).trans g_977_70
      have g_978_81 := (hfr_g F_978 81 rfl).trans g_977_81
      have g_978_82 := (hfr_g F_978 82 rfl).trans g_977_82
      have g_978_83 := (hfr_g F_978 83 rfl).trans g_977_83
      have g_978_84 := (hfr_g F_978 84 rfl).trans g_977_84
      have g_978_85 := (hfr_g F_978 85 rfl).trans g_977_85
      have g_978_86 := (hfr_g F_978 86 rfl).trans g_977_86
      have g_978_87 := (hfr_g F_978 87 rfl).trans g_977_87
      refine ik_Wk 0 (pc_q := 17) (loc_q := [some (.ref 66), some (fI p), some (fI 1), some (fI what)]) (st_q := [fI 1]) (h_q := h_978) (cl_q := 0) (sl_q := 0) rfl ?_
      refine fw_if_eq rfl rfl (by decide +kernel) (by decide +kernel) (fun hc2 => absurd hc2 (by decide +kernel)) (fun hc2 => ?_)
      refine ik_Wk 3 (pc_q := 23) (loc_q := [some (.ref 66), some (fI p), some (fI 1), some (fI what)]) (st_q := [fI 1, fI p, .ref 66]) (h_q := h_978) (cl_q := 0) (sl_q := 0) rfl ?_
      refine fw_add rfl ?_
      refine ik_Wk 1 (pc_q := 25) (loc_q := [some (.ref 66), some (fI p), some (fI 1), some (fI what)]) (st_q := [fI 1, fI (p + 1), .ref 66]) (h_q := h_978) (cl_q := 0) (sl_q := 0) rfl ?_
      refine fw_sub rfl ?_
      refine ik_Wc 131 2 0 [.ref 66, fI ((p + 1) - 1)] [] rfl rfl rfl (by decide +kernel) rfl rfl (fw_rec k_978 rfl g_978_66 rfl (Nat.le_of_ble_eq_true rfl)) ?_
      refine ik_Wk 0 (pc_q := 0) (loc_q := [some (.ref 66), some (fI ((p + 1) - 1))]) (st_q := []) (h_q := h_978) (cl_q := 0) (sl_q := 0) rfl ?_
      refine ik_Wk 1 (pc_q := 1) (loc_q := [some (.ref 66), some (fI ((p + 1) - 1))]) (st_q := [fI ((p + 1) - 1)]) (h_q := h_978) (cl_q := 0) (sl_q := 0) rfl ?_
      refine fw_i2l rfl (by omega) (by omega) ?_
      refine fw_lc (z := 0) rfl (by decide +kernel) ?_
      refine ik_Wk 1 (pc_q := 4) (loc_q := [some (.ref 66), some (fI ((p + 1) - 1))]) (st_q := [.ref 66, fJ 0, fJ ((p + 1) - 1)]) (h_q := h_978) (cl_q := 0) (sl_q := 0) rfl ?_
      refine fw_gf rfl rfl g_978_66 rfl ?_
      refine ik_Wk 1 (pc_q := 8) (loc_q := [some (.ref 66), some (fI ((p + 1) - 1))]) (st_q := [fI 2, fI pl, fJ 0, fJ ((p + 1) - 1)]) (h_q := h_978) (cl_q := 0) (sl_q := 0) rfl ?_
      refine fw_sub rfl ?_
      refine fw_i2l rfl (by omega) (by omega) ?_
      refine fw_call 127 3 3 [fJ ((p + 1) - 1), fJ 0, fJ (pl - 2)] [] rfl rfl rfl (Nat.le_of_ble_eq_true rfl) rfl rfl (fw_sta k_978 rfl (by decide +kernel)) (cr_in (v := (p + 1) - 1) (a := 0) (b := pl - 2) (by omega) (by omega) (by omega)  k_978) ?_
      rintro _ h_979 (⟨rfl, p_979_0, F_979⟩ | ⟨rfl, p_979_0, F_979⟩)
      · have k_979 : cL h_979 := F_979.1.trans k_978
        have fr_979 := hfr_cb fr_978 F_979 rfl
        have g_979_66 := (hfr_g F_979 66 rfl).trans g_978_66
        have g_979_67 := (hfr_g F_979 67 rfl).trans g_978_67
        have g_979_68 := (hfr_g F_979 68 rfl).trans g_978_68
        have g_979_69 := (hfr_g F_979 69 rfl).trans g_978_69
        have g_979_77 := (hfr_g F_979 77 rfl).trans g_978_77
        have g_979_78 := (hfr_g F_979 78 rfl).trans g_978_78
        have g_979_79 := (hfr_g F_979 79 rfl).trans g_978_79
        have g_979_80 := (hfr_g F_979 80 rfl).trans g_978_80
        have g_979_70 := (hfr_g F_979 70 rfl).trans g_978_70
        have g_979_81 := (hfr_g F_979 81 rfl).trans g_978_81
        have g_979_82 := (hfr_g F_979 82 rfl).trans g_978_82
        have g_979_83 := (hfr_g F_979 83 rfl).trans g_978_83
        have g_979_84 := (hfr_g F_979 84 rfl).trans g_978_84
        have g_979_85 := (hfr_g F_979 85 rfl).trans g_978_85
        have g_979_86 := (hfr_g F_979 86 rfl).trans g_978_86
        have g_979_87 := (hfr_g F_979 87 rfl).trans g_978_87
        refine ik_Wk 0 (pc_q := 13) (loc_q := [some (.ref 66), some (fI ((p + 1) - 1))]) (st_q := [fI 1]) (h_q := h_979) (cl_q := 0) (sl_q := 0) rfl ?_
        refine ik_Wret rfl rfl ⟨_, _, rfl, rfl, ?_⟩
        refine ik_Wk 0 (pc_q := 29) (loc_q := [some (.ref 66), some (fI p), some (fI 1), some (fI what)]) (st_q := [fI 1]) (h_q := h_979) (cl_q := 0) (sl_q := 0) rfl ?_
        refine fw_if_ne rfl rfl (by decide +kernel) (by decide +kernel) (fun hc3 => absurd hc3 (by decide +kernel)) (fun hc3 => ?_)
        refine ik_Wk 1 (pc_q := 36) (loc_q := [some (.ref 66), some (fI p), some (fI 1), some (fI what)]) (st_q := [fI 1]) (h_q := h_979) (cl_q := 0) (sl_q := 0) rfl ?_
        refine fw_i2l rfl (by omega) (by omega) ?_
        refine fw_lc (z := 1) rfl (by decide +kernel) ?_
        refine fw_l2 3 rfl rfl (by decide +kernel) ?_
        refine fw_call 127 3 3 [fJ 1, fJ 1, fJ 3] [] rfl rfl rfl (Nat.le_of_ble_eq_true rfl) rfl rfl (fw_sta k_979 rfl (by decide +kernel)) (cr_in (v := 1) (a := 1) (b := 3) (by omega) (by omega) (by omega)  k_979) ?_
        rintro _ h_980 (⟨rfl, p_980_0, F_980⟩ | ⟨rfl, p_980_0, F_980⟩)
        · have k_980 : cL h_980 := F_980.1.trans k_979
          have fr_980 := hfr_cb fr_979 F_980 rfl
          have g_980_66 := (hfr_g F_980 66 rfl).trans g_979_66
          have g_980_67 := (hfr_g F_980 67 rfl).trans g_979_67
          have g_980_68 := (hfr_g F_980 68 rfl).trans g_979_68
          have g_980_69 := (hfr_g F_980 69 rfl).trans g_979_69
          have g_980_77 := (hfr_g F_980 77 rfl).trans g_979_77
          have g_980_78 := (hfr_g F_980 78 rfl).trans g_979_78
          have g_980_79 := (hfr_g F_980 79 rfl).trans g_979_79
          have g_980_80 := (hfr_g F_980 80 rfl).trans g_979_80
          have g_980_70 := (hfr_g F_980 70 rfl).trans g_979_70
          have g_980_81 := (hfr_g F_980 81 rfl).trans g_979_81
          have g_980_82 := (hfr_g F_980 82 rfl).trans g_979_82
          have g_980_83 := (hfr_g F_980 83 rfl).trans g_979_83
          have g_980_84 := (hfr_g F_980 84 rfl).trans g_979_84
          have g_980_85 := (hfr_g F_980 85 rfl).trans g_979_85
          have g_980_86 := (hfr_g F_980 86 rfl).trans g_979_86
          have g_980_87 := (hfr_g F_980 87 rfl).trans g_979_87
          refine ik_Wk 0 (pc_q := 44) (loc_q := [some (.ref 66), some (fI p), some (fI 1), some (fI what)]) (st_q := [fI 1]) (h_q := h_980) (cl_q := 0) (sl_q := 0) rfl ?_
          refine fw_if_eq rfl rfl (by decide +kernel) (by decide +kernel) (fun hc4 => absurd hc4 (by decide +kernel)) (fun hc4 => ?_)
          refine ik_Wk 1 (pc_q := 48) (loc_q := [some (.ref 66), some (fI p), some (fI 1), some (fI what)]) (st_q := [fI what]) (h_q := h_980) (cl_q := 0) (sl_q := 0) rfl ?_
          refine fw_i2l rfl (by omega) (by omega) ?_
          refine fw_lc (z := 0) rfl (by decide +kernel) ?_
          refine fw_l2 6 rfl rfl (by decide +kernel) ?_
          refine fw_call 127 3 3 [fJ what, fJ 0, fJ 6] [] rfl rfl rfl (Nat.le_of_ble_eq_true rfl) rfl rfl (fw_sta k_980 rfl (by decide +kernel)) (cr_in (v := what) (a := 0) (b := 6) (by omega) (by omega) (by omega)  k_980) ?_
          rintro _ h_981 (⟨rfl, p_981_0, F_981⟩ | ⟨rfl, p_981_0, F_981⟩)
          · have k_981 : cL h_981 := F_981.1.trans k_980
            have fr_981 := hfr_cb fr_980 F_981 rfl
            have g_981_66 := (hfr_g F_981 66 rfl).trans g_980_66
            have g_981_67 := (hfr_g F_981 67 rfl).trans g_980_67
            have g_981_68 := (hfr_g F_981 68 rfl).trans g_980_68
            have g_981_69 := (hfr_g F_981 69 rfl).trans g_980_69
            have g_981_77 := (hfr_g F_981 77 rfl).trans g_980_77
            have g_981_78 := (hfr_g F_981 78 rfl).trans g_980_78
            have g_981_79 := (hfr_g F_981 79 rfl).trans g_980_79
            have g_981_80 := (hfr_g F_981 80 rfl).trans g_980_80
            have g_981_70 := (hfr_g F_981 70 rfl).trans g_980_70
            have g_981_81 := (hfr_g F_981 81 rfl).trans g_980_81
            have g_981_82 := (hfr_g F_981 82 rfl).trans g_980_82
            have g_981_83 := (hfr_g F_981 83 rfl).trans g_980_83
            have g_981_84 := (hfr_g F_981 84 rfl).trans g_980_84
            have g_981_85 := (hfr_g F_981 85 rfl).trans g_980_85
            have g_981_86 := (hfr_g F_981 86 rfl).trans g_980_86
            have g_981_87 := (hfr_g F_981 87 rfl).trans g_980_87
            refine ik_Wk 0 (pc_q := 56) (loc_q := [some (.ref 66), some (fI p), some (fI 1), some (fI what)]) (st_q := [fI 1]) (h_q := h_981) (cl_q := 0) (sl_q := 0) rfl ?_
            refine fw_if_ne rfl rfl (by decide +kernel) (by decide +kernel) (fun hc5 => absurd hc5 (by decide +kernel)) (fun hc5 => ?_)
            refine ik_Wk 3 (pc_q := 65) (loc_q := [some (.ref 66), some (fI p), some (fI 1), some (fI what)]) (st_q := [fI 1, fI p, .ref 66]) (h_q := h_981) (cl_q := 0) (sl_q := 0) rfl ?_
            refine fw_call 178 3 0 [.ref 66, fI p, fI 1] [] rfl rfl rfl (Nat.le_of_ble_eq_true rfl) rfl rfl (fw_rec k_981 rfl g_981_66 rfl (Nat.le_of_ble_eq_true rfl)) (cr_fears1 (pl := pl) (f := fun j => ((0 :: 0 :: 0 :: 0 :: 0 :: 0 :: 0 :: f 7 :: f 8 :: 0 :: f 10 :: f 11 :: f 12 :: f 13 :: f 14 :: f 15 :: f 16 :: f 17 :: 0 :: 0 :: 0 :: 0 :: 0 :: 0 :: f 24 :: 0 :: 0 :: 0 :: 0 :: 0 :: 0 :: 0 :: f 32 :: f 33 :: 0 :: 0 :: f 36 :: 0 :: 0 :: 0 :: 0 :: 0 :: 0 :: []) : List Int).getD j 0) (s := s) (cn := cn) (go := go) (ch := ch) (gt := gt) (gd := gd) (xs := xs) (ys := ys) (ka := ka) (pa := pa) (fa := fa) (kb := kb) (pb := pb) (fb := fb) (r1 := r1) (r2 := r2) (p := p) (fr := fr) (by omega) (by omega) q2 q3 q4 (q5 (by omega)) (q6 (by omega)) (by omega) g_981_66 g_981_67 n67 g_981_68 n68 g_981_69 n69 g_981_77 n77 g_981_78 n78 g_981_79 n79 g_981_80 n80 g_981_70 g_981_81 n81 g_981_82 n82 g_981_83 n83 k_981) ?_
            rintro _ h_982 ⟨w'_982, gt'_982, gd'_982, xs'_982, ys'_982, r1'_982, r2'_982, fr'_982, rfl, e_982_66, e_982_77, m_982_77, e_982_78, m_982_78, e_982_79, m_982_79, e_982_80, m_982_80, e_982_81, m_982_81, e_982_82, m_982_82, e_982_70, e_982_83, m_982_83, F_982⟩
            have k_982 : cL h_982 := F_982.1.trans k_981
            have fr_982 := hfr_cb fr_981 F_982 rfl
            have g_982_67 := (hfr_g F_982 67 rfl).trans g_981_67
            have g_982_68 := (hfr_g F_982 68 rfl).trans g_981_68
            have g_982_69 := (hfr_g F_982 69 rfl).trans g_981_69
            have g_982_84 := (hfr_g F_982 84 rfl).trans g_981_84
            have g_982_85 := (hfr_g F_982 85 rfl).trans g_981_85
            have g_982_86 := (hfr_g F_982 86 rfl).trans g_981_86
            have g_982_87 := (hfr_g F_982 87 rfl).trans g_981_87
            have g_982_66 : cE h_982 66 (.inr (10, (fI pl :: .ref 67 :: .ref 68 :: .ref 69 :: fI ((s : Nat) : Int) :: .ref 70 :: .ref 71 :: fI (f 7) :: fI (f 8) :: .ref 72 :: fI (f 10) :: fI (f 11) :: fI (f 12) :: fJ (f 13) :: fI (f 14) :: fI (f 15) :: fI (f 16) :: fI (f 17) :: .ref 73 :: .ref 74 :: .ref 75 :: .ref 76 :: .ref 77 :: .ref 78 :: fI w'_982 :: .ref 79 :: .ref 80 :: .ref 81 :: .ref 82 :: .ref 83 :: .ref 84 :: .ref 85 :: fJ (f 32) :: fJ (f 33) :: .ref 86 :: .ref 87 :: fI (f 36) :: .ref 88 :: .ref 89 :: .ref 90 :: .ref 91 :: .ref 92 :: .ref 93 :: []))) := e_982_66
            have g_982_77 : cE h_982 77 (.inl (.int, fA gt'_982)) := e_982_77
            have g_982_78 : cE h_982 78 (.inl (.int, fA gd'_982)) := e_982_78
            have g_982_79 : cE h_982 79 (.inl (.long, fL xs'_982)) := e_982_79
            have g_982_80 : cE h_982 80 (.inl (.long, fL ys'_982)) := e_982_80
            have g_982_81 : cE h_982 81 (.inl (.long, fL r1'_982)) := e_982_81
            have g_982_82 : cE h_982 82 (.inl (.long, fL r2'_982)) := e_982_82
            have g_982_70 : cE h_982 70 (.inl (.int, fA [ka, pa, fa, kb, pb, fb])) := e_982_70
            have g_982_83 : cE h_982 83 (.inl (.long, fL fr'_982)) := e_982_83
            refine ik_Wk 0 (pc_q := 68) (loc_q := [some (.ref 66), some (fI p), some (fI 1), some (fI what)]) (st_q := []) (h_q := h_982) (cl_q := 0) (sl_q := 0) rfl ?_
            refine ik_Wk 2 (pc_q := 70) (loc_q := [some (.ref 66), some (fI p), some (fI 1), some (fI what)]) (st_q := [fI 1, .ref 66]) (h_q := h_982) (cl_q := 0) (sl_q := 0) rfl ?_
            refine fw_call 179 2 0 [.ref 66, fI 1] [] rfl rfl rfl (Nat.le_of_ble_eq_true rfl) rfl rfl (fw_rec k_982 rfl g_982_66 rfl (Nat.le_of_ble_eq_true rfl)) (cr_findMixed (f := fun j => ((pl :: 0 :: 0 :: 0 :: (((s : Nat) : Int)) :: 0 :: 0 :: ((f 7)) :: ((f 8)) :: 0 :: ((f 10)) :: ((f 11)) :: ((f 12)) :: ((f 13)) :: ((f 14)) :: ((f 15)) :: ((f 16)) :: ((f 17)) :: 0 :: 0 :: 0 :: 0 :: 0 :: 0 :: w'_982 :: 0 :: 0 :: 0 :: 0 :: 0 :: 0 :: 0 :: ((f 32)) :: ((f 33)) :: 0 :: 0 :: ((f 36)) :: 0 :: 0 :: 0 :: 0 :: 0 :: 0 :: []) : List Int).getD j 0) (n := 1) (fr := fr'_982) (so := so) (sw := sw) (ro := ro) (cl := cl) (by omega) q7 q8 g_982_66 g_982_83 m_982_83 g_982_84 n84 g_982_85 n85 g_982_86 n86 g_982_87 n87 k_982) ?_
            rintro _ h_983 ⟨sb'_983, wa'_983, so'_983, sw'_983, ro'_983, cl'_983, b_983, rfl, e_983_66, e_983_84, m_983_84, e_983_85, m_983_85, e_983_86, m_983_86, e_983_87, m_983_87, p_983_0, p_983_1, p_983_2, p_983_3, F_983⟩
            have k_983 : cL h_983 := F_983.1.trans k_982
            have fr_983 := hfr_cb fr_982 F_983 rfl
            have g_983_67 := (hfr_g F_983 67 rfl).trans g_982_67
            have g_983_68 := (hfr_g F_983 68 rfl).trans g_982_68
            have g_983_69 := (hfr_g F_983 69 rfl).trans g_982_69
            have g_983_77 := (hfr_g F_983 77 rfl).trans g_982_77
            have g_983_78 := (hfr_g F_983 78 rfl).trans g_982_78
            have g_983_79 := (hfr_g F_983 79 rfl).trans g_982_79
            have g_983_80 := (hfr_g F_983 80 rfl).trans g_982_80
            have g_983_70 := (hfr_g F_983 70 rfl).trans g_982_70
            have g_983_81 := (hfr_g F_983 81 rfl).trans g_982_81
            have g_983_82 := (hfr_g F_983 82 rfl).trans g_982_82
            have g_983_83 := (hfr_g F_983 83 rfl).trans g_982_83
            have g_983_66 : cE h_983 66 (.inr (10, (fI pl :: .ref 67 :: .ref 68 :: .ref 69 :: fI ((s : Nat) : Int) :: .ref 70 :: .ref 71 :: fI (f 7) :: fI (f 8) :: .ref 72 :: fI (f 10) :: fI (f 11) :: fI (f 12) :: fJ (f 13) :: fI (f 14) :: fI (f 15) :: fI (f 16) :: fI (f 17) :: .ref 73 :: .ref 74 :: .ref 75 :: .ref 76 :: .ref 77 :: .ref 78 :: fI w'_982 :: .ref 79 :: .ref 80 :: .ref 81 :: .ref 82 :: .ref 83 :: .ref 84 :: .ref 85 :: fJ sb'_983 :: fJ wa'_983 :: .ref 86 :: .ref 87 :: fI (f 36) :: .ref 88 :: .ref 89 :: .ref 90 :: .ref 91 :: .ref 92 :: .ref 93 :: []))) := e_983_66
            have g_983_84 : cE h_983 84 (.inl (.long, fL so'_983)) := e_983_84
            have g_983_85 : cE h_983 85 (.inl (.long, fL sw'_983)) := e_983_85
            have g_983_86 : cE h_983 86 (.inl (.int, fA ro'_983)) := e_983_86
            have g_983_87 : cE h_983 87 (.inl (.int, fA cl'_983)) := e_983_87
            refine ik_Wk 0 (pc_q := 73) (loc_q := [some (.ref 66), some (fI p), some (fI 1), some (fI what)]) (st_q := [fI b_983]) (h_q := h_983) (cl_q := 0) (sl_q := 0) rfl ?_
            refine fw_if_ne rfl rfl (by omega) (by omega) (fun hc6 => ?_) (fun hc6 => ?_)
            · refine fw_ld (-1000000003) rfl rfl (by decide +kernel) ?_
              exact ik_Wret rfl rfl ⟨_, _, rfl, rfl, rfl, rfl, ⟨w'_982, gt'_982, gd'_982, xs'_982, ys'_982, r1'_982, r2'_982, fr'_982, sb'_983, wa'_983, so'_983, sw'_983, ro'_983, cl'_983, (-1000000003), rfl, g_983_77, m_982_77, g_983_78, m_982_78, g_983_79, m_982_79, g_983_80, m_982_80, g_983_81, m_982_81, g_983_82, m_982_82, g_983_66, g_983_70, g_983_83, m_982_83, g_983_84, m_983_84, g_983_85, m_983_85, g_983_86, m_983_86, g_983_87, m_983_87, p_983_0, p_983_1, fr_983⟩⟩
            · refine ik_Wk 1 (pc_q := 80) (loc_q := [some (.ref 66), some (fI p), some (fI 1), some (fI what)]) (st_q := [fI what]) (h_q := h_983) (cl_q := 0) (sl_q := 0) rfl ?_
              refine fw_if_ne rfl rfl (by omega) (by omega) (fun hc7 => ?_) (fun hc7 => ?_)
              · refine ik_Wk 1 (pc_q := 84) (loc_q := [some (.ref 66), some (fI p), some (fI 1), some (fI what)]) (st_q := [.ref 66]) (h_q := h_983) (cl_q := 0) (sl_q := 0) rfl ?_
                refine fw_gf rfl rfl g_983_66 rfl ?_
                refine fw_l2 1000 rfl rfl (by decide +kernel) ?_
                refine fw_lmul rfl ?_
                refine ik_Wk 1 (pc_q := 92) (loc_q := [some (.ref 66), some (fI p), some (fI 1), some (fI what)]) (st_q := [.ref 66, fJ (wa'_983 * 1000)]) (h_q := h_983) (cl_q := 0) (sl_q := 0) rfl ?_
                refine fw_gf rfl rfl g_983_66 rfl ?_
                refine fx_ldo rfl (p_983_3 (by omega)) (fun qd8 => ?_)
                refine ik_Wk 1 (pc_q := 132) (loc_q := [some (.ref 66), some (fI p), some (fI 1), some (fI what)]) (st_q := [fJ qd8]) (h_q := h_983) (cl_q := 0) (sl_q := 0) rfl ?_
                refine fx_l2i rfl ?_
                exact ik_Wret rfl rfl ⟨_, _, rfl, rfl, rfl, rfl, ⟨w'_982, gt'_982, gd'_982, xs'_982, ys'_982, r1'_982, r2'_982, fr'_982, sb'_983, wa'_983, so'_983, sw'_983, ro'_983, cl'_983, qd8, rfl, g_983_77, m_982_77, g_983_78, m_982_78, g_983_79, m_982_79, g_983_80, m_982_80, g_983_81, m_982_81, g_983_82, m_982_82, g_983_66, g_983_70, g_983_83, m_982_83, g_983_84, m_983_84, g_983_85, m_983_85, g_983_86, m_983_86, g_983_87, m_983_87, p_983_0, p_983_1, fr_983⟩⟩
              · refine ik_Wk 2 (pc_q := 101) (loc_q := [some (.ref 66), some (fI p), some (fI 1), some (fI what)]) (st_q := [fI 4, fI what]) (h_q := h_983) (cl_q := 0) (sl_q := 0) rfl ?_
                refine fw_ic_ge rfl rfl (by omega) (by omega) (by omega) (by omega) (fun hc9 => ?_) (fun hc9 => ?_)
                · refine ik_Wk 1 (pc_q := 116) (loc_q := [some (.ref 66), some (fI p), some (fI 1), some (fI what)]) (st_q := [.ref 66]) (h_q := h_983) (cl_q := 0) (sl_q := 0) rfl ?_
                  refine fw_gf rfl rfl g_983_66 rfl ?_
                  refine ik_Wk 2 (pc_q := 121) (loc_q := [some (.ref 66), some (fI p), some (fI 1), some (fI what)]) (st_q := [fI 4, fI what, .ref 85]) (h_q := h_983) (cl_q := 0) (sl_q := 0) rfl ?_
                  refine fw_sub rfl ?_
                  refine fx_lal rfl g_983_85 (by omega) (by omega) (by omega) ?_
                  refine fw_l2 1000000 rfl rfl (by decide +kernel) ?_
                  refine fw_lmul rfl ?_
                  refine ik_Wk 1 (pc_q := 128) (loc_q := [some (.ref 66), some (fI p), some (fI 1), some (fI what)]) (st_q := [.ref 66, fJ ((sw'_983.getD (what - 4).toNat 0) * 1000000)]) (h_q := h_983) (cl_q := 0) (sl_q := 0) rfl ?_
                  refine fw_gf rfl rfl g_983_66 rfl ?_
                  refine fx_ldo rfl (p_983_3 (by omega)) (fun qd10 => ?_)
                  refine fx_l2i rfl ?_
                  exact ik_Wret rfl rfl ⟨_, _, rfl, rfl, rfl, rfl, ⟨w'_982, gt'_982, gd'_982, xs'_982, ys'_982, r1'_982, r2'_982, fr'_982, sb'_983, wa'_983, so'_983, sw'_983, ro'_983, cl'_983, qd10, rfl, g_983_77, m_982_77, g_983_78, m_982_78, g_983_79, m_982_79, g_983_80, m_982_80, g_983_81, m_982_81, g_983_82, m_982_82, g_983_66, g_983_70, g_983_83, m_982_83, g_983_84, m_983_84, g_983_85, m_983_85, g_983_86, m_983_86, g_983_87, m_983_87, p_983_0, p_983_1, fr_983⟩⟩
                · refine ik_Wk 1 (pc_q := 105) (loc_q := [some (.ref 66), some (fI p), some (fI 1), some (fI what)]) (st_q := [.ref 66]) (h_q := h_983) (cl_q := 0) (sl_q := 0) rfl ?_
                  refine fw_gf rfl rfl g_983_66 rfl ?_
                  refine ik_Wk 2 (pc_q := 110) (loc_q := [some (.ref 66), some (fI p), some (fI 1), some (fI what)]) (st_q := [fI 1, fI what, .ref 84]) (h_q := h_983) (cl_q := 0) (sl_q := 0) rfl ?_
                  refine fw_sub rfl ?_
                  refine fx_lal rfl g_983_84 (by omega) (by omega) (by omega) ?_
                  refine ik_Wk 1 (pc_q := 123) (loc_q := [some (.ref 66), some (fI p), some (fI 1), some (fI what)]) (st_q := [fJ (so'_983.getD (what - 1).toNat 0)]) (h_q := h_983) (cl_q := 0) (sl_q := 0) rfl ?_
                  refine fw_l2 1000000 rfl rfl (by decide +kernel) ?_
                  refine fw_lmul rfl ?_
                  refine ik_Wk 1 (pc_q := 128) (loc_q := [some (.ref 66), some (fI p), some (fI 1), some (fI what)]) (st_q := [.ref 66, fJ ((so'_983.getD (what - 1).toNat 0) * 1000000)]) (h_q := h_983) (cl_q := 0) (sl_q := 0) rfl ?_
                  refine fw_gf rfl rfl g_983_66 rfl ?_
                  refine fx_ldo rfl (p_983_3 (by omega)) (fun qd11 => ?_)
                  refine fx_l2i rfl ?_
                  exact ik_Wret rfl rfl ⟨_, _, rfl, rfl, rfl, rfl, ⟨w'_982, gt'_982, gd'_982, xs'_982, ys'_982, r1'_982, r2'_982, fr'_982, sb'_983, wa'_983, so'_983, sw'_983, ro'_983, cl'_983, qd11, rfl, g_983_77, m_982_77, g_983_78, m_982_78, g_983_79, m_982_79, g_983_80, m_982_80, g_983_81, m_982_81, g_983_82, m_982_82, g_983_66, g_983_70, g_983_83, m_982_83, g_983_84, m_983_84, g_983_85, m_983_85, g_983_86, m_983_86, g_983_87, m_983_87, p_983_0, p_983_1, fr_983⟩⟩
          · have k_981 : cL h_981 := F_981.1.trans k_980
            have fr_981 := hfr_cb fr_980 F_981 rfl
            have g_981_66 := (hfr_g F_981 66 rfl).trans g_980_66
            have g_981_67 := (hfr_g F_981 67 rfl).trans g_980_67
            have g_981_68 := (hfr_g F_981 68 rfl).trans g_980_68
            have g_981_69 := (hfr_g F_981 69 rfl).trans g_980_69
            have g_981_77 := (hfr_g F_981 77 rfl).trans g_980_77
            have g_981_78 := (hfr_g F_981 78 rfl).trans g_980_78
            have g_981_79 := (hfr_g F_981 79 rfl).trans g_980_79
            have g_981_80 := (hfr_g F_981 80 rfl).trans g_980_80
            have g_981_70 := (hfr_g F_981 70 rfl).trans g_980_70
            have g_981_81 := (hfr_g F_981 81 rfl).trans g_980_81
            have g_981_82 := (hfr_g F_981 82 rfl).trans g_980_82
            have g_981_83 := (hfr_g F_981 83 rfl).trans g_980_83
            have g_981_84 := (hfr_g F_981 84 rfl).trans g_980_84
            have g_981_85 := (hfr_g F_981 85 rfl).trans g_980_85
            have g_981_86 := (hfr_g F_981 86 rfl).trans g_980_86
            have g_981_87 := (hfr_g F_981 87 rfl).trans g_980_87
            refine ik_Wk 0 (pc_q := 56) (loc_q := [some (.ref 66), some (fI p), some (fI 1), some (fI what)]) (st_q := [fI 0]) (h_q := h_981) (cl_q := 0) (sl_q := 0) rfl ?_
            refine fw_if_ne rfl rfl (by decide +kernel) (by decide +kernel) (fun hc12 => ?_) (fun hc12 => absurd hc12 (by decide +kernel))
            refine fw_ld (-1000000002) rfl rfl (by decide +kernel) ?_
            exact ik_Wret rfl rfl ⟨_, _, rfl, rfl, rfl, rfl, ⟨(f 24), gt, gd, xs, ys, r1, r2, fr, (f 32), (f 33), so, sw, ro, cl, (-1000000002), rfl, g_981_77, n77, g_981_78, n78, g_981_79, n79, g_981_80, n80, g_981_81, n81, g_981_82, n82, g_981_66, g_981_70, g_981_83, n83, g_981_84, n84, g_981_85, n85, g_981_86, n86, g_981_87, n87, q7, q8, fr_981⟩⟩
        · have k_980 : cL h_980 := F_980.1.trans k_979
          have fr_980 := hfr_cb fr_979 F_980 rfl
          have g_980_66 := (hfr_g F_980 66 rfl).trans g_979_66
          have g_980_67 := (hfr_g F_980 67 rfl).trans g_979_67
          have g_980_68 := (hfr_g F_980 68 rfl).trans g_979_68
          have g_980_69 := (hfr_g F_980 69 rfl).trans g_979_69
          have g_980_77 := (hfr_g F_980 77 rfl).trans g_979_77
          have g_980_78 := (hfr_g F_980 78 rfl).trans g_979_78
          have g_980_79 := (hfr_g F_980 79 rfl).trans g_979_79
          have g_980_80 := (hfr_g F_980 80 rfl).trans g_979_80
          have g_980_70 := (hfr_g F_980 70 rfl).trans g_979_70
          have g_980_81 := (hfr_g F_980 81 rfl).trans g_979_81
          have g_980_82 := (hfr_g F_980 82 rfl).trans g_979_82
          have g_980_83 := (hfr_g F_980 83 rfl).trans g_979_83
          have g_980_84 := (hfr_g F_980 84 rfl).trans g_979_84
          have g_980_85 := (hfr_g F_980 85 rfl).trans g_979_85
          have g_980_86 := (hfr_g F_980 86 rfl).trans g_979_86
          have g_980_87 := (hfr_g F_980 87 rfl).trans g_979_87
          omega
      · have k_979 : cL h_979 := F_979.1.trans k_978
        have fr_979 := hfr_cb fr_978 F_979 rfl
        have g_979_66 := (hfr_g F_979 66 rfl).trans g_978_66
        have g_979_67 := (hfr_g F_979 67 rfl).trans g_978_67
        have g_979_68 := (hfr_g F_979 68 rfl).trans g_978_68
        have g_979_69 := (hfr_g F_979 69 rfl).trans g_978_69
        have g_979_77 := (hfr_g F_979 77 rfl).trans g_978_77
        have g_979_78 := (hfr_g F_979 78 rfl).trans g_978_78
        have g_979_79 := (hfr_g F_979 79 rfl).trans g_978_79
        have g_979_80 := (hfr_g F_979 80 rfl).trans g_978_80
        have g_979_70 := (hfr_g F_979 70 rfl).trans g_978_70
        have g_979_81 := (hfr_g F_979 81 rfl).trans g_978_81
        have g_979_82 := (hfr_g F_979 82 rfl).trans g_978_82
        have g_979_83 := (hfr_g F_979 83 rfl).trans g_978_83
        have g_979_84 := (hfr_g F_979 84 rfl).trans g_978_84
        have g_979_85 := (hfr_g F_979 85 rfl).trans g_978_85
        have g_979_86 := (hfr_g F_979 86 rfl).trans g_978_86
        have g_979_87 := (hfr_g F_979 87 rfl).trans g_978_87
        refine ik_Wk 0 (pc_q := 13) (loc_q := [some (.ref 66), some (fI ((p + 1) - 1))]) (st_q := [fI 0]) (h_q := h_979) (cl_q := 0) (sl_q := 0) rfl ?_
        refine ik_Wret rfl rfl ⟨_, _, rfl, rfl, ?_⟩
        refine ik_Wk 0 (pc_q := 29) (loc_q := [some (.ref 66), some (fI p), some (fI 1), some (fI what)]) (st_q := [fI 0]) (h_q := h_979) (cl_q := 0) (sl_q := 0) rfl ?_
        refine fw_if_ne rfl rfl (by decide +kernel) (by decide +kernel) (fun hc13 => ?_) (fun hc13 => absurd hc13 (by decide +kernel))
        refine fw_ld (-1000000001) rfl rfl (by decide +kernel) ?_
        exact ik_Wret rfl rfl ⟨_, _, rfl, rfl, rfl, rfl, ⟨(f 24), gt, gd, xs, ys, r1, r2, fr, (f 32), (f 33), so, sw, ro, cl, (-1000000001), rfl, g_979_77, n77, g_979_78, n78, g_979_79, n79, g_979_80, n80, g_979_81, n81, g_979_82, n82, g_979_66, g_979_70, g_979_83, n83, g_979_84, n84, g_979_85, n85, g_979_86, n86, g_979_87, n87, q7, q8, fr_979⟩⟩
    · have k_978 : cL h_978 := F_978.1.trans k_977
      have fr_978 := hfr_cb fr_977 F_978 rfl
      have g_978_66 := (hfr_g F_978 66 rfl).trans g_977_66
      have g_978_67 := (hfr_g F_978 67 rfl).trans g_977_67
      have g_978_68 := (hfr_g F_978 68 rfl).trans g_977_68
      have g_978_69 := (hfr_g F_978 69 rfl).trans g_977_69
      have g_978_77 := (hfr_g F_978 77 rfl).trans g_977_77
      have g_978_78 := (hfr_g F_978 78 rfl).trans g_977_78
      have g_978_79 := (hfr_g F_978 79 rfl).trans g_977_79
      have g_978_80 := (hfr_g F_978 80 rfl).trans g_977_80
      have g_978_70 := (hfr_g F_978 70 rfl).trans g_977_70
      have g_978_81 := (hfr_g F_978 81 rfl).trans g_977_81
      have g_978_82 := (hfr_g F_978 82 rfl).trans g_977_82
      have g_978_83 := (hfr_g F_978 83 rfl).trans g_977_83
      have g_978_84 := (hfr_g F_978 84 rfl).trans g_977_84
      have g_978_85 := (hfr_g F_978 85 rfl).trans g_977_85
      have g_978_86 := (hfr_g F_978 86 rfl).trans g_977_86
      have g_978_87 := (hfr_g F_978 87 rfl).trans g_977_87
      omega
  · have k_977 : cL h_977 := F_977.1.trans hl
    have fr_977 := hfr_cb (hfr_refl [66, 77, 78, 79, 80, 81, 82, 70, 83, 84, 85, 86, 87] h) F_977 rfl
    have g_977_66 := (hfr_g F_977 66 rfl).trans h66
    have g_977_67 := (hfr_g F_977 67 rfl).trans h67
    have g_977_68 := (hfr_g F_977 68 rfl).trans h68
    have g_977_69 := (hfr_g F_977 69 rfl).trans h69
    have g_977_77 := (hfr_g F_977 77 rfl).trans h77
    have g_977_78 := (hfr_g F_977 78 rfl).trans h78
    have g_977_79 := (hfr_g F_977 79 rfl).trans h79
    have g_977_80 := (hfr_g F_977 80 rfl).trans h80
    have g_977_70 := (hfr_g F_977 70 rfl).trans h70
    have g_977_81 := (hfr_g F_977 81 rfl).trans h81
    have g_977_82 := (hfr_g F_977 82 rfl).trans h82
    have g_977_83 := (hfr_g F_977 83 rfl).trans h83
    have g_977_84 := (hfr_g F_977 84 rfl).trans h84
    have g_977_85 := (hfr_g F_977 85 rfl).trans h85
    have g_977_86 := (hfr_g F_977 86 rfl).trans h86
    have g_977_87 := (hfr_g F_977 87 rfl).trans h87
    refine ik_Wk 0 (pc_q := 13) (loc_q := [some (.ref 66), some (fI p)]) (st_q := [fI 0]) (h_q := h_977) (cl_q := 0) (sl_q := 0) rfl ?_
    refine ik_Wret rfl rfl ⟨_, _, rfl, rfl, ?_⟩
    refine ik_Wk 0 (pc_q := 5) (loc_q := [some (.ref 66), some (fI p), some (fI 1), some (fI what)]) (st_q := [fI 0]) (h_q := h_977) (cl_q := 0) (sl_q := 0) rfl ?_
    refine fw_if_eq rfl rfl (by decide +kernel) (by decide +kernel) (fun hc14 => ?_) (fun hc14 => absurd hc14 (by decide +kernel))
    refine fw_ld (-1000000001) rfl rfl (by decide +kernel) ?_
    exact ik_Wret rfl rfl ⟨_, _, rfl, rfl, rfl, rfl, ⟨(f 24), gt, gd, xs, ys, r1, r2, fr, (f 32), (f 33), so, sw, ro, cl, (-1000000001), rfl, g_977_77, n77, g_977_78, n78, g_977_79, n79, g_977_80, n80, g_977_81, n81, g_977_82, n82, g_977_66, g_977_70, g_977_83, n83, g_977_84, n84, g_977_85, n85, g_977_86, n86, g_977_87, n87, q7, q8, fr_977⟩⟩

theorem rp_mixed2 {h : List ik_E} {pl : Int} {f : Nat → Int} {s : Nat} {cn : List Int} {go : List Int} {ch : List Int} {gt : List Int} {gd : List Int} {xs : List Int} {ys : List Int} {ka : Int} {pa : Int} {fa : Int} {kb : Int} {pb : Int} {fb : Int} {r1 : List Int} {r2 : List Int} {p : Int} {what : Int} {fr : List Int} {so : List Int} {sw : List Int} {ro : List Int} {cl : List Int} (q0 : 0 ≤ pl ∧ pl ≤ 12) (q1 : s < 4096) (q2 : ∀ x : Int, (0 : Int) ≤ x → x < pl - 1 → 0 ≤ cn.getD x.toNat 0 ∧ cn.getD x.toNat 0 ≤ 4) (q3 : ∀ x : Int, (0 : Int) ≤ x → x < pl - 1 → 1 ≤ cn.getD x.toNat 0 ∧ ∀ j : Int, 4 * x ≤ j → j < 4 * x + cn.getD x.toNat 0 → 0 ≤ ch.getD j.toNat 0 ∧ ch.getD j.toNat 0 ≤ 100) (q4 : ∀ x : Int, (0 : Int) ≤ x → x < pl - 1 → mx_ok pl (mx_w cn go ch s x)) (q5 : (1 : Int) < pl → (0 : Int) ≤ ka ∧ ka ≤ (2 : Int)) (q6 : (1 : Int) < pl → (0 : Int) ≤ kb ∧ kb ≤ (2 : Int)) (q7 : ∀ i : Int, (0 : Int) ≤ i → i < (3 : Int) → 0 ≤ ro.getD i.toNat 0 ∧ ro.getD i.toNat 0 ≤ 2) (q8 : ∀ i : Int, (0 : Int) ≤ i → i < (3 : Int) → 0 ≤ cl.getD i.toNat 0 ∧ cl.getD i.toNat 0 ≤ 2) (q9 : (-2147483648 : Int) ≤ p ∧ p < (2147483648 : Int)) (q10 : (-2147483648 : Int) ≤ what ∧ what < (2147483648 : Int)) (h66 : cE h 66 (.inr (10, (fI pl :: .ref 67 :: .ref 68 :: .ref 69 :: fI ((s : Nat) : Int) :: .ref 70 :: .ref 71 :: fI (f 7) :: fI (f 8) :: .ref 72 :: fI (f 10) :: fI (f 11) :: fI (f 12) :: fJ (f 13) :: fI (f 14) :: fI (f 15) :: fI (f 16) :: fI (f 17) :: .ref 73 :: .ref 74 :: .ref 75 :: .ref 76 :: .ref 77 :: .ref 78 :: fI (f 24) :: .ref 79 :: .ref 80 :: .ref 81 :: .ref 82 :: .ref 83 :: .ref 84 :: .ref 85 :: fJ (f 32) :: fJ (f 33) :: .ref 86 :: .ref 87 :: fI (f 36) :: .ref 88 :: .ref 89 :: .ref 90 :: .ref 91 :: .ref 92 :: .ref 93 :: [])))) (h67 : cE h 67 (.inl (.int, fA cn))) (n67 : cn.length = (12 : Nat)) (h68 : cE h 68 (.inl (.int, fA go))) (n68 : go.length = (48 : Nat)) (h69 : cE h 69 (.inl (.int, fA ch))) (n69 : ch.length = (48 : Nat)) (h77 : cE h 77 (.inl (.int, fA gt))) (n77 : gt.length = (5 : Nat)) (h78 : cE h 78 (.inl (.int, fA gd))) (n78 : gd.length = (5 : Nat)) (h79 : cE h 79 (.inl (.long, fL xs))) (n79 : xs.length = (12 : Nat)) (h80 : cE h 80 (.inl (.long, fL ys))) (n80 : ys.length = (12 : Nat)) (h70 : cE h 70 (.inl (.int, fA [ka, pa, fa, kb, pb, fb]))) (h81 : cE h 81 (.inl (.long, fL r1))) (n81 : r1.length = (201 : Nat)) (h82 : cE h 82 (.inl (.long, fL r2))) (n82 : r2.length = (201 : Nat)) (h83 : cE h 83 (.inl (.long, fL fr))) (n83 : fr.length = (9 : Nat)) (h84 : cE h 84 (.inl (.long, fL so))) (n84 : so.length = (3 : Nat)) (h85 : cE h 85 (.inl (.long, fL sw))) (n85 : sw.length = (3 : Nat)) (h86 : cE h 86 (.inl (.int, fA ro))) (n86 : ro.length = (3 : Nat)) (h87 : cE h 87 (.inl (.int, fA cl))) (n87 : cl.length = (3 : Nat)) (hl : h.length = (94 : Nat)) : ik_F 180 [.ref 66, fI p, fI 2, fI what] h (fun rv h_q => ∃ (w' : Int) (gt' : List Int) (gd' : List Int) (xs' : List Int) (ys' : List Int) (r1' : List Int) (r2' : List Int) (fr' : List Int) (sb' : Int) (wa' : Int) (so' : List Int) (sw' : List Int) (ro' : List Int) (cl_q : List Int) (v : Int), rv = [fI v] ∧ cE h_q 77 (.inl (.int, fA gt')) ∧ gt'.length = (5 : Nat) ∧ cE h_q 78 (.inl (.int, fA gd')) ∧ gd'.length = (5 : Nat) ∧ cE h_q 79 (.inl (.long, fL xs')) ∧ xs'.length = (12 : Nat) ∧ cE h_q 80 (.inl (.long, fL ys')) ∧ ys'.length = (12 : Nat) ∧ cE h_q 81 (.inl (.long, fL r1')) ∧ r1'.length = (201 : Nat) ∧ cE h_q 82 (.inl (.long, fL r2')) ∧ r2'.length = (201 : Nat) ∧ cE h_q 66 (.inr (10, (fI pl :: .ref 67 :: .ref 68 :: .ref 69 :: fI ((s : Nat) : Int) :: .ref 70 :: .ref 71 :: fI (f 7) :: fI (f 8) :: .ref 72 :: fI (f 10) :: fI (f 11) :: fI (f 12) :: fJ (f 13) :: fI (f 14) :: fI (f 15) :: fI (f 16) :: fI (f 17) :: .ref 73 :: .ref 74 :: .ref 75 :: .ref 76 :: .ref 77 :: .ref 78 :: fI w' :: .ref 79 :: .ref 80 :: .ref 81 :: .ref 82 :: .ref 83 :: .ref 84 :: .ref 85 :: fJ sb' :: fJ wa' :: .ref 86 :: .ref 87 :: fI (f 36) :: .ref 88 :: .ref 89 :: .ref 90 :: .ref 91 :: .ref 92 :: .ref 93 :: []))) ∧ cE h_q 70 (.inl (.int, fA [ka, pa, fa, kb, pb, fb])) ∧ cE h_q 83 (.inl (.long, fL fr')) ∧ fr'.length = (9 : Nat) ∧ cE h_q 84 (.inl (.long, fL so')) ∧ so'.length = (3 : Nat) ∧ cE h_q 85 (.inl (.long, fL sw')) ∧ sw'.length = (3 : Nat) ∧ cE h_q 86 (.inl (.int, fA ro')) ∧ ro'.length = (3 : Nat) ∧ cE h_q 87 (.inl (.int, fA cl_q)) ∧ cl_q.length = (3 : Nat) ∧ (∀ i : Int, (0 : Int) ≤ i → i < (3 : Int) → 0 ≤ ro'.getD i.toNat 0 ∧ ro'.getD i.toNat 0 ≤ 2) ∧ (∀ i : Int, (0 : Int) ≤ i → i < (3 : Int) → 0 ≤ cl_q.getD i.toNat 0 ∧ cl_q.getD i.toNat 0 ≤ 2) ∧ hfr [66, 77, 78, 79, 80, 81, 82, 70, 83, 84, 85, 86, 87] h h_q) := by
  refine ik_Wk 2 (pc_q := 2) (loc_q := [some (.ref 66), some (fI p), some (fI 2), some (fI what)]) (st_q := [fI p, .ref 66]) (h_q := h) (cl_q := 0) (sl_q := 0) rfl ?_
  refine ik_Wc 131 2 0 [.ref 66, fI p] [] rfl rfl rfl (by decide +kernel) rfl rfl (fw_rec hl rfl h66 rfl (Nat.le_of_ble_eq_true rfl)) ?_
  refine ik_Wk 0 (pc_q := 0) (loc_q := [some (.ref 66), some (fI p)]) (st_q := []) (h_q := h) (cl_q := 0) (sl_q := 0) rfl ?_
  refine ik_Wk 1 (pc_q := 1) (loc_q := [some (.ref 66), some (fI p)]) (st_q := [fI p]) (h_q := h) (cl_q := 0) (sl_q := 0) rfl ?_
  refine fw_i2l rfl (by omega) (by omega) ?_
  refine fw_lc (z := 0) rfl (by decide +kernel) ?_
  refine ik_Wk 1 (pc_q := 4) (loc_q := [some (.ref 66), some (fI p)]) (st_q := [.ref 66, fJ 0, fJ p]) (h_q := h) (cl_q := 0) (sl_q := 0) rfl ?_
  refine fw_gf rfl rfl h66 rfl ?_
  refine ik_Wk 1 (pc_q := 8) (loc_q := [some (.ref 66), some (fI p)]) (st_q := [fI 2, fI pl, fJ 0, fJ p]) (h_q := h) (cl_q := 0) (sl_q := 0) rfl ?_
  refine fw_sub rfl ?_
  refine fw_i2l rfl (by omega) (by omega) ?_
  refine fw_call 127 3 3 [fJ p, fJ 0, fJ (pl - 2)] [] rfl rfl rfl (Nat.le_of_ble_eq_true rfl) rfl rfl (fw_sta hl rfl (by decide +kernel)) (cr_in (v := p) (a := 0) (b := pl - 2) (by omega) (by omega) (by omega)  hl) ?_
  rintro _ h_984 (⟨rfl, p_984_0, F_984⟩ | ⟨rfl, p_984_0, F_984⟩)
  · have k_984 : cL h_984 := F_984.1.trans hl
    have fr_984 := hfr_cb (hfr_refl [66, 77, 78, 79, 80, 81, 82, 70, 83, 84, 85, 86, 87] h) F_984 rfl
    have g_984_66 := (hfr_g F_984 66 rfl).trans h66
    have g_984_67 := (hfr_g F_984 67 rfl).trans h67
    have g_984_68 := (hfr_g F_984 68 rfl).trans h68
    have g_984_69 := (hfr_g F_984 69 rfl).trans h69
    have g_984_77 := (hfr_g F_984 77 rfl).trans h77
    have g_984_78 := (hfr_g F_984 78 rfl).trans h78
    have g_984_79 := (hfr_g F_984 79 rfl).trans h79
    have g_984_80 := (hfr_g F_984 80 rfl).trans h80
    have g_984_70 := (hfr_g F_984 70 rfl).trans h70
    have g_984_81 := (hfr_g F_984 81 rfl).trans h81
    have g_984_82 := (hfr_g F_984 82 rfl).trans h82
    have g_984_83 := (hfr_g F_984 83 rfl).trans h83
    have g_984_84 := (hfr_g F_984 84 rfl).trans h84
    have g_984_85 := (hfr_g F_984 85 rfl).trans h85
    have g_984_86 := (hfr_g F_984 86 rfl).trans h86
    have g_984_87 := (hfr_g F_984 87 rfl).trans h87
    refine ik_Wk 0 (pc_q := 13) (loc_q := [some (.ref 66), some (fI p)]) (st_q := [fI 1]) (h_q := h_984) (cl_q := 0) (sl_q := 0) rfl ?_
    refine ik_Wret rfl rfl ⟨_, _, rfl, rfl, ?_⟩
    refine ik_Wk 0 (pc_q := 5) (loc_q := [some (.ref 66), some (fI p), some (fI 2), some (fI what)]) (st_q := [fI 1]) (h_q := h_984) (cl_q := 0) (sl_q := 0) rfl ?_
    refine fw_if_eq rfl rfl (by decide +kernel) (by decide +kernel) (fun hc1 => absurd hc1 (by decide +kernel)) (fun hc1 => ?_)
    refine ik_Wk 1 (pc_q := 9) (loc_q := [some (.ref 66), some (fI p), some (fI 2), some (fI what)]) (st_q := [fI 2]) (h_q := h_984) (cl_q := 0) (sl_q := 0) rfl ?_
    refine fw_i2l rfl (by omega) (by omega) ?_
    refine fw_lc (z := 1) rfl (by decide +kernel) ?_
    refine fw_l2 3 rfl rfl (by decide +kernel) ?_
    refine fw_call 127 3 3 [fJ 2, fJ 1, fJ 3] [] rfl rfl rfl (Nat.le_of_ble_eq_true rfl) rfl rfl (fw_sta k_984 rfl (by decide +kernel)) (cr_in (v := 2) (a := 1) (b := 3) (by omega) (by omega) (by omega)  k_984) ?_
    rintro _ h_985 (⟨rfl, p_985_0, F_985⟩ | ⟨rfl, p_985_0, F_985⟩)
    · have k_985 : cL h_985 := F_985.1.trans k_984
      have fr_985 := hfr_cb fr_984 F_985 rfl
      have g_985_66 := (hfr_g F_985 66 rfl).trans g_984_66
      have g_985_67 := (hfr_g F_985 67 rfl).trans g_984_67
      have g_985_68 := (hfr_g F_985 68 rfl).trans g_984_68
      have g_985_69 := (hfr_g F_985 69 rfl).trans g_984_69
      have g_985_77 := (hfr_g F_985 77 rfl).trans g_984_77
      have g_985_78 := (hfr_g F_985 78 rfl).trans g_984_78
      have g_985_79 := (hfr_g F_985 79 rfl).trans g_984_79
      have g_985_80 := (hfr_g F_985 80 rfl).trans g_984_80
      have g_985_70 := (hfr_g F_985 70 rfl).trans g_984_70
      have g_985_81 := (hfr_g F_985 81 rfl).trans g_984_81
      have g_985_82 := (hfr_g F_985 82 rfl).trans g_984_82
      have g_985_83 := (hfr_g F_985 83 rfl).trans g_984_83
      have g_985_84 := (hfr_g F_985 84 rfl).trans g_984_84
      have g_985_85 := (hfr_g F_985 85 rfl).trans g_984_85
      have g_985_86 := (hfr_g F_985 86 rfl).trans g_984_86
      have g_985_87 := (hfr_g F_985 87 rfl).trans g_984_87
      refine ik_Wk 0 (pc_q := 17) (loc_q := [some (.ref 66), some (fI p), some (fI 2), some (fI what)]) (st_q := [fI 1]) (h_q := h_985) (cl_q := 0) (sl_q := 0) rfl ?_
      refine fw_if_eq rfl rfl (by decide +kernel) (by decide +kernel) (fun hc2 => absurd hc2 (by decide +kernel)) (fun hc2 => ?_)
      refine ik_Wk 3 (pc_q := 23) (loc_q := [some (.ref 66), some (fI p), some (fI 2), some (fI what)]) (st_q := [fI 2, fI p, .ref 66]) (h_q := h_985) (cl_q := 0) (sl_q := 0) rfl ?_
      refine fw_add rfl ?_
      refine ik_Wk 1 (pc_q := 25) (loc_q := [some (.ref 66), some (fI p), some (fI 2), some (fI what)]) (st_q := [fI 1, fI (p + 2), .ref 66]) (h_q := h_985) (cl_q := 0) (sl_q := 0) rfl ?_
      refine fw_sub rfl ?_
      refine ik_Wc 131 2 0 [.ref 66, fI ((p + 2) - 1)] [] rfl rfl rfl (by decide +kernel) rfl rfl (fw_rec k_985 rfl g_985_66 rfl (Nat.le_of_ble_eq_true rfl)) ?_
      refine ik_Wk 0 (pc_q := 0) (loc_q := [some (.ref 66), some (fI ((p + 2) - 1))]) (st_q := []) (h_q := h_985) (cl_q := 0) (sl_q := 0) rfl ?_
      refine ik_Wk 1 (pc_q := 1) (loc_q := [some (.ref 66), some (fI ((p + 2) - 1))]) (st_q := [fI ((p + 2) - 1)]) (h_q := h_985) (cl_q := 0) (sl_q := 0) rfl ?_
      refine fw_i2l rfl (by omega) (by omega) ?_
      refine fw_lc (z := 0) rfl (by decide +kernel) ?_
      refine ik_Wk 1 (pc_q := 4) (loc_q := [some (.ref 66), some (fI ((p + 2) - 1))]) (st_q := [.ref 66, fJ 0, fJ ((p + 2) - 1)]) (h_q := h_985) (cl_q := 0) (sl_q := 0) rfl ?_
      refine fw_gf rfl rfl g_985_66 rfl ?_
      refine ik_Wk 1 (pc_q := 8) (loc_q := [some (.ref 66), some (fI ((p + 2) - 1))]) (st_q := [fI 2, fI pl, fJ 0, fJ ((p + 2) - 1)]) (h_q := h_985) (cl_q := 0) (sl_q := 0) rfl ?_
      refine fw_sub rfl ?_
      refine fw_i2l rfl (by omega) (by omega) ?_
      refine fw_call 127 3 3 [fJ ((p + 2) - 1), fJ 0, fJ (pl - 2)] [] rfl rfl rfl (Nat.le_of_ble_eq_true rfl) rfl rfl (fw_sta k_985 rfl (by decide +kernel)) (cr_in (v := (p + 2) - 1) (a := 0) (b := pl - 2) (by omega) (by omega) (by omega)  k_985) ?_
      rintro _ h_986 (⟨rfl, p_986_0, F_986⟩ | ⟨rfl, p_986_0, F_986⟩)
      · have k_986 : cL h_986 := F_986.1.trans k_985
        have fr_986 := hfr_cb fr_985 F_986 rfl
        have g_986_66 := (hfr_g F_986 66 rfl).trans g_985_66
        have g_986_67 := (hfr_g F_986 67 rfl).trans g_985_67
        have g_986_68 := (hfr_g F_986 68 rfl).trans g_985_68
        have g_986_69 := (hfr_g F_986 69 rfl).trans g_985_69
        have g_986_77 := (hfr_g F_986 77 rfl).trans g_985_77
        have g_986_78 := (hfr_g F_986 78 rfl).trans g_985_78
        have g_986_79 := (hfr_g F_986 79 rfl).trans g_985_79
        have g_986_80 := (hfr_g F_986 80 rfl).trans g_985_80
        have g_986_70 := (hfr_g F_986 70 rfl).trans g_985_70
        have g_986_81 := (hfr_g F_986 81 rfl).trans g_985_81
        have g_986_82 := (hfr_g F_986 82 rfl).trans g_985_82
        have g_986_83 := (hfr_g F_986 83 rfl).trans g_985_83
        have g_986_84 := (hfr_g F_986 84 rfl).trans g_985_84
        have g_986_85 := (hfr_g F_986 85 rfl).trans g_985_85
        have g_986_86 := (hfr_g F_986 86 rfl).trans g_985_86
        have g_986_87 := (hfr_g F_986 87 rfl).trans g_985_87
        refine ik_Wk 0 (pc_q := 13) (loc_q := [some (.ref 66), some (fI ((p + 2) - 1))]) (st_q := [fI 1]) (h_q := h_986) (cl_q := 0) (sl_q := 0) rfl ?_
        refine ik_Wret rfl rfl ⟨_, _, rfl, rfl, ?_⟩
        refine ik_Wk 0 (pc_q := 29) (loc_q := [some (.ref 66), some (fI p), some (fI 2), some (fI what)]) (st_q := [fI 1]) (h_q := h_986) (cl_q := 0) (sl_q := 0) rfl ?_
        refine fw_if_ne rfl rfl (by decide +kernel) (by decide +kernel) (fun hc3 => absurd hc3 (by decide +kernel)) (fun hc3 => ?_)
        refine ik_Wk 1 (pc_q := 36) (loc_q := [some (.ref 66), some (fI p), some (fI 2), some (fI what)]) (st_q := [fI 2]) (h_q := h_986) (cl_q := 0) (sl_q := 0) rfl ?_
        refine fw_i2l rfl (by omega) (by omega) ?_
        refine fw_lc (z := 1) rfl (by decide +kernel) ?_
        refine fw_l2 3 rfl rfl (by decide +kernel) ?_
        refine fw_call 127 3 3 [fJ 2, fJ 1, fJ 3] [] rfl rfl rfl (Nat.le_of_ble_eq_true rfl) rfl rfl (fw_sta k_986 rfl (by decide +kernel)) (cr_in (v := 2) (a := 1) (b := 3) (by omega) (by omega) (by omega)  k_986) ?_
        rintro _ h_987 (⟨rfl, p_987_0, F_987⟩ | ⟨rfl, p_987_0, F_987⟩)
        · have k_987 : cL h_987 := F_987.1.trans k_986
          have fr_987 := hfr_cb fr_986 F_987 rfl
          have g_987_66 := (hfr_g F_987 66 rfl).trans g_986_66
          have g_987_67 := (hfr_g F_987 67 rfl).trans g_986_67
          have g_987_68 := (hfr_g F_987 68 rfl).trans g_986_68
          have g_987_69 := (hfr_g F_987 69 rfl).trans g_986_69
          have g_987_77 := (hfr_g F_987 77 rfl).trans g_986_77
          have g_987_78 := (hfr_g F_987 78 rfl).trans g_986_78
          have g_987_79 := (hfr_g F_987 79 rfl).trans g_986_79
          have g_987_80 := (hfr_g F_987 80 rfl).trans g_986_80
          have g_987_70 := (hfr_g F_987 70 rfl).trans g_986_70
          have g_987_81 := (hfr_g F_987 81 rfl).trans g_986_81
          have g_987_82 := (hfr_g F_987 82 rfl).trans g_986_82
          have g_987_83 := (hfr_g F_987 83 rfl).trans g_986_83
          have g_987_84 := (hfr_g F_987 84 rfl).trans g_986_84
          have g_987_85 := (hfr_g F_987 85 rfl).trans g_986_85
          have g_987_86 := (hfr_g F_987 86 rfl).trans g_986_86
          have g_987_87 := (hfr_g F_987 87 rfl).trans g_986_87
          refine ik_Wk 0 (pc_q := 44) (loc_q := [some (.ref 66), some (fI p), some (fI 2), some (fI what)]) (st_q := [fI 1]) (h_q := h_987) (cl_q := 0) (sl_q := 0) rfl ?_
          refine fw_if_eq rfl rfl (by decide +kernel) (by decide +kernel) (fun hc4 => absurd hc4 (by decide +kernel)) (fun hc4 => ?_)
          refine ik_Wk 1 (pc_q := 48) (loc_q := [some (.ref 66), some (fI p), some (fI 2), some (fI what)]) (st_q := [fI what]) (h_q := h_987) (cl_q := 0) (sl_q := 0) rfl ?_
          refine fw_i2l rfl (by omega) (by omega) ?_
          refine fw_lc (z := 0) rfl (by decide +kernel) ?_
          refine fw_l2 6 rfl rfl (by decide +kernel) ?_
          refine fw_call 127 3 3 [fJ what, fJ 0, fJ 6] [] rfl rfl rfl (Nat.le_of_ble_eq_true rfl) rfl rfl (fw_sta k_987 rfl (by decide +kernel)) (cr_in (v := what) (a := 0) (b := 6) (by omega) (by omega) (by omega)  k_987) ?_
          rintro _ h_988 (⟨rfl, p_988_0, F_988⟩ | ⟨rfl, p_988_0, F_988⟩)
          · have k_988 : cL h_988 := F_988.1.trans k_987
            have fr_988 := hfr_cb fr_987 F_988 rfl
            have g_988_66 := (hfr_g F_988 66 rfl).trans g_987_66
            have g_988_67 := (hfr_g F_988 67 rfl).trans g_987_67
            have g_988_68 := (hfr_g F_988 68 rfl).trans g_987_68
            have g_988_69 := (hfr_g F_988 69 rfl).trans g_987_69
            have g_988_77 := (hfr_g F_988 77 rfl).trans g_987_77
            have g_988_78 := (hfr_g F_988 78 rfl).trans g_987_78
            have g_988_79 := (hfr_g F_988 79 rfl).trans g_987_79
            have g_988_80 := (hfr_g F_988 80 rfl).trans g_987_80
            have g_988_70 := (hfr_g F_988 70 rfl).trans g_987_70
            have g_988_81 := (hfr_g F_988 81 rfl).trans g_987_81
            have g_988_82 := (hfr_g F_988 82 rfl).trans g_987_82
            have g_988_83 := (hfr_g F_988 83 rfl).trans g_987_83
            have g_988_84 := (hfr_g F_988 84 rfl).trans g_987_84
            have g_988_85 := (hfr_g F_988 85 rfl).trans g_987_85
            have g_988_86 := (hfr_g F_988 86 rfl).trans g_987_86
            have g_988_87 := (hfr_g F_988 87 rfl).trans g_987_87
            refine ik_Wk 0 (pc_q := 56) (loc_q := [some (.ref 66), some (fI p), some (fI 2), some (fI what)]) (st_q := [fI 1]) (h_q := h_988) (cl_q := 0) (sl_q := 0) rfl ?_
            refine fw_if_ne rfl rfl (by decide +kernel) (by decide +kernel) (fun hc5 => absurd hc5 (by decide +kernel)) (fun hc5 => ?_)
            refine ik_Wk 3 (pc_q := 65) (loc_q := [some (.ref 66), some (fI p), some (fI 2), some (fI what)]) (st_q := [fI 2, fI p, .ref 66]) (h_q := h_988) (cl_q := 0) (sl_q := 0) rfl ?_
            refine fw_call 178 3 0 [.ref 66, fI p, fI 2] [] rfl rfl rfl (Nat.le_of_ble_eq_true rfl) rfl rfl (fw_rec k_988 rfl g_988_66 rfl (Nat.le_of_ble_eq_true rfl)) (cr_fears2 (pl := pl) (f := fun j => ((0 :: 0 :: 0 :: 0 :: 0 :: 0 :: 0 :: f 7 :: f 8 :: 0 :: f 10 :: f 11 :: f 12 :: f 13 :: f 14 :: f 15 :: f 16 :: f 17 :: 0 :: 0 :: 0 :: 0 :: 0 :: 0 :: f 24 :: 0 :: 0 :: 0 :: 0 :: 0 :: 0 :: 0 :: f 32 :: f 33 :: 0 :: 0 :: f 36 :: 0 :: 0 :: 0 :: 0 :: 0 :: 0 :: []) : List Int).getD j 0) (s := s) (cn := cn) (go := go) (ch := ch) (gt := gt) (gd := gd) (xs := xs) (ys := ys) (ka := ka) (pa := pa) (fa := fa) (kb := kb) (pb := pb) (fb := fb) (r1 := r1) (r2 := r2) (p := p) (fr := fr) (by omega) (by omega) q2 q3 q4 (q5 (by omega)) (q6 (by omega)) (by omega) g_988_66 g_988_67 n67 g_988_68 n68 g_988_69 n69 g_988_77 n77 g_988_78 n78 g_988_79 n79 g_988_80 n80 g_988_70 g_988_81 n81 g_988_82 n82 g_988_83 n83 k_988) ?_
            rintro _ h_989 ⟨w'_989, gt'_989, gd'_989, xs'_989, ys'_989, r1'_989, r2'_989, fr'_989, rfl, e_989_66, e_989_77, m_989_77, e_989_78, m_989_78, e_989_79, m_989_79, e_989_80, m_989_80, e_989_81, m_989_81, e_989_82, m_989_82, e_989_70, e_989_83, m_989_83, F_989⟩
            have k_989 : cL h_989 := F_989.1.trans k_988
            have fr_989 := hfr_cb fr_988 F_989 rfl
            have g_989_67 := (hfr_g F_989 67 rfl).trans g_988_67
            have g_989_68 := (hfr_g F_989 68 rfl).trans g_988_68
            have g_989_69 := (hfr_g F_989 69 rfl).trans g_988_69
            have g_989_84 := (hfr_g F_989 84 rfl).trans g_988_84
            have g_989_85 := (hfr_g F_989 85 rfl).trans g_988_85
            have g_989_86 := (hfr_g F_989 86 rfl).trans g_988_86
            have g_989_87 := (hfr_g F_989 87 rfl).trans g_988_87
            have g_989_66 : cE h_989 66 (.inr (10, (fI pl :: .ref 67 :: .ref 68 :: .ref 69 :: fI ((s : Nat) : Int) :: .ref 70 :: .ref 71 :: fI (f 7) :: fI (f 8) :: .ref 72 :: fI (f 10) :: fI (f 11) :: fI (f 12) :: fJ (f 13) :: fI (f 14) :: fI (f 15) :: fI (f 16) :: fI (f 17) :: .ref 73 :: .ref 74 :: .ref 75 :: .ref 76 :: .ref 77 :: .ref 78 :: fI w'_989 :: .ref 79 :: .ref 80 :: .ref 81 :: .ref 82 :: .ref 83 :: .ref 84 :: .ref 85 :: fJ (f 32) :: fJ (f 33) :: .ref 86 :: .ref 87 :: fI (f 36) :: .ref 88 :: .ref 89 :: .ref 90 :: .ref 91 :: .ref 92 :: .ref 93 :: []))) := e_989_66
            have g_989_77 : cE h_989 77 (.inl (.int, fA gt'_989)) := e_989_77
            have g_989_78 : cE h_989 78 (.inl (.int, fA gd'_989)) := e_989_78
            have g_989_79 : cE h_989 79 (.inl (.long, fL xs'_989)) := e_989_79
            have g_989_80 : cE h_989 80 (.inl (.long, fL ys'_989)) := e_989_80
            have g_989_81 : cE h_989 81 (.inl (.long, fL r1'_989)) := e_989_81
            have g_989_82 : cE h_989 82 (.inl (.long, fL r2'_989)) := e_989_82
            have g_989_70 : cE h_989 70 (.inl (.int, fA [ka, pa, fa, kb, pb, fb])) := e_989_70
            have g_989_83 : cE h_989 83 (.inl (.long, fL fr'_989)) := e_989_83
            refine ik_Wk 0 (pc_q := 68) (loc_q := [some (.ref 66), some (fI p), some (fI 2), some (fI what)]) (st_q := []) (h_q := h_989) (cl_q := 0) (sl_q := 0) rfl ?_
            refine ik_Wk 2 (pc_q := 70) (loc_q := [some (.ref 66), some (fI p), some (fI 2), some (fI what)]) (st_q := [fI 2, .ref 66]) (h_q := h_989) (cl_q := 0) (sl_q := 0) rfl ?_
            refine fw_call 179 2 0 [.ref 66, fI 2] [] rfl rfl rfl (Nat.le_of_ble_eq_true rfl) rfl rfl (fw_rec k_989 rfl g_989_66 rfl (Nat.le_of_ble_eq_true rfl)) (cr_findMixed (f := fun j => ((pl :: 0 :: 0 :: 0 :: (((s : Nat) : Int)) :: 0 :: 0 :: ((f 7)) :: ((f 8)) :: 0 :: ((f 10)) :: ((f 11)) :: ((f 12)) :: ((f 13)) :: ((f 14)) :: ((f 15)) :: ((f 16)) :: ((f 17)) :: 0 :: 0 :: 0 :: 0 :: 0 :: 0 :: w'_989 :: 0 :: 0 :: 0 :: 0 :: 0 :: 0 :: 0 :: ((f 32)) :: ((f 33)) :: 0 :: 0 :: ((f 36)) :: 0 :: 0 :: 0 :: 0 :: 0 :: 0 :: []) : List Int).getD j 0) (n := 2) (fr := fr'_989) (so := so) (sw := sw) (ro := ro) (cl := cl) (by omega) q7 q8 g_989_66 g_989_83 m_989_83 g_989_84 n84 g_989_85 n85 g_989_86 n86 g_989_87 n87 k_989) ?_
            rintro _ h_990 ⟨sb'_990, wa'_990, so'_990, sw'_990, ro'_990, cl'_990, b_990, rfl, e_990_66, e_990_84, m_990_84, e_990_85, m_990_85, e_990_86, m_990_86, e_990_87, m_990_87, p_990_0, p_990_1, p_990_2, p_990_3, F_990⟩
            have k_990 : cL h_990 := F_990.1.trans k_989
            have fr_990 := hfr_cb fr_989 F_990 rfl
            have g_990_67 := (hfr_g F_990 67 rfl).trans g_989_67
            have g_990_68 := (hfr_g F_990 68 rfl).trans g_989_68
            have g_990_69 := (hfr_g F_990 69 rfl).trans g_989_69
            have g_990_77 := (hfr_g F_990 77 rfl).trans g_989_77
            have g_990_78 := (hfr_g F_990 78 rfl).trans g_989_78
            have g_990_79 := (hfr_g F_990 79 rfl).trans g_989_79
            have g_990_80 := (hfr_g F_990 80 rfl).trans g_989_80
            have g_990_70 := (hfr_g F_990 70 rfl).trans g_989_70
            have g_990_81 := (hfr_g F_990 81 rfl).trans g_989_81
            have g_990_82 := (hfr_g F_990 82 rfl).trans g_989_82
            have g_990_83 := (hfr_g F_990 83 rfl).trans g_989_83
            have g_990_66 : cE h_990 66 (.inr (10, (fI pl :: .ref 67 :: .ref 68 :: .ref 69 :: fI ((s : Nat) : Int) :: .ref 70 :: .ref 71 :: fI (f 7) :: fI (f 8) :: .ref 72 :: fI (f 10) :: fI (f 11) :: fI (f 12) :: fJ (f 13) :: fI (f 14) :: fI (f 15) :: fI (f 16) :: fI (f 17) :: .ref 73 :: .ref 74 :: .ref 75 :: .ref 76 :: .ref 77 :: .ref 78 :: fI w'_989 :: .ref 79 :: .ref 80 :: .ref 81 :: .ref 82 :: .ref 83 :: .ref 84 :: .ref 85 :: fJ sb'_990 :: fJ wa'_990 :: .ref 86 :: .ref 87 :: fI (f 36) :: .ref 88 :: .ref 89 :: .ref 90 :: .ref 91 :: .ref 92 :: .ref 93 :: []))) := e_990_66
            have g_990_84 : cE h_990 84 (.inl (.long, fL so'_990)) := e_990_84
            have g_990_85 : cE h_990 85 (.inl (.long, fL sw'_990)) := e_990_85
            have g_990_86 : cE h_990 86 (.inl (.int, fA ro'_990)) := e_990_86
            have g_990_87 : cE h_990 87 (.inl (.int, fA cl'_990)) := e_990_87
            refine ik_Wk 0 (pc_q := 73) (loc_q := [some (.ref 66), some (fI p), some (fI 2), some (fI what)]) (st_q := [fI b_990]) (h_q := h_990) (cl_q := 0) (sl_q := 0) rfl ?_
            refine fw_if_ne rfl rfl (by omega) (by omega) (fun hc6 => ?_) (fun hc6 => ?_)
            · refine fw_ld (-1000000003) rfl rfl (by decide +kernel) ?_
              exact ik_Wret rfl rfl ⟨_, _, rfl, rfl, rfl, rfl, ⟨w'_989, gt'_989, gd'_989, xs'_989, ys'_989, r1'_989, r2'_989, fr'_989, sb'_990, wa'_990, so'_990, sw'_990, ro'_990, cl'_990, (-1000000003), rfl, g_990_77, m_989_77, g_990_78, m_989_78, g_990_79, m_989_79, g_990_80, m_989_80, g_990_81, m_989_81, g_990_82, m_989_82, g_990_66, g_990_70, g_990_83, m_989_83, g_990_84, m_990_84, g_990_85, m_990_85, g_990_86, m_990_86, g_990_87, m_990_87, p_990_0, p_990_1, fr_990⟩⟩
            · refine ik_Wk 1 (pc_q := 80) (loc_q := [some (.ref 66), some (fI p), some (fI 2), some (fI what)]) (st_q := [fI what]) (h_q := h_990) (cl_q := 0) (sl_q := 0) rfl ?_
              refine fw_if_ne rfl rfl (by omega) (by omega) (fun hc7 => ?_) (fun hc7 => ?_)
              · refine ik_Wk 1 (pc_q := 84) (loc_q := [some (.ref 66), some (fI p), some (fI 2), some (fI what)]) (st_q := [.ref 66]) (h_q := h_990) (cl_q := 0) (sl_q := 0) rfl ?_
                refine fw_gf rfl rfl g_990_66 rfl ?_
                refine fw_l2 1000 rfl rfl (by decide +kernel) ?_
                refine fw_lmul rfl ?_
                refine ik_Wk 1 (pc_q := 92) (loc_q := [some (.ref 66), some (fI p), some (fI 2), some (fI what)]) (st_q := [.ref 66, fJ (wa'_990 * 1000)]) (h_q := h_990) (cl_q := 0) (sl_q := 0) rfl ?_
                refine fw_gf rfl rfl g_990_66 rfl ?_
                refine fx_ldo rfl (p_990_3 (by omega)) (fun qd8 => ?_)
                refine ik_Wk 1 (pc_q := 132) (loc_q := [some (.ref 66), some (fI p), some (fI 2), some (fI what)]) (st_q := [fJ qd8]) (h_q := h_990) (cl_q := 0) (sl_q := 0) rfl ?_
                refine fx_l2i rfl ?_
                exact ik_Wret rfl rfl ⟨_, _, rfl, rfl, rfl, rfl, ⟨w'_989, gt'_989, gd'_989, xs'_989, ys'_989, r1'_989, r2'_989, fr'_989, sb'_990, wa'_990, so'_990, sw'_990, ro'_990, cl'_990, qd8, rfl, g_990_77, m_989_77, g_990_78, m_989_78, g_990_79, m_989_79, g_990_80, m_989_80, g_990_81, m_989_81, g_990_82, m_989_82, g_990_66, g_990_70, g_990_83, m_989_83, g_990_84, m_990_84, g_990_85, m_990_85, g_990_86, m_990_86, g_990_87, m_990_87, p_990_0, p_990_1, fr_990⟩⟩
              · refine ik_Wk 2 (pc_q := 101) (loc_q := [some (.ref 66), some (fI p), some (fI 2), some (fI what)]) (st_q := [fI 4, fI what]) (h_q := h_990) (cl_q := 0) (sl_q := 0) rfl ?_
                refine fw_ic_ge rfl rfl (by omega) (by omega) (by omega) (by omega) (fun hc9 => ?_) (fun hc9 => ?_)
                · refine ik_Wk 1 (pc_q := 116) (loc_q := [some (.ref 66), some (fI p), some (fI 2), some (fI what)]) (st_q := [.ref 66]) (h_q := h_990) (cl_q := 0) (sl_q := 0) rfl ?_
                  refine fw_gf rfl rfl g_990_66 rfl ?_
                  refine ik_Wk 2 (pc_q := 121) (loc_q := [some (.ref 66), some (fI p), some (fI 2), some (fI what)]) (st_q := [fI 4, fI what, .ref 85]) (h_q := h_990) (cl_q := 0) (sl_q := 0) rfl ?_
                  refine fw_sub rfl ?_
                  refine fx_lal rfl g_990_85 (by omega) (by omega) (by omega) ?_
                  refine fw_l2 1000000 rfl rfl (by decide +kernel) ?_
                  refine fw_lmul rfl ?_
                  refine ik_Wk 1 (pc_q := 128) (loc_q := [some (.ref 66), some (fI p), some (fI 2), some (fI what)]) (st_q := [.ref 66, fJ ((sw'_990.getD (what - 4).toNat 0) * 1000000)]) (h_q := h_990) (cl_q := 0) (sl_q := 0) rfl ?_
                  refine fw_gf rfl rfl g_990_66 rfl ?_
                  refine fx_ldo rfl (p_990_3 (by omega)) (fun qd10 => ?_)
                  refine fx_l2i rfl ?_
                  exact ik_Wret rfl rfl ⟨_, _, rfl, rfl, rfl, rfl, ⟨w'_989, gt'_989, gd'_989, xs'_989, ys'_989, r1'_989, r2'_989, fr'_989, sb'_990, wa'_990, so'_990, sw'_990, ro'_990, cl'_990, qd10, rfl, g_990_77, m_989_77, g_990_78, m_989_78, g_990_79, m_989_79, g_990_80, m_989_80, g_990_81, m_989_81, g_990_82, m_989_82, g_990_66, g_990_70, g_990_83, m_989_83, g_990_84, m_990_84, g_990_85, m_990_85, g_990_86, m_990_86, g_990_87, m_990_87, p_990_0, p_990_1, fr_990⟩⟩
                · refine ik_Wk 1 (pc_q := 105) (loc_q := [some (.ref 66), some (fI p), some (fI 2), some (fI what)]) (st_q := [.ref 66]) (h_q := h_990) (cl_q := 0) (sl_q := 0) rfl ?_
                  refine fw_gf rfl rfl g_990_66 rfl ?_
                  refine ik_Wk 2 (pc_q := 110) (loc_q := [some (.ref 66), some (fI p), some (fI 2), some (fI what)]) (st_q := [fI 1, fI what, .ref 84]) (h_q := h_990) (cl_q := 0) (sl_q := 0) rfl ?_
                  refine fw_sub rfl ?_
                  refine fx_lal rfl g_990_84 (by omega) (by omega) (by omega) ?_
                  refine ik_Wk 1 (pc_q := 123) (loc_q := [some (.ref 66), some (fI p), some (fI 2), some (fI what)]) (st_q := [fJ (so'_990.getD (what - 1).toNat 0)]) (h_q := h_990) (cl_q := 0) (sl_q := 0) rfl ?_
                  refine fw_l2 1000000 rfl rfl (by decide +kernel) ?_
                  refine fw_lmul rfl ?_
                  refine ik_Wk 1 (pc_q := 128) (loc_q := [some (.ref 66), some (fI p), some (fI 2), some (fI what)]) (st_q := [.ref 66, fJ ((so'_990.getD (what - 1).toNat 0) * 1000000)]) (h_q := h_990) (cl_q := 0) (sl_q := 0) rfl ?_
                  refine fw_gf rfl rfl g_990_66 rfl ?_
                  refine fx_ldo rfl (p_990_3 (by omega)) (fun qd11 => ?_)
                  refine fx_l2i rfl ?_
                  exact ik_Wret rfl rfl ⟨_, _, rfl, rfl, rfl, rfl, ⟨w'_989, gt'_989, gd'_989, xs'_989, ys'_989, r1'_989, r2'_989, fr'_989, sb'_990, wa'_990, so'_990, sw'_990, ro'_990, cl'_990, qd11, rfl, g_990_77, m_989_77, g_990_78, m_989_78, g_990_79, m_989_79, g_990_80, m_989_80, g_990_81, m_989_81, g_990_82, m_989_82, g_990_66, g_990_70, g_990_83, m_989_83, g_990_84, m_990_84, g_990_85, m_990_85, g_990_86, m_990_86, g_990_87, m_990_87, p_990_0, p_990_1, fr_990⟩⟩
          · have k_988 : cL h_988 := F_988.1.trans k_987
            have fr_988 := hfr_cb fr_987 F_988 rfl
            have g_988_66 := (hfr_g F_988 66 rfl).trans g_987_66
            have g_988_67 := (hfr_g F_988 67 rfl).trans g_987_67
            have g_988_68 := (hfr_g F_988 68 rfl).trans g_987_68
            have g_988_69 := (hfr_g F_988 69 rfl).trans g_987_69
            have g_988_77 := (hfr_g F_988 77 rfl).trans g_987_77
            have g_988_78 := (hfr_g F_988 78 rfl).trans g_987_78
            have g_988_79 := (hfr_g F_988 79 rfl).trans g_987_79
            have g_988_80 := (hfr_g F_988 80 rfl).trans g_987_80
            have g_988_70 := (hfr_g F_988 70 rfl).trans g_987_70
            have g_988_81 := (hfr_g F_988 81 rfl).trans g_987_81
            have g_988_82 := (hfr_g F_988 82 rfl).trans g_987_82
            have g_988_83 := (hfr_g F_988 83 rfl).trans g_987_83
            have g_988_84 := (hfr_g F_988 84 rfl).trans g_987_84
            have g_988_85 := (hfr_g F_988 85 rfl).trans g_987_85
            have g_988_86 := (hfr_g F_988 86 rfl).trans g_987_86
            have g_988_87 := (hfr_g F_988 87 rfl).trans g_987_87
            refine ik_Wk 0 (pc_q := 56) (loc_q := [some (.ref 66), some (fI p), some (fI 2), some (fI what)]) (st_q := [fI 0]) (h_q := h_988) (cl_q := 0) (sl_q := 0) rfl ?_
            refine fw_if_ne rfl rfl (by decide +kernel) (by decide +kernel) (fun hc12 => ?_) (fun hc12 => absurd hc12 (by decide +kernel))
            refine fw_ld (-1000000002) rfl rfl (by decide +kernel) ?_
            exact ik_Wret rfl rfl ⟨_, _, rfl, rfl, rfl, rfl, ⟨(f 24), gt, gd, xs, ys, r1, r2, fr, (f 32), (f 33), so, sw, ro, cl, (-1000000002), rfl, g_988_77, n77, g_988_78, n78, g_988_79, n79, g_988_80, n80, g_988_81, n81, g_988_82, n82, g_988_66, g_988_70, g_988_83, n83, g_988_84, n84, g_988_85, n85, g_988_86, n86, g_988_87, n87, q7, q8, fr_988⟩⟩
        · have k_987 : cL h_987 := F_987.1.trans k_986
          have fr_987 := hfr_cb fr_986 F_987 rfl
          have g_987_66 := (hfr_g F_987 66 rfl).trans g_986_66
          have g_987_67 := (hfr_g F_987 67 rfl).trans g_986_67
          have g_987_68 := (hfr_g F_987 68 rfl).trans g_986_68
          have g_987_69 := (hfr_g F_987 69 rfl).trans g_986_69
          have g_987_77 := (hfr_g F_987 77 rfl).trans g_986_77
          have g_987_78 := (hfr_g F_987 78 rfl).trans g_986_78
          have g_987_79 := (hfr_g F_987 79 rfl).trans g_986_79
          have g_987_80 := (hfr_g F_987 80 rfl).trans g_986_80
          have g_987_70 := (hfr_g F_987 70 rfl).trans g_986_70
          have g_987_81 := (hfr_g F_987 81 rfl).trans g_986_81
          have g_987_82 := (hfr_g F_987 82 rfl).trans g_986_82
          have g_987_83 := (hfr_g F_987 83 rfl).trans g_986_83
          have g_987_84 := (hfr_g F_987 84 rfl).trans g_986_84
          have g_987_85 := (hfr_g F_987 85 rfl).trans g_986_85
          have g_987_86 := (hfr_g F_987 86 rfl).trans g_986_86
          have g_987_87 := (hfr_g F_987 87 rfl).trans g_986_87
          omega
      · have k_986 : cL h_986 := F_986.1.trans k_985
        have fr_986 := hfr_cb fr_985 F_986 rfl
        have g_986_66 := (hfr_g F_986 66 rfl).trans g_985_66
        have g_986_67 := (hfr_g F_986 67 rfl).trans g_985_67
        have g_986_68 := (hfr_g F_986 68 rfl).trans g_985_68
        have g_986_69 := (hfr_g F_986 69 rfl).trans g_985_69
        have g_986_77 := (hfr_g F_986 77 rfl).trans g_985_77
        have g_986_78 := (hfr_g F_986 78 rfl).trans g_985_78
        have g_986_79 := (hfr_g F_986 79 rfl).trans g_985_79
        have g_986_80 := (hfr_g F_986 80 rfl).trans g_985_80
        have g_986_70 := (hfr_g F_986 70 rfl).trans g_985_70
        have g_986_81 := (hfr_g F_986 81 rfl).trans g_985_81
        have g_986_82 := (hfr_g F_986 82 rfl).trans g_985_82
        have g_986_83 := (hfr_g F_986 83 rfl).trans g_985_83
        have g_986_84 := (hfr_g F_986 84 rfl).trans g_985_84
        have g_986_85 := (hfr_g F_986 85 rfl).trans g_985_85
        have g_986_86 := (hfr_g F_986 86 rfl).trans g_985_86
        have g_986_87 := (hfr_g F_986 87 rfl).trans g_985_87
        refine ik_Wk 0 (pc_q := 13) (loc_q := [some (.ref 66), some (fI ((p + 2) - 1))]) (st_q := [fI 0]) (h_q := h_986) (cl_q := 0) (sl_q := 0) rfl ?_
        refine ik_Wret rfl rfl ⟨_, _, rfl, rfl, ?_⟩
        refine ik_Wk 0 (pc_q := 29) (loc_q := [some (.ref 66), some (fI p), some (fI 2), some (fI what)]) (st_q := [fI 0]) (h_q := h_986) (cl_q := 0) (sl_q := 0) rfl ?_
        refine fw_if_ne rfl rfl (by decide +kernel) (by decide +kernel) (fun hc13 => ?_) (fun hc13 => absurd hc13 (by decide +kernel))
        refine fw_ld (-1000000001) rfl rfl (by decide +kernel) ?_
        exact ik_Wret rfl rfl ⟨_, _, rfl, rfl, rfl, rfl, ⟨(f 24), gt, gd, xs, ys, r1, r2, fr, (f 32), (f 33), so, sw, ro, cl, (-1000000001), rfl, g_986_77, n77, g_986_78, n78, g_986_79, n79, g_986_80, n80, g_986_81, n81, g_986_82, n82, g_986_66, g_986_70, g_986_83, n83, g_986_84, n84, g_986_85, n85, g_986_86, n86, g_986_87, n87, q7, q8, fr_986⟩⟩
    · have k_985 : cL h_985 := F_985.1.trans k_984
      have fr_985 := hfr_cb fr_984 F_985 rfl
      have g_985_66 := (hfr_g F_985 66 rfl).trans g_984_66
      have g_985_67 := (hfr_g F_985 67 rfl).trans g_984_67
      have g_985_68 := (hfr_g F_985 68 rfl).trans g_984_68
      have g_985_69 := (hfr_g F_985 69 rfl).trans g_984_69
      have g_985_77 := (hfr_g F_985 77 rfl).trans g_984_77
      have g_985_78 := (hfr_g F_985 78 rfl).trans g_984_78
      have g_985_79 := (hfr_g F_985 79 rfl).trans g_984_79
      have g_985_80 := (hfr_g F_985 80 rfl).trans g_984_80
      have g_985_70 := (hfr_g F_985 70 rfl).trans g_984_70
      have g_985_81 := (hfr_g F_985 81 rfl).trans g_984_81
      have g_985_82 := (hfr_g F_985 82 rfl).trans g_984_82
      have g_985_83 := (hfr_g F_985 83 rfl).trans g_984_83
      have g_985_84 := (hfr_g F_985 84 rfl).trans g_984_84
      have g_985_85 := (hfr_g F_985 85 rfl).trans g_984_85
      have g_985_86 := (hfr_g F_985 86 rfl).trans g_984_86
      have g_985_87 := (hfr_g F_985 87 rfl).trans g_984_87
      omega
  · have k_984 : cL h_984 := F_984.1.trans hl
    have fr_984 := hfr_cb (hfr_refl [66, 77, 78, 79, 80, 81, 82, 70, 83, 84, 85, 86, 87] h) F_984 rfl
    have g_984_66 := (hfr_g F_984 66 rfl).trans h66
    have g_984_67 := (hfr_g F_984 67 rfl).trans h67
    have g_984_68 := (hfr_g F_984 68 rfl).trans h68
    have g_984_69 := (hfr_g F_984 69 rfl).trans h69
    have g_984_77 := (hfr_g F_984 77 rfl).trans h77
    have g_984_78 := (hfr_g F_984 78 rfl).trans h78
    have g_984_79 := (hfr_g F_984 79 rfl).trans h79
    have g_984_80 := (hfr_g F_984 80 rfl).trans h80
    have g_984_70 := (hfr_g F_984 70 rfl).trans h70
    have g_984_81 := (hfr_g F_984 81 rfl).trans h81
    have g_984_82 := (hfr_g F_984 82 rfl).trans h82
    have g_984_83 := (hfr_g F_984 83 rfl).trans h83
    have g_984_84 := (hfr_g F_984 84 rfl).trans h84
    have g_984_85 := (hfr_g F_984 85 rfl).trans h85
    have g_984_86 := (hfr_g F_984 86 rfl).trans h86
    have g_984_87 := (hfr_g F_984 87 rfl).trans h87
    refine ik_Wk 0 (pc_q := 13) (loc_q := [some (.ref 66), some (fI p)]) (st_q := [fI 0]) (h_q := h_984) (cl_q := 0) (sl_q := 0) rfl ?_
    refine ik_Wret rfl rfl ⟨_, _, rfl, rfl, ?_⟩
    refine ik_Wk 0 (pc_q := 5) (loc_q := [some (.ref 66), some (fI p), some (fI 2), some (fI what)]) (st_q := [fI 0]) (h_q := h_984) (cl_q := 0) (sl_q := 0) rfl ?_
    refine fw_if_eq rfl rfl (by decide +kernel) (by decide +kernel) (fun hc14 => ?_) (fun hc14 => absurd hc14 (by decide +kernel))
    refine fw_ld (-1000000001) rfl rfl (by decide +kernel) ?_
    exact ik_Wret rfl rfl ⟨_, _, rfl, rfl, rfl, rfl, ⟨(f 24), gt, gd, xs, ys, r1, r2, fr, (f 32), (f 33), so, sw, ro, cl, (-1000000001), rfl, g_984_77, n77, g_984_78, n78, g_984_79, n79, g_984_80, n80, g_984_81, n81, g_984_82, n82, g_984_66, g_984_70, g_984_83, n83, g_984_84, n84, g_984_85, n85, g_984_86, n86, g_984_87, n87, q7, q8, fr_984⟩⟩

theorem rp_mixed3 {h : List ik_E} {pl : Int} {f : Nat → Int} {s : Nat} {cn : List Int} {go : List Int} {ch : List Int} {gt : List Int} {gd : List Int} {xs : List Int} {ys : List Int} {ka : Int} {pa : Int} {fa : Int} {kb : Int} {pb : Int} {fb : Int} {r1 : List Int} {r2 : List Int} {p : Int} {what : Int} {fr : List Int} {so : List Int} {sw : List Int} {ro : List Int} {cl : List Int} (q0 : 0 ≤ pl ∧ pl ≤ 12) (q1 : s < 4096) (q2 : ∀ x : Int, (0 : Int) ≤ x → x < pl - 1 → 0 ≤ cn.getD x.toNat 0 ∧ cn.getD x.toNat 0 ≤ 4) (q3 : ∀ x : Int, (0 : Int) ≤ x → x < pl - 1 → 1 ≤ cn.getD x.toNat 0 ∧ ∀ j : Int, 4 * x ≤ j → j < 4 * x + cn.getD x.toNat 0 → 0 ≤ ch.getD j.toNat 0 ∧ ch.getD j.toNat 0 ≤ 100) (q4 : ∀ x : Int, (0 : Int) ≤ x → x < pl - 1 → mx_ok pl (mx_w cn go ch s x)) (q5 : (1 : Int) < pl → (0 : Int) ≤ ka ∧ ka ≤ (2 : Int)) (q6 : (1 : Int) < pl → (0 : Int) ≤ kb ∧ kb ≤ (2 : Int)) (q7 : ∀ i : Int, (0 : Int) ≤ i → i < (3 : Int) → 0 ≤ ro.getD i.toNat 0 ∧ ro.getD i.toNat 0 ≤ 2) (q8 : ∀ i : Int, (0 : Int) ≤ i → i < (3 : Int) → 0 ≤ cl.getD i.toNat 0 ∧ cl.getD i.toNat 0 ≤ 2) (q9 : (-2147483648 : Int) ≤ p ∧ p < (2147483648 : Int)) (q10 : (-2147483648 : Int) ≤ what ∧ what < (2147483648 : Int)) (h66 : cE h 66 (.inr (10, (fI pl :: .ref 67 :: .ref 68 :: .ref 69 :: fI ((s : Nat) : Int) :: .ref 70 :: .ref 71 :: fI (f 7) :: fI (f 8) :: .ref 72 :: fI (f 10) :: fI (f 11) :: fI (f 12) :: fJ (f 13) :: fI (f 14) :: fI (f 15) :: fI (f 16) :: fI (f 17) :: .ref 73 :: .ref 74 :: .ref 75 :: .ref 76 :: .ref 77 :: .ref 78 :: fI (f 24) :: .ref 79 :: .ref 80 :: .ref 81 :: .ref 82 :: .ref 83 :: .ref 84 :: .ref 85 :: fJ (f 32) :: fJ (f 33) :: .ref 86 :: .ref 87 :: fI (f 36) :: .ref 88 :: .ref 89 :: .ref 90 :: .ref 91 :: .ref 92 :: .ref 93 :: [])))) (h67 : cE h 67 (.inl (.int, fA cn))) (n67 : cn.length = (12 : Nat)) (h68 : cE h 68 (.inl (.int, fA go))) (n68 : go.length = (48 : Nat)) (h69 : cE h 69 (.inl (.int, fA ch))) (n69 : ch.length = (48 : Nat)) (h77 : cE h 77 (.inl (.int, fA gt))) (n77 : gt.length = (5 : Nat)) (h78 : cE h 78 (.inl (.int, fA gd))) (n78 : gd.length = (5 : Nat)) (h79 : cE h 79 (.inl (.long, fL xs))) (n79 : xs.length = (12 : Nat)) (h80 : cE h 80 (.inl (.long, fL ys))) (n80 : ys.length = (12 : Nat)) (h70 : cE h 70 (.inl (.int, fA [ka, pa, fa, kb, pb, fb]))) (h81 : cE h 81 (.inl (.long, fL r1))) (n81 : r1.length = (201 : Nat)) (h82 : cE h 82 (.inl (.long, fL r2))) (n82 : r2.length = (201 : Nat)) (h83 : cE h 83 (.inl (.long, fL fr))) (n83 : fr.length = (9 : Nat)) (h84 : cE h 84 (.inl (.long, fL so))) (n84 : so.length = (3 : Nat)) (h85 : cE h 85 (.inl (.long, fL sw))) (n85 : sw.length = (3 : Nat)) (h86 : cE h 86 (.inl (.int, fA ro))) (n86 : ro.length = (3 : Nat)) (h87 : cE h 87 (.inl (.int, fA cl))) (n87 : cl.length = (3 : Nat)) (hl : h.length = (94 : Nat)) : ik_F 180 [.ref 66, fI p, fI 3, fI what] h (fun rv h_q => ∃ (w' : Int) (gt' : List Int) (gd' : List Int) (xs' : List Int) (ys' : List Int) (r1' : List Int) (r2' : List Int) (fr' : List Int) (sb' : Int) (wa' : Int) (so' : List Int) (sw' : List Int) (ro' : List Int) (cl_q : List Int) (v : Int), rv = [fI v] ∧ cE h_q 77 (.inl (.int, fA gt')) ∧ gt'.length = (5 : Nat) ∧ cE h_q 78 (.inl (.int, fA gd')) ∧ gd'.length = (5 : Nat) ∧ cE h_q 79 (.inl (.long, fL xs')) ∧ xs'.length = (12 : Nat) ∧ cE h_q 80 (.inl (.long, fL ys')) ∧ ys'.length = (12 : Nat) ∧ cE h_q 81 (.inl (.long, fL r1')) ∧ r1'.length = (201 : Nat) ∧ cE h_q 82 (.inl (.long, fL r2')) ∧ r2'.length = (201 : Nat) ∧ cE h_q 66 (.inr (10, (fI pl :: .ref 67 :: .ref 68 :: .ref 69 :: fI ((s : Nat) : Int) :: .ref 70 :: .ref 71 :: fI (f 7) :: fI (f 8) :: .ref 72 :: fI (f 10) :: fI (f 11) :: fI (f 12) :: fJ (f 13) :: fI (f 14) :: fI (f 15) :: fI (f 16) :: fI (f 17) :: .ref 73 :: .ref 74 :: .ref 75 :: .ref 76 :: .ref 77 :: .ref 78 :: fI w' :: .ref 79 :: .ref 80 :: .ref 81 :: .ref 82 :: .ref 83 :: .ref 84 :: .ref 85 :: fJ sb' :: fJ wa' :: .ref 86 :: .ref 87 :: fI (f 36) :: .ref 88 :: .ref 89 :: .ref 90 :: .ref 91 :: .ref 92 :: .ref 93 :: []))) ∧ cE h_q 70 (.inl (.int, fA [ka, pa, fa, kb, pb, fb])) ∧ cE h_q 83 (.inl (.long, fL fr')) ∧ fr'.length = (9 : Nat) ∧ cE h_q 84 (.inl (.long, fL so')) ∧ so'.length = (3 : Nat) ∧ cE h_q 85 (.inl (.long, fL sw')) ∧ sw'.length = (3 : Nat) ∧ cE h_q 86 (.inl (.int, fA ro')) ∧ ro'.length = (3 : Nat) ∧ cE h_q 87 (.inl (.int, fA cl_q)) ∧ cl_q.length = (3 : Nat) ∧ (∀ i : Int, (0 : Int) ≤ i → i < (3 : Int) → 0 ≤ ro'.getD i.toNat 0 ∧ ro'.getD i.toNat 0 ≤ 2) ∧ (∀ i : Int, (0 : Int) ≤ i → i < (3 : Int) → 0 ≤ cl_q.getD i.toNat 0 ∧ cl_q.getD i.toNat 0 ≤ 2) ∧ hfr [66, 77, 78, 79, 80, 81, 82, 70, 83, 84, 85, 86, 87] h h_q) := by
  refine ik_Wk 2 (pc_q := 2) (loc_q := [some (.ref 66), some (fI p), some (fI 3), some (fI what)]) (st_q := [fI p, .ref 66]) (h_q := h) (cl_q := 0) (sl_q := 0) rfl ?_
  refine ik_Wc 131 2 0 [.ref 66, fI p] [] rfl rfl rfl (by decide +kernel) rfl rfl (fw_rec hl rfl h66 rfl (Nat.le_of_ble_eq_true rfl)) ?_
  refine ik_Wk 0 (pc_q := 0) (loc_q := [some (.ref 66), some (fI p)]) (st_q := []) (h_q := h) (cl_q := 0) (sl_q := 0) rfl ?_
  refine ik_Wk 1 (pc_q := 1) (loc_q := [some (.ref 66), some (fI p)]) (st_q := [fI p]) (h_q := h) (cl_q := 0) (sl_q := 0) rfl ?_
  refine fw_i2l rfl (by omega) (by omega) ?_
  refine fw_lc (z := 0) rfl (by decide +kernel) ?_
  refine ik_Wk 1 (pc_q := 4) (loc_q := [some (.ref 66), some (fI p)]) (st_q := [.ref 66, fJ 0, fJ p]) (h_q := h) (cl_q := 0) (sl_q := 0) rfl ?_
  refine fw_gf rfl rfl h66 rfl ?_
  refine ik_Wk 1 (pc_q := 8) (loc_q := [some (.ref 66), some (fI p)]) (st_q := [fI 2, fI pl, fJ 0, fJ p]) (h_q := h) (cl_q := 0) (sl_q := 0) rfl ?_
  refine fw_sub rfl ?_
  refine fw_i2l rfl (by omega) (by omega) ?_
  refine fw_call 127 3 3 [fJ p, fJ 0, fJ (pl - 2)] [] rfl rfl rfl (Nat.le_of_ble_eq_true rfl) rfl rfl (fw_sta hl rfl (by decide +kernel)) (cr_in (v := p) (a := 0) (b := pl - 2) (by omega) (by omega) (by omega)  hl) ?_
  rintro _ h_991 (⟨rfl, p_991_0, F_991⟩ | ⟨rfl, p_991_0, F_991⟩)
  · have k_991 : cL h_991 := F_991.1.trans hl
    have fr_991 := hfr_cb (hfr_refl [66, 77, 78, 79, 80, 81, 82, 70, 83, 84, 85, 86, 87] h) F_991 rfl
    have g_991_66 := (hfr_g F_991 66 rfl).trans h66
    have g_991_67 := (hfr_g F_991 67 rfl).trans h67
    have g_991_68 := (hfr_g F_991 68 rfl).trans h68
    have g_991_69 := (hfr_g F_991 69 rfl).trans h69
    have g_991_77 := (hfr_g F_991 77 rfl).trans h77
    have g_991_78 := (hfr_g F_991 78 rfl).trans h78
    have g_991_79 := (hfr_g F_991 79 rfl).trans h79
    have g_991_80 := (hfr_g F_991 80 rfl).trans h80
    have g_991_70 := (hfr_g F_991 70 rfl).trans h70
    have g_991_81 := (hfr_g F_991 81 rfl).trans h81
    have g_991_82 := (hfr_g F_991 82 rfl).trans h82
    have g_991_83 := (hfr_g F_991 83 rfl).trans h83
    have g_991_84 := (hfr_g F_991 84 rfl).trans h84
    have g_991_85 := (hfr_g F_991 85 rfl).trans h85
    have g_991_86 := (hfr_g F_991 86 rfl).trans h86
    have g_991_87 := (hfr_g F_991 87 rfl).trans h87
    refine ik_Wk 0 (pc_q := 13) (loc_q := [some (.ref 66), some (fI p)]) (st_q := [fI 1]) (h_q := h_991) (cl_q := 0) (sl_q := 0) rfl ?_
    refine ik_Wret rfl rfl ⟨_, _, rfl, rfl, ?_⟩
    refine ik_Wk 0 (pc_q := 5) (loc_q := [some (.ref 66), some (fI p), some (fI 3), some (fI what)]) (st_q := [fI 1]) (h_q := h_991) (cl_q := 0) (sl_q := 0) rfl ?_
    refine fw_if_eq rfl rfl (by decide +kernel) (by decide +kernel) (fun hc1 => absurd hc1 (by decide +kernel)) (fun hc1 => ?_)
    refine ik_Wk 1 (pc_q := 9) (loc_q := [some (.ref 66), some (fI p), some (fI 3), some (fI what)]) (st_q := [fI 3]) (h_q := h_991) (cl_q := 0) (sl_q := 0) rfl ?_
    refine fw_i2l rfl (by omega) (by omega) ?_
    refine fw_lc (z := 1) rfl (by decide +kernel) ?_
    refine fw_l2 3 rfl rfl (by decide +kernel) ?_
    refine fw_call 127 3 3 [fJ 3, fJ 1, fJ 3] [] rfl rfl rfl (Nat.le_of_ble_eq_true rfl) rfl rfl (fw_sta k_991 rfl (by decide +kernel)) (cr_in (v := 3) (a := 1) (b := 3) (by omega) (by omega) (by omega)  k_991) ?_
    rintro _ h_992 (⟨rfl, p_992_0, F_992⟩ | ⟨rfl, p_992_0, F_992⟩)
    · have k_992 : cL h_992 := F_992.1.trans k_991
      have fr_992 := hfr_cb fr_991 F_992 rfl
      have g_992_66 := (hfr_g F_992 66 rfl).trans g_991_66
      have g_992_67 := (hfr_g F_992 67 rfl).trans g_991_67
      have g_992_68 := (hfr_g F_992 68 rfl).trans g_991_68
      have g_992_69 := (hfr_g F_992 69 rfl).trans g_991_69
      have g_992_77 := (hfr_g F_992 77 rfl).trans g_991_77
      have g_992_78 := (hfr_g F_992 78 rfl).trans g_991_78
      have g_992_79 := (hfr_g F_992 79 rfl).trans g_991_79
      have g_992_80 := (hfr_g F_992 80 rfl).trans g_991_80
      have g_992_70 := (hfr_g F_992 70 rfl).trans g_991_70
      have g_992_81 := (hfr_g F_992 81 rfl).trans g_991_81
      have g_992_82 := (hfr_g F_992 82 rfl).trans g_991_82
      have g_992_83 := (hfr_g F_992 83 rfl).trans g_991_83
      have g_992_84 := (hfr_g F_992 84 rfl).trans g_991_84
      have g_992_85 := (hfr_g F_992 85 rfl).trans g_991_85
      have g_992_86 := (hfr_g F_992 86 rfl).trans g_991_86
      have g_992_87 := (hfr_g F_992 87 rfl).trans g_991_87
      refine ik_Wk 0 (pc_q := 17) (loc_q := [some (.ref 66), some (fI p), some (fI 3), some (fI what)]) (st_q := [fI 1]) (h_q := h_992) (cl_q := 0) (sl_q := 0) rfl ?_
      refine fw_if_eq rfl rfl (by decide +kernel) (by decide +kernel) (fun hc2 => absurd hc2 (by decide +kernel)) (fun hc2 => ?_)
      refine ik_Wk 3 (pc_q := 23) (loc_q := [some (.ref 66), some (fI p), some (fI 3), some (fI what)]) (st_q := [fI 3, fI p, .ref 66]) (h_q := h_992) (cl_q := 0) (sl_q := 0) rfl ?_
      refine fw_add rfl ?_
      refine ik_Wk 1 (pc_q := 25) (loc_q := [some (.ref 66), some (fI p), some (fI 3), some (fI what)]) (st_q := [fI 1, fI (p + 3), .ref 66]) (h_q := h_992) (cl_q := 0) (sl_q := 0) rfl ?_
      refine fw_sub rfl ?_
      refine ik_Wc 131 2 0 [.ref 66, fI ((p + 3) - 1)] [] rfl rfl rfl (by decide +kernel) rfl rfl (fw_rec k_992 rfl g_992_66 rfl (Nat.le_of_ble_eq_true rfl)) ?_
      refine ik_Wk 0 (pc_q := 0) (loc_q := [some (.ref 66), some (fI ((p + 3) - 1))]) (st_q := []) (h_q := h_992) (cl_q := 0) (sl_q := 0) rfl ?_
      refine ik_Wk 1 (pc_q := 1) (loc_q := [some (.ref 66), some (fI ((p + 3) - 1))]) (st_q := [fI ((p + 3) - 1)]) (h_q := h_992) (cl_q := 0) (sl_q := 0) rfl ?_
      refine fw_i2l rfl (by omega) (by omega) ?_
      refine fw_lc (z := 0) rfl (by decide +kernel) ?_
      refine ik_Wk 1 (pc_q := 4) (loc_q := [some (.ref 66), some (fI ((p + 3) - 1))]) (st_q := [.ref 66, fJ 0, fJ ((p + 3) - 1)]) (h_q := h_992) (cl_q := 0) (sl_q := 0) rfl ?_
      refine fw_gf rfl rfl g_992_66 rfl ?_
      refine ik_Wk 1 (pc_q := 8) (loc_q := [some (.ref 66), some (fI ((p + 3) - 1))]) (st_q := [fI 2, fI pl, fJ 0, fJ ((p + 3) - 1)]) (h_q := h_992) (cl_q := 0) (sl_q := 0) rfl ?_
      refine fw_sub rfl ?_
      refine fw_i2l rfl (by omega) (by omega) ?_
      refine fw_call 127 3 3 [fJ ((p + 3) - 1), fJ 0, fJ (pl - 2)] [] rfl rfl rfl (Nat.le_of_ble_eq_true rfl) rfl rfl (fw_sta k_992 rfl (by decide +kernel)) (cr_in (v := (p + 3) - 1) (a := 0) (b := pl - 2) (by omega) (by omega) (by omega)  k_992) ?_
      rintro _ h_993 (⟨rfl, p_993_0, F_993⟩ | ⟨rfl, p_993_0, F_993⟩)
      · have k_993 : cL h_993 := F_993.1.trans k_992
        have fr_993 := hfr_cb fr_992 F_993 rfl
        have g_993_66 := (hfr_g F_993 66 rfl).trans g_992_66
        have g_993_67 := (hfr_g F_993 67 rfl).trans g_992_67
        have g_993_68 := (hfr_g F_993 68 rfl).trans g_992_68
        have g_993_69 := (hfr_g F_993 69 rfl).trans g_992_69
        have g_993_77 := (hfr_g F_993 77 rfl).trans g_992_77
        have g_993_78 := (hfr_g F_993 78 rfl).trans g_992_78
        have g_993_79 := (hfr_g F_993 79 rfl).trans g_992_79
        have g_993_80 := (hfr_g F_993 80 rfl).trans g_992_80
        have g_993_70 := (hfr_g F_993 70 rfl).trans g_992_70
        have g_993_81 := (hfr_g F_993 81 rfl).trans g_992_81
        have g_993_82 := (hfr_g F_993 82 rfl).trans g_992_82
        have g_993_83 := (hfr_g F_993 83 rfl).trans g_992_83
        have g_993_84 := (hfr_g F_993 84 rfl).trans g_992_84
        have g_993_85 := (hfr_g F_993 85 rfl).trans g_992_85
        have g_993_86 := (hfr_g F_993 86 rfl).trans g_992_86
        have g_993_87 := (hfr_g F_993 87 rfl).trans g_992_87
        refine ik_Wk 0 (pc_q := 13) (loc_q := [some (.ref 66), some (fI ((p + 3) - 1))]) (st_q := [fI 1]) (h_q := h_993) (cl_q := 0) (sl_q := 0) rfl ?_
        refine ik_Wret rfl rfl ⟨_, _, rfl, rfl, ?_⟩
        refine ik_Wk 0 (pc_q := 29) (loc_q := [some (.ref 66), some (fI p), some (fI 3), some (fI what)]) (st_q := [fI 1]) (h_q := h_993) (cl_q := 0) (sl_q := 0) rfl ?_
        refine fw_if_ne rfl rfl (by decide +kernel) (by decide +kernel) (fun hc3 => absurd hc3 (by decide +kernel)) (fun hc3 => ?_)
        refine ik_Wk 1 (pc_q := 36) (loc_q := [some (.ref 66), some (fI p), some (fI 3), some (fI what)]) (st_q := [fI 3]) (h_q := h_993) (cl_q := 0) (sl_q := 0) rfl ?_
        refine fw_i2l rfl (by omega) (by omega) ?_
        refine fw_lc (z := 1) rfl (by decide +kernel) ?_
        refine fw_l2 3 rfl rfl (by decide +kernel) ?_
        refine fw_call 127 3 3 [fJ 3, fJ 1, fJ 3] [] rfl rfl rfl (Nat.le_of_ble_eq_true rfl) rfl rfl (fw_sta k_993 rfl (by decide +kernel)) (cr_in (v := 3) (a := 1) (b := 3) (by omega) (by omega) (by omega)  k_993) ?_
        rintro _ h_994 (⟨rfl, p_994_0, F_994⟩ | ⟨rfl, p_994_0, F_994⟩)
        · have k_994 : cL h_994 := F_994.1.trans k_993
          have fr_994 := hfr_cb fr_993 F_994 rfl
          have g_994_66 := (hfr_g F_994 66 rfl).trans g_993_66
          have g_994_67 := (hfr_g F_994 67 rfl).trans g_993_67
          have g_994_68 := (hfr_g F_994 68 rfl).trans g_993_68
          have g_994_69 := (hfr_g F_994 69 rfl).trans g_993_69
          have g_994_77 := (hfr_g F_994 77 rfl).trans g_993_77
          have g_994_78 := (hfr_g F_994 78 rfl).trans g_993_78
          have g_994_79 := (hfr_g F_994 79 rfl).trans g_993_79
          have g_994_80 := (hfr_g F_994 80 rfl).trans g_993_80
          have g_994_70 := (hfr_g F_994 70 rfl).trans g_993_70
          have g_994_81 := (hfr_g F_994 81 rfl).trans g_993_81
          have g_994_82 := (hfr_g F_994 82 rfl).trans g_993_82
          have g_994_83 := (hfr_g F_994 83 rfl).trans g_993_83
          have g_994_84 := (hfr_g F_994 84 rfl).trans g_993_84
          have g_994_85 := (hfr_g F_994 85 rfl).trans g_993_85
          have g_994_86 := (hfr_g F_994 86 rfl).trans g_993_86
          have g_994_87 := (hfr_g F_994 87 rfl).trans g_993_87
          refine ik_Wk 0 (pc_q := 44) (loc_q := [some (.ref 66), some (fI p), some (fI 3), some (fI what)]) (st_q := [fI 1]) (h_q := h_994) (cl_q := 0) (sl_q := 0) rfl ?_
          refine fw_if_eq rfl rfl (by decide +kernel) (by decide +kernel) (fun hc4 => absurd hc4 (by decide +kernel)) (fun hc4 => ?_)
          refine ik_Wk 1 (pc_q := 48) (loc_q := [some (.ref 66), some (fI p), some (fI 3), some (fI what)]) (st_q := [fI what]) (h_q := h_994) (cl_q := 0) (sl_q := 0) rfl ?_
          refine fw_i2l rfl (by omega) (by omega) ?_
          refine fw_lc (z := 0) rfl (by decide +kernel) ?_
          refine fw_l2 6 rfl rfl (by decide +kernel) ?_
          refine fw_call 127 3 3 [fJ what, fJ 0, fJ 6] [] rfl rfl rfl (Nat.le_of_ble_eq_true rfl) rfl rfl (fw_sta k_994 rfl (by decide +kernel)) (cr_in (v := what) (a := 0) (b := 6) (by omega) (by omega) (by omega)  k_994) ?_
          rintro _ h_995 (⟨rfl, p_995_0, F_995⟩ | ⟨rfl, p_995_0, F_995⟩)
          · have k_995 : cL h_995 := F_995.1.trans k_994
            have fr_995 := hfr_cb fr_994 F_995 rfl
            have g_995_66 := (hfr_g F_995 66 rfl).trans g_994_66
            have g_995_67 := (hfr_g F_995 67 rfl).trans g_994_67
            have g_995_68 := (hfr_g F_995 68 rfl).trans g_994_68
            have g_995_69 := (hfr_g F_995 69 rfl).trans g_994_69
            have g_995_77 := (hfr_g F_995 77 rfl).trans g_994_77
            have g_995_78 := (hfr_g F_995 78 rfl).trans g_994_78
            have g_995_79 := (hfr_g F_995 79 rfl).trans g_994_79
            have g_995_80 := (hfr_g F_995 80 rfl).trans g_994_80
            have g_995_70 := (hfr_g F_995 70 rfl).trans g_994_70
            have g_995_81 := (hfr_g F_995 81 rfl).trans g_994_81
            have g_995_82 := (hfr_g F_995 82 rfl).trans g_994_82
            have g_995_83 := (hfr_g F_995 83 rfl).trans g_994_83
            have g_995_84 := (hfr_g F_995 84 rfl).trans g_994_84
            have g_995_85 := (hfr_g F_995 85 rfl).trans g_994_85
            have g_995_86 := (hfr_g F_995 86 rfl).trans g_994_86
            have g_995_87 := (hfr_g F_995 87 rfl).trans g_994_87
            refine ik_Wk 0 (pc_q := 56) (loc_q := [some (.ref 66), some (fI p), some (fI 3), some (fI what)]) (st_q := [fI 1]) (h_q := h_995) (cl_q := 0) (sl_q := 0) rfl ?_
            refine fw_if_ne rfl rfl (by decide +kernel) (by decide +kernel) (fun hc5 => absurd hc5 (by decide +kernel)) (fun hc5 => ?_)
            refine ik_Wk 3 (pc_q := 65) (loc_q := [some (.ref 66), some (fI p), some (fI 3), some (fI what)]) (st_q := [fI 3, fI p, .ref 66]) (h_q := h_995) (cl_q := 0) (sl_q := 0) rfl ?_
            refine fw_call 178 3 0 [.ref 66, fI p, fI 3] [] rfl rfl rfl (Nat.le_of_ble_eq_true rfl) rfl rfl (fw_rec k_995 rfl g_995_66 rfl (Nat.le_of_ble_eq_true rfl)) (cr_fears3 (pl := pl) (f := fun j => ((0 :: 0 :: 0 :: 0 :: 0 :: 0 :: 0 :: f 7 :: f 8 :: 0 :: f 10 :: f 11 :: f 12 :: f 13 :: f 14 :: f 15 :: f 16 :: f 17 :: 0 :: 0 :: 0 :: 0 :: 0 :: 0 :: f 24 :: 0 :: 0 :: 0 :: 0 :: 0 :: 0 :: 0 :: f 32 :: f 33 :: 0 :: 0 :: f 36 :: 0 :: 0 :: 0 :: 0 :: 0 :: 0 :: []) : List Int).getD j 0) (s := s) (cn := cn) (go := go) (ch := ch) (gt := gt) (gd := gd) (xs := xs) (ys := ys) (ka := ka) (pa := pa) (fa := fa) (kb := kb) (pb := pb) (fb := fb) (r1 := r1) (r2 := r2) (p := p) (fr := fr) (by omega) (by omega) q2 q3 q4 (q5 (by omega)) (q6 (by omega)) (by omega) g_995_66 g_995_67 n67 g_995_68 n68 g_995_69 n69 g_995_77 n77 g_995_78 n78 g_995_79 n79 g_995_80 n80 g_995_70 g_995_81 n81 g_995_82 n82 g_995_83 n83 k_995) ?_
            rintro _ h_996 ⟨w'_996, gt'_996, gd'_996, xs'_996, ys'_996, r1'_996, r2'_996, fr'_996, rfl, e_996_66, e_996_77, m_996_77, e_996_78, m_996_78, e_996_79, m_996_79, e_996_80, m_996_80, e_996_81, m_996_81, e_996_82, m_996_82, e_996_70, e_996_83, m_996_83, F_996⟩
            have k_996 : cL h_996 := F_996.1.trans k_995
            have fr_996 := hfr_cb fr_995 F_996 rfl
            have g_996_67 := (hfr_g F_996 67 rfl).trans g_995_67
            have g_996_68 := (hfr_g F_996 68 rfl).trans g_995_68
            have g_996_69 := (hfr_g F_996 69 rfl).trans g_995_69
            have g_996_84 := (hfr_g F_996 84 rfl).trans g_995_84
            have g_996_85 := (hfr_g F_996 85 rfl).trans g_995_85
            have g_996_86 := (hfr_g F_996 86 rfl).trans g_995_86
            have g_996_87 := (hfr_g F_996 87 rfl).trans g_995_87
            have g_996_66 : cE h_996 66 (.inr (10, (fI pl :: .ref 67 :: .ref 68 :: .ref 69 :: fI ((s : Nat) : Int) :: .ref 70 :: .ref 71 :: fI (f 7) :: fI (f 8) :: .ref 72 :: fI (f 10) :: fI (f 11) :: fI (f 12) :: fJ (f 13) :: fI (f 14) :: fI (f 15) :: fI (f 16) :: fI (f 17) :: .ref 73 :: .ref 74 :: .ref 75 :: .ref 76 :: .ref 77 :: .ref 78 :: fI w'_996 :: .ref 79 :: .ref 80 :: .ref 81 :: .ref 82 :: .ref 83 :: .ref 84 :: .ref 85 :: fJ (f 32) :: fJ (f 33) :: .ref 86 :: .ref 87 :: fI (f 36) :: .ref 88 :: .ref 89 :: .ref 90 :: .ref 91 :: .ref 92 :: .ref 93 :: []))) := e_996_66
            have g_996_77 : cE h_996 77 (.inl (.int, fA gt'_996)) := e_996_77
            have g_996_78 : cE h_996 78 (.inl (.int, fA gd'_996)) := e_996_78
            have g_996_79 : cE h_996 79 (.inl (.long, fL xs'_996)) := e_996_79
            have g_996_80 : cE h_996 80 (.inl (.long, fL ys'_996)) := e_996_80
            have g_996_81 : cE h_996 81 (.inl (.long, fL r1'_996)) := e_996_81
            have g_996_82 : cE h_996 82 (.inl (.long, fL r2'_996)) := e_996_82
            have g_996_70 : cE h_996 70 (.inl (.int, fA [ka, pa, fa, kb, pb, fb])) := e_996_70
            have g_996_83 : cE h_996 83 (.inl (.long, fL fr'_996)) := e_996_83
            refine ik_Wk 0 (pc_q := 68) (loc_q := [some (.ref 66), some (fI p), some (fI 3), some (fI what)]) (st_q := []) (h_q := h_996) (cl_q := 0) (sl_q := 0) rfl ?_
            refine ik_Wk 2 (pc_q := 70) (loc_q := [some (.ref 66), some (fI p), some (fI 3), some (fI what)]) (st_q := [fI 3, .ref 66]) (h_q := h_996) (cl_q := 0) (sl_q := 0) rfl ?_
            refine fw_call 179 2 0 [.ref 66, fI 3] [] rfl rfl rfl (Nat.le_of_ble_eq_true rfl) rfl rfl (fw_rec k_996 rfl g_996_66 rfl (Nat.le_of_ble_eq_true rfl)) (cr_findMixed (f := fun j => ((pl :: 0 :: 0 :: 0 :: (((s : Nat) : Int)) :: 0 :: 0 :: ((f 7)) :: ((f 8)) :: 0 :: ((f 10)) :: ((f 11)) :: ((f 12)) :: ((f 13)) :: ((f 14)) :: ((f 15)) :: ((f 16)) :: ((f 17)) :: 0 :: 0 :: 0 :: 0 :: 0 :: 0 :: w'_996 :: 0 :: 0 :: 0 :: 0 :: 0 :: 0 :: 0 :: ((f 32)) :: ((f 33)) :: 0 :: 0 :: ((f 36)) :: 0 :: 0 :: 0 :: 0 :: 0 :: 0 :: []) : List Int).getD j 0) (n := 3) (fr := fr'_996) (so := so) (sw := sw) (ro := ro) (cl := cl) (by omega) q7 q8 g_996_66 g_996_83 m_996_83 g_996_84 n84 g_996_85 n85 g_996_86 n86 g_996_87 n87 k_996) ?_
            rintro _ h_997 ⟨sb'_997, wa'_997, so'_997, sw'_997, ro'_997, cl'_997, b_997, rfl, e_997_66, e_997_84, m_997_84, e_997_85, m_997_85, e_997_86, m_997_86, e_997_87, m_997_87, p_997_0, p_997_1, p_997_2, p_997_3, F_997⟩
            have k_997 : cL h_997 := F_997.1.trans k_996
            have fr_997 := hfr_cb fr_996 F_997 rfl
            have g_997_67 := (hfr_g F_997 67 rfl).trans g_996_67
            have g_997_68 := (hfr_g F_997 68 rfl).trans g_996_68
            have g_997_69 := (hfr_g F_997 69 rfl).trans g_996_69
            have g_997_77 := (hfr_g F_997 77 rfl).trans g_996_77
            have g_997_78 := (hfr_g F_997 78 rfl).trans g_996_78
            have g_997_79 := (hfr_g F_997 79 rfl).trans g_996_79
            have g_997_80 := (hfr_g F_997 80 rfl).trans g_996_80
            have g_997_70 := (hfr_g F_997 70 rfl).trans g_996_70
            have g_997_81 := (hfr_g F_997 81 rfl).trans g_996_81
            have g_997_82 := (hfr_g F_997 82 rfl).trans g_996_82
            have g_997_83 := (hfr_g F_997 83 rfl).trans g_996_83
            have g_997_66 : cE h_997 66 (.inr (10, (fI pl :: .ref 67 :: .ref 68 :: .ref 69 :: fI ((s : Nat) : Int) :: .ref 70 :: .ref 71 :: fI (f 7) :: fI (f 8) :: .ref 72 :: fI (f 10) :: fI (f 11) :: fI (f 12) :: fJ (f 13) :: fI (f 14) :: fI (f 15) :: fI (f 16) :: fI (f 17) :: .ref 73 :: .ref 74 :: .ref 75 :: .ref 76 :: .ref 77 :: .ref 78 :: fI w'_996 :: .ref 79 :: .ref 80 :: .ref 81 :: .ref 82 :: .ref 83 :: .ref 84 :: .ref 85 :: fJ sb'_997 :: fJ wa'_997 :: .ref 86 :: .ref 87 :: fI (f 36) :: .ref 88 :: .ref 89 :: .ref 90 :: .ref 91 :: .ref 92 :: .ref 93 :: []))) := e_997_66
            have g_997_84 : cE h_997 84 (.inl (.long, fL so'_997)) := e_997_84
            have g_997_85 : cE h_997 85 (.inl (.long, fL sw'_997)) := e_997_85
            have g_997_86 : cE h_997 86 (.inl (.int, fA ro'_997)) := e_997_86
            have g_997_87 : cE h_997 87 (.inl (.int, fA cl'_997)) := e_997_87
            refine ik_Wk 0 (pc_q := 73) (loc_q := [some (.ref 66), some (fI p), some (fI 3), some (fI what)]) (st_q := [fI b_997]) (h_q := h_997) (cl_q := 0) (sl_q := 0) rfl ?_
            refine fw_if_ne rfl rfl (by omega) (by omega) (fun hc6 => ?_) (fun hc6 => ?_)
            · refine fw_ld (-1000000003) rfl rfl (by decide +kernel) ?_
              exact ik_Wret rfl rfl ⟨_, _, rfl, rfl, rfl, rfl, ⟨w'_996, gt'_996, gd'_996, xs'_996, ys'_996, r1'_996, r2'_996, fr'_996, sb'_997, wa'_997, so'_997, sw'_997, ro'_997, cl'_997, (-1000000003), rfl, g_997_77, m_996_77, g_997_78, m_996_78, g_997_79, m_996_79, g_997_80, m_996_80, g_997_81, m_996_81, g_997_82, m_996_82, g_997_66, g_997_70, g_997_83, m_996_83, g_997_84, m_997_84, g_997_85, m_997_85, g_997_86, m_997_86, g_997_87, m_997_87, p_997_0, p_997_1, fr_997⟩⟩
            · refine ik_Wk 1 (pc_q := 80) (loc_q := [some (.ref 66), some (fI p), some (fI 3), some (fI what)]) (st_q := [fI what]) (h_q := h_997) (cl_q := 0) (sl_q := 0) rfl ?_
              refine fw_if_ne rfl rfl (by omega) (by omega) (fun hc7 => ?_) (fun hc7 => ?_)
              · refine ik_Wk 1 (pc_q := 84) (loc_q := [some (.ref 66), some (fI p), some (fI 3), some (fI what)]) (st_q := [.ref 66]) (h_q := h_997) (cl_q := 0) (sl_q := 0) rfl ?_
                refine fw_gf rfl rfl g_997_66 rfl ?_
                refine fw_l2 1000 rfl rfl (by decide +kernel) ?_
                refine fw_lmul rfl ?_
                refine ik_Wk 1 (pc_q := 92) (loc_q := [some (.ref 66), some (fI p), some (fI 3), some (fI what)]) (st_q := [.ref 66, fJ (wa'_997 * 1000)]) (h_q := h_997) (cl_q := 0) (sl_q := 0) rfl ?_
                refine fw_gf rfl rfl g_997_66 rfl ?_
                refine fx_ldo rfl (p_997_3 (by omega)) (fun qd8 => ?_)
                refine ik_Wk 1 (pc_q := 132) (loc_q := [some (.ref 66), some (fI p), some (fI 3), some (fI what)]) (st_q := [fJ qd8]) (h_q := h_997) (cl_q := 0) (sl_q := 0) rfl ?_
                refine fx_l2i rfl ?_
                exact ik_Wret rfl rfl ⟨_, _, rfl, rfl, rfl, rfl, ⟨w'_996, gt'_996, gd'_996, xs'_996, ys'_996, r1'_996, r2'_996, fr'_996, sb'_997, wa'_997, so'_997, sw'_997, ro'_997, cl'_997, qd8, rfl, g_997_77, m_996_77, g_997_78, m_996_78, g_997_79, m_996_79, g_997_80, m_996_80, g_997_81, m_996_81, g_997_82, m_996_82, g_997_66, g_997_70, g_997_83, m_996_83, g_997_84, m_997_84, g_997_85, m_997_85, g_997_86, m_997_86, g_997_87, m_997_87, p_997_0, p_997_1, fr_997⟩⟩
              · refine ik_Wk 2 (pc_q := 101) (loc_q := [some (.ref 66), some (fI p), some (fI 3), some (fI what)]) (st_q := [fI 4, fI what]) (h_q := h_997) (cl_q := 0) (sl_q := 0) rfl ?_
                refine fw_ic_ge rfl rfl (by omega) (by omega) (by omega) (by omega) (fun hc9 => ?_) (fun hc9 => ?_)
                · refine ik_Wk 1 (pc_q := 116) (loc_q := [some (.ref 66), some (fI p), some (fI 3), some (fI what)]) (st_q := [.ref 66]) (h_q := h_997) (cl_q := 0) (sl_q := 0) rfl ?_
                  refine fw_gf rfl rfl g_997_66 rfl ?_
                  refine ik_Wk 2 (pc_q := 121) (loc_q := [some (.ref 66), some (fI p), some (fI 3), some (fI what)]) (st_q := [fI 4, fI what, .ref 85]) (h_q := h_997) (cl_q := 0) (sl_q := 0) rfl ?_
                  refine fw_sub rfl ?_
                  refine fx_lal rfl g_997_85 (by omega) (by omega) (by omega) ?_
                  refine fw_l2 1000000 rfl rfl (by decide +kernel) ?_
                  refine fw_lmul rfl ?_
                  refine ik_Wk 1 (pc_q := 128) (loc_q := [some (.ref 66), some (fI p), some (fI 3), some (fI what)]) (st_q := [.ref 66, fJ ((sw'_997.getD (what - 4).toNat 0) * 1000000)]) (h_q := h_997) (cl_q := 0) (sl_q := 0) rfl ?_
                  refine fw_gf rfl rfl g_997_66 rfl ?_
                  refine fx_ldo rfl (p_997_3 (by omega)) (fun qd10 => ?_)
                  refine fx_l2i rfl ?_
                  exact ik_Wret rfl rfl ⟨_, _, rfl, rfl, rfl, rfl, ⟨w'_996, gt'_996, gd'_996, xs'_996, ys'_996, r1'_996, r2'_996, fr'_996, sb'_997, wa'_997, so'_997, sw'_997, ro'_997, cl'_997, qd10, rfl, g_997_77, m_996_77, g_997_78, m_996_78, g_997_79, m_996_79, g_997_80, m_996_80, g_997_81, m_996_81, g_997_82, m_996_82, g_997_66, g_997_70, g_997_83, m_996_83, g_997_84, m_997_84, g_997_85, m_997_85, g_997_86, m_997_86, g_997_87, m_997_87, p_997_0, p_997_1, fr_997⟩⟩
                · refine ik_Wk 1 (pc_q := 105) (loc_q := [some (.ref 66), some (fI p), some (fI 3), some (fI what)]) (st_q := [.ref 66]) (h_q := h_997) (cl_q := 0) (sl_q := 0) rfl ?_
                  refine fw_gf rfl rfl g_997_66 rfl ?_
                  refine ik_Wk 2 (pc_q := 110) (loc_q := [some (.ref 66), some (fI p), some (fI 3), some (fI what)]) (st_q := [fI 1, fI what, .ref 84]) (h_q := h_997) (cl_q := 0) (sl_q := 0) rfl ?_
                  refine fw_sub rfl ?_
                  refine fx_lal rfl g_997_84 (by omega) (by omega) (by omega) ?_
                  refine ik_Wk 1 (pc_q := 123) (loc_q := [some (.ref 66), some (fI p), some (fI 3), some (fI what)]) (st_q := [fJ (so'_997.getD (what - 1).toNat 0)]) (h_q := h_997) (cl_q := 0) (sl_q := 0) rfl ?_
                  refine fw_l2 1000000 rfl rfl (by decide +kernel) ?_
                  refine fw_lmul rfl ?_
                  refine ik_Wk 1 (pc_q := 128) (loc_q := [some (.ref 66), some (fI p), some (fI 3), some (fI what)]) (st_q := [.ref 66, fJ ((so'_997.getD (what - 1).toNat 0) * 1000000)]) (h_q := h_997) (cl_q := 0) (sl_q := 0) rfl ?_
                  refine fw_gf rfl rfl g_997_66 rfl ?_
                  refine fx_ldo rfl (p_997_3 (by omega)) (fun qd11 => ?_)
                  refine fx_l2i rfl ?_
                  exact ik_Wret rfl rfl ⟨_, _, rfl, rfl, rfl, rfl, ⟨w'_996, gt'_996, gd'_996, xs'_996, ys'_996, r1'_996, r2'_996, fr'_996, sb'_997, wa'_997, so'_997, sw'_997, ro'_997, cl'_997, qd11, rfl, g_997_77, m_996_77, g_997_78, m_996_78, g_997_79, m_996_79, g_997_80, m_996_80, g_997_81, m_996_81, g_997_82, m_996_82, g_997_66, g_997_70, g_997_83, m_996_83, g_997_84, m_997_84, g_997_85, m_997_85, g_997_86, m_997_86, g_997_87, m_997_87, p_997_0, p_997_1, fr_997⟩⟩
          · have k_995 : cL h_995 := F_995.1.trans k_994
            have fr_995 := hfr_cb fr_994 F_995 rfl
            have g_995_66 := (hfr_g F_995 66 rfl).trans g_994_66
            have g_995_67 := (hfr_g F_995 67 rfl).trans g_994_67
            have g_995_68 := (hfr_g F_995 68 rfl).trans g_994_68
            have g_995_69 := (hfr_g F_995 69 rfl).trans g_994_69
            have g_995_77 := (hfr_g F_995 77 rfl).trans g_994_77
            have g_995_78 := (hfr_g F_995 78 rfl).trans g_994_78
            have g_995_79 := (hfr_g F_995 79 rfl).trans g_994_79
            have g_995_80 := (hfr_g F_995 80 rfl).trans g_994_80
            have g_995_70 := (hfr_g F_995 70 rfl).trans g_994_70
            have g_995_81 := (hfr_g F_995 81 rfl).trans g_994_81
            have g_995_82 := (hfr_g F_995 82 rfl).trans g_994_82
            have g_995_83 := (hfr_g F_995 83 rfl).trans g_994_83
            have g_995_84 := (hfr_g F_995 84 rfl).trans g_994_84
            have g_995_85 := (hfr_g F_995 85 rfl).trans g_994_85
            have g_995_86 := (hfr_g F_995 86 rfl).trans g_994_86
            have g_995_87 := (hfr_g F_995 87 rfl).trans g_994_87
            refine ik_Wk 0 (pc_q := 56) (loc_q := [some (.ref 66), some (fI p), some (fI 3), some (fI what)]) (st_q := [fI 0]) (h_q := h_995) (cl_q := 0) (sl_q := 0) rfl ?_
            refine fw_if_ne rfl rfl (by decide +kernel) (by decide +kernel) (fun hc12 => ?_) (fun hc12 => absurd hc12 (by decide +kernel))
            refine fw_ld (-1000000002) rfl rfl (by decide +kernel) ?_
            exact ik_Wret rfl rfl ⟨_, _, rfl, rfl, rfl, rfl, ⟨(f 24), gt, gd, xs, ys, r1, r2, fr, (f 32), (f 33), so, sw, ro, cl, (-1000000002), rfl, g_995_77, n77, g_995_78, n78, g_995_79, n79, g_995_80, n80, g_995_81, n81, g_995_82, n82, g_995_66, g_995_70, g_995_83, n83, g_995_84, n84, g_995_85, n85, g_995_86, n86, g_995_87, n87, q7, q8, fr_995⟩⟩
        · have k_994 : cL h_994 := F_994.1.trans k_993
          have fr_994 := hfr_cb fr_993 F_994 rfl
          have g_994_66 := (hfr_g F_994 66 rfl).trans g_993_66
          have g_994_67 := (hfr_g F_994 67 rfl).trans g_993_67
          have g_994_68 := (hfr_g F_994 68 rfl).trans g_993_68
          have g_994_69 := (hfr_g F_994 69 rfl).trans g_993_69
          have g_994_77 := (hfr_g F_994 77 rfl).trans g_993_77
          have g_994_78 := (hfr_g F_994 78 rfl).trans g_993_78
          have g_994_79 := (hfr_g F_994 79 rfl).trans g_993_79
          have g_994_80 := (hfr_g F_994 80 rfl).trans g_993_80
          have g_994_70 := (hfr_g F_994 70 rfl).trans g_993_70
          have g_994_81 := (hfr_g F_994 81 rfl).trans g_993_81
          have g_994_82 := (hfr_g F_994 82 rfl).trans g_993_82
          have g_994_83 := (hfr_g F_994 83 rfl).trans g_993_83
          have g_994_84 := (hfr_g F_994 84 rfl).trans g_993_84
          have g_994_85 := (hfr_g F_994 85 rfl).trans g_993_85
          have g_994_86 := (hfr_g F_994 86 rfl).trans g_993_86
          have g_994_87 := (hfr_g F_994 87 rfl).trans g_993_87
          omega
      · have k_993 : cL h_993 := F_993.1.trans k_992
        have fr_993 := hfr_cb fr_992 F_993 rfl
        have g_993_66 := (hfr_g F_993 66 rfl).trans g_992_66
        have g_993_67 := (hfr_g F_993 67 rfl).trans g_992_67
        have g_993_68 := (hfr_g F_993 68 rfl).trans g_992_68
        have g_993_69 := (hfr_g F_993 69 rfl).trans g_992_69
        have g_993_77 := (hfr_g F_993 77 rfl).trans g_992_77
        have g_993_78 := (hfr_g F_993 78 rfl).trans g_992_78
        have g_993_79 := (hfr_g F_993 79 rfl).trans g_992_79
        have g_993_80 := (hfr_g F_993 80 rfl).trans g_992_80
        have g_993_70 := (hfr_g F_993 70 rfl).trans g_992_70
        have g_993_81 := (hfr_g F_993 81 rfl).trans g_992_81
        have g_993_82 := (hfr_g F_993 82 rfl).trans g_992_82
        have g_993_83 := (hfr_g F_993 83 rfl).trans g_992_83
        have g_993_84 := (hfr_g F_993 84 rfl).trans g_992_84
        have g_993_85 := (hfr_g F_993 85 rfl).trans g_992_85
        have g_993_86 := (hfr_g F_993 86 rfl).trans g_992_86
        have g_993_87 := (hfr_g F_993 87 rfl).trans g_992_87
        refine ik_Wk 0 (pc_q := 13) (loc_q := [some (.ref 66), some (fI ((p + 3) - 1))]) (st_q := [fI 0]) (h_q := h_993) (cl_q := 0) (sl_q := 0) rfl ?_
        refine ik_Wret rfl rfl ⟨_, _, rfl, rfl, ?_⟩
        refine ik_Wk 0 (pc_q := 29) (loc_q := [some (.ref 66), some (fI p), some (fI 3), some (fI what)]) (st_q := [fI 0]) (h_q := h_993) (cl_q := 0) (sl_q := 0) rfl ?_
        refine fw_if_ne rfl rfl (by decide +kernel) (by decide +kernel) (fun hc13 => ?_) (fun hc13 => absurd hc13 (by decide +kernel))
        refine fw_ld (-1000000001) rfl rfl (by decide +kernel) ?_
        exact ik_Wret rfl rfl ⟨_, _, rfl, rfl, rfl, rfl, ⟨(f 24), gt, gd, xs, ys, r1, r2, fr, (f 32), (f 33), so, sw, ro, cl, (-1000000001), rfl, g_993_77, n77, g_993_78, n78, g_993_79, n79, g_993_80, n80, g_993_81, n81, g_993_82, n82, g_993_66, g_993_70, g_993_83, n83, g_993_84, n84, g_993_85, n85, g_993_86, n86, g_993_87, n87, q7, q8, fr_993⟩⟩
    · have k_992 : cL h_992 := F_992.1.trans k_991
      have fr_992 := hfr_cb fr_991 F_992 rfl
      have g_992_66 := (hfr_g F_992 66 rfl).trans g_991_66
      have g_992_67 := (hfr_g F_992 67 rfl).trans g_991_67
      have g_992_68 := (hfr_g F_992 68 rfl).trans g_991_68
      have g_992_69 := (hfr_g F_992 69 rfl).trans g_991_69
      have g_992_77 := (hfr_g F_992 77 rfl).trans g_991_77
      have g_992_78 := (hfr_g F_992 78 rfl).trans g_991_78
      have g_992_79 := (hfr_g F_992 79 rfl).trans g_991_79
      have g_992_80 := (hfr_g F_992 80 rfl).trans g_991_80
      have g_992_70 := (hfr_g F_992 70 rfl).trans g_991_70
      have g_992_81 := (hfr_g F_992 81 rfl).trans g_991_81
      have g_992_82 := (hfr_g F_992 82 rfl).trans g_991_82
      have g_992_83 := (hfr_g F_992 83 rfl).trans g_991_83
      have g_992_84 := (hfr_g F_992 84 rfl).trans g_991_84
      have g_992_85 := (hfr_g F_992 85 rfl).trans g_991_85
      have g_992_86 := (hfr_g F_992 86 rfl).trans g_991_86
      have g_992_87 := (hfr_g F_992 87 rfl).trans g_991_87
      omega
  · have k_991 : cL h_991 := F_991.1.trans hl
    have fr_991 := hfr_cb (hfr_refl [66, 77, 78, 79, 80, 81, 82, 70, 83, 84, 85, 86, 87] h) F_991 rfl
    have g_991_66 := (hfr_g F_991 66 rfl).trans h66
    have g_991_67 := (hfr_g F_991 67 rfl).trans h67
    have g_991_68 := (hfr_g F_991 68 rfl).trans h68
    have g_991_69 := (hfr_g F_991 69 rfl).trans h69
    have g_991_77 := (hfr_g F_991 77 rfl).trans h77
    have g_991_78 := (hfr_g F_991 78 rfl).trans h78
    have g_991_79 := (hfr_g F_991 79 rfl).trans h79
    have g_991_80 := (hfr_g F_991 80 rfl).trans h80
    have g_991_70 := (hfr_g F_991 70 rfl).trans h70
    have g_991_81 := (hfr_g F_991 81 rfl).trans h81
    have g_991_82 := (hfr_g F_991 82 rfl).trans h82
    have g_991_83 := (hfr_g F_991 83 rfl).trans h83
    have g_991_84 := (hfr_g F_991 84 rfl).trans h84
    have g_991_85 := (hfr_g F_991 85 rfl).trans h85
    have g_991_86 := (hfr_g F_991 86 rfl).trans h86
    have g_991_87 := (hfr_g F_991 87 rfl).trans h87
    refine ik_Wk 0 (pc_q := 13) (loc_q := [some (.ref 66), some (fI p)]) (st_q := [fI 0]) (h_q := h_991) (cl_q := 0) (sl_q := 0) rfl ?_
    refine ik_Wret rfl rfl ⟨_, _, rfl, rfl, ?_⟩
    refine ik_Wk 0 (pc_q := 5) (loc_q := [some (.ref 66), some (fI p), some (fI 3), some (fI what)]) (st_q := [fI 0]) (h_q := h_991) (cl_q := 0) (sl_q := 0) rfl ?_
    refine fw_if_eq rfl rfl (by decide +kernel) (by decide +kernel) (fun hc14 => ?_) (fun hc14 => absurd hc14 (by decide +kernel))
    refine fw_ld (-1000000001) rfl rfl (by decide +kernel) ?_
    exact ik_Wret rfl rfl ⟨_, _, rfl, rfl, rfl, rfl, ⟨(f 24), gt, gd, xs, ys, r1, r2, fr, (f 32), (f 33), so, sw, ro, cl, (-1000000001), rfl, g_991_77, n77, g_991_78, n78, g_991_79, n79, g_991_80, n80, g_991_81, n81, g_991_82, n82, g_991_66, g_991_70, g_991_83, n83, g_991_84, n84, g_991_85, n85, g_991_86, n86, g_991_87, n87, q7, q8, fr_991⟩⟩

theorem rp_mixedE {h : List ik_E} {pl : Int} {f : Nat → Int} {p : Int} {n : Int} {what : Int} (q0 : 0 ≤ pl ∧ pl ≤ 12) (q1 : -2147483648 ≤ p ∧ p < 2147483648) (q2 : -2147483648 ≤ n ∧ n < 2147483648) (q3 : -2147483648 ≤ what ∧ what < 2147483648) (q4 : n < 1 ∨ 3 < n) (h66 : cE h 66 (.inr (10, (fI pl :: .ref 67 :: .ref 68 :: .ref 69 :: fI (f 4) :: .ref 70 :: .ref 71 :: fI (f 7) :: fI (f 8) :: .ref 72 :: fI (f 10) :: fI (f 11) :: fI (f 12) :: fJ (f 13) :: fI (f 14) :: fI (f 15) :: fI (f 16) :: fI (f 17) :: .ref 73 :: .ref 74 :: .ref 75 :: .ref 76 :: .ref 77 :: .ref 78 :: fI (f 24) :: .ref 79 :: .ref 80 :: .ref 81 :: .ref 82 :: .ref 83 :: .ref 84 :: .ref 85 :: fJ (f 32) :: fJ (f 33) :: .ref 86 :: .ref 87 :: fI (f 36) :: .ref 88 :: .ref 89 :: .ref 90 :: .ref 91 :: .ref 92 :: .ref 93 :: [])))) (hl : h.length = (94 : Nat)) : ik_F 180 [.ref 66, fI p, fI n, fI what] h (fun rv h_q => ∃ (v : Int), rv = [fI v] ∧ hfr [] h h_q) := by
  refine ik_Wk 2 (pc_q := 2) (loc_q := [some (.ref 66), some (fI p), some (fI n), some (fI what)]) (st_q := [fI p, .ref 66]) (h_q := h) (cl_q := 0) (sl_q := 0) rfl ?_
  refine ik_Wc 131 2 0 [.ref 66, fI p] [] rfl rfl rfl (by decide +kernel) rfl rfl (fw_rec hl rfl h66 rfl (Nat.le_of_ble_eq_true rfl)) ?_
  refine ik_Wk 0 (pc_q := 0) (loc_q := [some (.ref 66), some (fI p)]) (st_q := []) (h_q := h) (cl_q := 0) (sl_q := 0) rfl ?_
  refine ik_Wk 1 (pc_q := 1) (loc_q := [some (.ref 66), some (fI p)]) (st_q := [fI p]) (h_q := h) (cl_q := 0) (sl_q := 0) rfl ?_
  refine fw_i2l rfl (by omega) (by omega) ?_
  refine fw_lc (z := 0) rfl (by decide +kernel) ?_
  refine ik_Wk 1 (pc_q := 4) (loc_q := [some (.ref 66), some (fI p)]) (st_q := [.ref 66, fJ 0, fJ p]) (h_q := h) (cl_q := 0) (sl_q := 0) rfl ?_
  refine fw_gf rfl rfl h66 rfl ?_
  refine ik_Wk 1 (pc_q := 8) (loc_q := [some (.ref 66), some (fI p)]) (st_q := [fI 2, fI pl, fJ 0, fJ p]) (h_q := h) (cl_q := 0) (sl_q := 0) rfl ?_
  refine fw_sub rfl ?_
  refine fw_i2l rfl (by omega) (by omega) ?_
  refine fw_call 127 3 3 [fJ p, fJ 0, fJ (pl - 2)] [] rfl rfl rfl (Nat.le_of_ble_eq_true rfl) rfl rfl (fw_sta hl rfl (by decide +kernel)) (cr_in (v := p) (a := 0) (b := pl - 2) (by omega) (by omega) (by omega)  hl) ?_
  rintro _ h_998 (⟨rfl, p_998_0, F_998⟩ | ⟨rfl, p_998_0, F_998⟩)
  · have k_998 : cL h_998 := F_998.1.trans hl
    have fr_998 := hfr_cb (hfr_refl [] h) F_998 rfl
    have g_998_66 := (hfr_g F_998 66 rfl).trans h66
    refine ik_Wk 0 (pc_q := 13) (loc_q := [some (.ref 66), some (fI p)]) (st_q := [fI 1]) (h_q := h_998) (cl_q := 0) (sl_q := 0) rfl ?_
    refine ik_Wret rfl rfl ⟨_, _, rfl, rfl, ?_⟩
    refine ik_Wk 0 (pc_q := 5) (loc_q := [some (.ref 66), some (fI p), some (fI n), some (fI what)]) (st_q := [fI 1]) (h_q := h_998) (cl_q := 0) (sl_q := 0) rfl ?_
    refine fw_if_eq rfl rfl (by decide +kernel) (by decide +kernel) (fun hc1 => absurd hc1 (by decide +kernel)) (fun hc1 => ?_)
    refine ik_Wk 1 (pc_q := 9) (loc_q := [some (.ref 66), some (fI p), some (fI n), some (fI what)]) (st_q := [fI n]) (h_q := h_998) (cl_q := 0) (sl_q := 0) rfl ?_
    refine fw_i2l rfl (by omega) (by omega) ?_
    refine fw_lc (z := 1) rfl (by decide +kernel) ?_
    refine fw_l2 3 rfl rfl (by decide +kernel) ?_
    refine fw_call 127 3 3 [fJ n, fJ 1, fJ 3] [] rfl rfl rfl (Nat.le_of_ble_eq_true rfl) rfl rfl (fw_sta k_998 rfl (by decide +kernel)) (cr_in (v := n) (a := 1) (b := 3) (by omega) (by omega) (by omega)  k_998) ?_
    rintro _ h_999 (⟨rfl, p_999_0, F_999⟩ | ⟨rfl, p_999_0, F_999⟩)
    · have k_999 : cL h_999 := F_999.1.trans k_998
      have fr_999 := hfr_cb fr_998 F_999 rfl
      have g_999_66 := (hfr_g F_999 66 rfl).trans g_998_66
      omega
    · have k_999 : cL h_999 := F_999.1.trans k_998
      have fr_999 := hfr_cb fr_998 F_999 rfl
      have g_999_66 := (hfr_g F_999 66 rfl).trans g_998_66
      refine ik_Wk 0 (pc_q := 17) (loc_q := [some (.ref 66), some (fI p), some (fI n), some (fI what)]) (st_q := [fI 0]) (h_q := h_999) (cl_q := 0) (sl_q := 0) rfl ?_
      refine fw_if_eq rfl rfl (by decide +kernel) (by decide +kernel) (fun hc2 => ?_) (fun hc2 => absurd hc2 (by decide +kernel))
      refine ik_Wk 1 (pc_q := 36) (loc_q := [some (.ref 66), some (fI p), some (fI n), some (fI what)]) (st_q := [fI n]) (h_q := h_999) (cl_q := 0) (sl_q := 0) rfl ?_
      refine fw_i2l rfl (by omega) (by omega) ?_
      refine fw_lc (z := 1) rfl (by decide +kernel) ?_
      refine fw_l2 3 rfl rfl (by decide +kernel) ?_
      refine fw_call 127 3 3 [fJ n, fJ 1, fJ 3] [] rfl rfl rfl (Nat.le_of_ble_eq_true rfl) rfl rfl (fw_sta k_999 rfl (by decide +kernel)) (cr_in (v := n) (a := 1) (b := 3) (by omega) (by omega) (by omega)  k_999) ?_
      rintro _ h_1000 (⟨rfl, p_1000_0, F_1000⟩ | ⟨rfl, p_1000_0, F_1000⟩)
      · have k_1000 : cL h_1000 := F_1000.1.trans k_999
        have fr_1000 := hfr_cb fr_999 F_1000 rfl
        have g_1000_66 := (hfr_g F_1000 66 rfl).trans g_999_66
        omega
      · have k_1000 : cL h_1000 := F_1000.1.trans k_999
        have fr_1000 := hfr_cb fr_999 F_1000 rfl
        have g_1000_66 := (hfr_g F_1000 66 rfl).trans g_999_66
        refine ik_Wk 0 (pc_q := 44) (loc_q := [some (.ref 66), some (fI p), some (fI n), some (fI what)]) (st_q := [fI 0]) (h_q := h_1000) (cl_q := 0) (sl_q := 0) rfl ?_
        refine fw_if_eq rfl rfl (by decide +kernel) (by decide +kernel) (fun hc3 => ?_) (fun hc3 => absurd hc3 (by decide +kernel))
        refine fw_ld (-1000000002) rfl rfl (by decide +kernel) ?_
        exact ik_Wret rfl rfl ⟨_, _, rfl, rfl, rfl, rfl, ⟨(-1000000002), rfl, fr_1000⟩⟩
  · have k_998 : cL h_998 := F_998.1.trans hl
    have fr_998 := hfr_cb (hfr_refl [] h) F_998 rfl
    have g_998_66 := (hfr_g F_998 66 rfl).trans h66
    refine ik_Wk 0 (pc_q := 13) (loc_q := [some (.ref 66), some (fI p)]) (st_q := [fI 0]) (h_q := h_998) (cl_q := 0) (sl_q := 0) rfl ?_
    refine ik_Wret rfl rfl ⟨_, _, rfl, rfl, ?_⟩
    refine ik_Wk 0 (pc_q := 5) (loc_q := [some (.ref 66), some (fI p), some (fI n), some (fI what)]) (st_q := [fI 0]) (h_q := h_998) (cl_q := 0) (sl_q := 0) rfl ?_
    refine fw_if_eq rfl rfl (by decide +kernel) (by decide +kernel) (fun hc4 => ?_) (fun hc4 => absurd hc4 (by decide +kernel))
    refine fw_ld (-1000000001) rfl rfl (by decide +kernel) ?_
    exact ik_Wret rfl rfl ⟨_, _, rfl, rfl, rfl, rfl, ⟨(-1000000001), rfl, fr_998⟩⟩

end