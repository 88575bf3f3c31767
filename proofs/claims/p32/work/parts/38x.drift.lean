noncomputable section
/-! the beginning; n minutes; suits by draws (written by wip/fx/u4.py) -/
theorem cr_begin {h : List ik_E} {mi : Int} {ka : Int} {pa : Int} {fa : Int} {kb : Int} {pb : Int} {fb : Int} {xa : Int} {xb : Int} {f : Nat → Int} (q0 : 0 ≤ fa ∧ fa ≤ 30) (q1 : 0 ≤ fb ∧ fb ≤ 30) (h66 : cE h 66 (.inr (10, [fI (f 0), .ref 67, .ref 68, .ref 69, fI (f 4), .ref 70, .ref 71, fI mi, fI (f 8), .ref 72, fI (f 10), fI (f 11), fI (f 12), fJ (f 13), fI (f 14), fI (f 15), fI (f 16), fI (f 17), .ref 73, .ref 74, .ref 75, .ref 76, .ref 77, .ref 78, fI (f 24), .ref 79, .ref 80, .ref 81, .ref 82, .ref 83, .ref 84, .ref 85, fJ (f 32), fJ (f 33), .ref 86, .ref 87, fI (f 36), .ref 88, .ref 89, .ref 90, .ref 91, .ref 92, .ref 93]))) (h70 : cE h 70 (.inl (.int, fA [ka, pa, fa, kb, pb, fb]))) (h71 : cE h 71 (.inl (.int, fA [xa, xb]))) (hl : h.length = 94) : ik_F 194 [.ref 66] h (fun rv h' => rv = [] ∧ cE h' 66 (.inr (10, [fI (f 0), .ref 67, .ref 68, .ref 69, fI (f 4), .ref 70, .ref 71, fI 0, fI (f 8), .ref 72, fI (f 10), fI (f 11), fI (f 12), fJ (f 13), fI (f 14), fI (f 15), fI (f 16), fI (f 17), .ref 73, .ref 74, .ref 75, .ref 76, .ref 77, .ref 78, fI (f 24), .ref 79, .ref 80, .ref 81, .ref 82, .ref 83, .ref 84, .ref 85, fJ (f 32), fJ (f 33), .ref 86, .ref 87, fI (f 36), .ref 88, .ref 89, .ref 90, .ref 91, .ref 92, .ref 93])) ∧ cE h' 71 (.inl (.int, fA [mx_sp pa fa, mx_sp pb fb])) ∧ hfr [66, 71] h h') := by
  refine ik_Wk 2 (pc' := 2) (loc' := [some (.ref 66), none]) (st' := [fI 0, .ref 66]) (h' := h) (cl' := 0) (sl' := 0) rfl ?_
  refine fx_pf rfl rfl h66 (Nat.le_of_ble_eq_true rfl) rfl rfl ?_
  intro h_70 e_70 f_70 l_70
  have k_70 := l_70.trans hl
  have fr_70 := hfr_w (hfr_refl [66, 71] h) f_70 l_70 (by decide)
  have g_70_70 := (f_70 70 (by decide)).trans h70
  have g_70_71 := (f_70 71 (by decide)).trans h71
  have g_70_66 : cE h_70 66 (.inr (10, [fI (f 0), .ref 67, .ref 68, .ref 69, fI (f 4), .ref 70, .ref 71, fI 0, fI (f 8), .ref 72, fI (f 10), fI (f 11), fI (f 12), fJ (f 13), fI (f 14), fI (f 15), fI (f 16), fI (f 17), .ref 73, .ref 74, .ref 75, .ref 76, .ref 77, .ref 78, fI (f 24), .ref 79, .ref 80, .ref 81, .ref 82, .ref 83, .ref 84, .ref 85, fJ (f 32), fJ (f 33), .ref 86, .ref 87, fI (f 36), .ref 88, .ref 89, .ref 90, .ref 91, .ref 92, .ref 93])) := e_70
  refine ik_Wk 4 (pc' := 9) (loc' := [some (.ref 66), some (fI 0)]) (st' := [fI 2, fI 0]) (h' := h_70) (cl' := 0) (sl' := 0) rfl ?_
  refine fw_ic_ge rfl rfl (by omega) (by omega) (by omega) (by omega) (fun hc1 => absurd hc1 (by omega)) (fun hc1 => ?_)
  refine ik_Wk 1 (pc' := 13) (loc' := [some (.ref 66), some (fI 0)]) (st' := [.ref 66]) (h' := h_70) (cl' := 0) (sl' := 0) rfl ?_
  refine fw_gf rfl rfl g_70_66 rfl ?_
  refine ik_Wk 2 (pc' := 18) (loc' := [some (.ref 66), some (fI 0)]) (st' := [.ref 66, fI 0, .ref 71]) (h' := h_70) (cl' := 0) (sl' := 0) rfl ?_
  refine fw_gf rfl rfl g_70_66 rfl ?_
  refine ik_Wk 2 (pc' := 23) (loc' := [some (.ref 66), some (fI 0)]) (st' := [fI 0, fI 3, .ref 70, fI 0, .ref 71]) (h' := h_70) (cl' := 0) (sl' := 0) rfl ?_
  refine fw_mul rfl ?_
  refine ik_Wk 1 (pc' := 25) (loc' := [some (.ref 66), some (fI 0)]) (st' := [fI 2, fI 0, .ref 70, fI 0, .ref 71]) (h' := h_70) (cl' := 0) (sl' := 0) rfl ?_
  refine fw_add rfl ?_
  refine fw_ial (z := 2) rfl g_70_70 (by decide) (Nat.le_of_ble_eq_true rfl) (by decide) ?_
  refine ik_Wk 0 (pc' := 27) (loc' := [some (.ref 66), some (fI 0)]) (st' := [fI fa, fI 0, .ref 71]) (h' := h_70) (cl' := 0) (sl' := 0) rfl ?_
  refine fw_if_ne rfl rfl (by omega) (by omega) (fun hc2 => ?_) (fun hc2 => ?_)
  · refine ik_Wk 1 (pc' := 31) (loc' := [some (.ref 66), some (fI 0)]) (st' := [.ref 66, fI 0, .ref 71]) (h' := h_70) (cl' := 0) (sl' := 0) rfl ?_
    refine fw_gf rfl rfl g_70_66 rfl ?_
    refine ik_Wk 2 (pc' := 36) (loc' := [some (.ref 66), some (fI 0)]) (st' := [fI 0, fI 3, .ref 70, fI 0, .ref 71]) (h' := h_70) (cl' := 0) (sl' := 0) rfl ?_
    refine fw_mul rfl ?_
    refine ik_Wk 1 (pc' := 38) (loc' := [some (.ref 66), some (fI 0)]) (st' := [fI 1, fI 0, .ref 70, fI 0, .ref 71]) (h' := h_70) (cl' := 0) (sl' := 0) rfl ?_
    refine fw_add rfl ?_
    refine fw_ial (z := 1) rfl g_70_70 (by decide) (Nat.le_of_ble_eq_true rfl) (by decide) ?_
    refine ik_Wk 0 (pc' := 40) (loc' := [some (.ref 66), some (fI 0)]) (st' := [fI pa, fI 0, .ref 71]) (h' := h_70) (cl' := 0) (sl' := 0) rfl ?_
    refine ik_Wk 1 (pc' := 44) (loc' := [some (.ref 66), some (fI 0)]) (st' := [fI pa, fI 0, .ref 71]) (h' := h_70) (cl' := 0) (sl' := 0) rfl ?_
    refine fx_ias (z := 0) rfl g_70_71 (by decide) (Nat.le_of_ble_eq_true rfl) (by decide) ?_
    intro h_71 e_71 f_71 l_71
    have k_71 := l_71.trans k_70
    have fr_71 := hfr_w fr_70 f_71 l_71 (by decide)
    have g_71_66 := (f_71 66 (by decide)).trans g_70_66
    have g_71_70 := (f_71 70 (by decide)).trans g_70_70
    have g_71_71 : cE h_71 71 (.inl (.int, fA [pa, xb])) := e_71
    refine fw_inc (a := 0) (loc' := [some (.ref 66), some (fI 1)]) rfl rfl (Nat.le_of_ble_eq_true rfl) rfl ?_
    refine ik_Wk 3 (pc' := 9) (loc' := [some (.ref 66), some (fI 1)]) (st' := [fI 2, fI 1]) (h' := h_71) (cl' := 0) (sl' := 0) rfl ?_
    refine fw_ic_ge rfl rfl (by omega) (by omega) (by omega) (by omega) (fun hc3 => absurd hc3 (by omega)) (fun hc3 => ?_)
    refine ik_Wk 1 (pc' := 13) (loc' := [some (.ref 66), some (fI 1)]) (st' := [.ref 66]) (h' := h_71) (cl' := 0) (sl' := 0) rfl ?_
    refine fw_gf rfl rfl g_71_66 rfl ?_
    refine ik_Wk 2 (pc' := 18) (loc' := [some (.ref 66), some (fI 1)]) (st' := [.ref 66, fI 1, .ref 71]) (h' := h_71) (cl' := 0) (sl' := 0) rfl ?_
    refine fw_gf rfl rfl g_71_66 rfl ?_
    refine ik_Wk 2 (pc' := 23) (loc' := [some (.ref 66), some (fI 1)]) (st' := [fI 1, fI 3, .ref 70, fI 1, .ref 71]) (h' := h_71) (cl' := 0) (sl' := 0) rfl ?_
    refine fw_mul rfl ?_
    refine ik_Wk 1 (pc' := 25) (loc' := [some (.ref 66), some (fI 1)]) (st' := [fI 2, fI 3, .ref 70, fI 1, .ref 71]) (h' := h_71) (cl' := 0) (sl' := 0) rfl ?_
    refine fw_add rfl ?_
    refine fw_ial (z := 5) rfl g_71_70 (by decide) (Nat.le_of_ble_eq_true rfl) (by decide) ?_
    refine ik_Wk 0 (pc' := 27) (loc' := [some (.ref 66), some (fI 1)]) (st' := [fI fb, fI 1, .ref 71]) (h' := h_71) (cl' := 0) (sl' := 0) rfl ?_
    refine fw_if_ne rfl rfl (by omega) (by omega) (fun hc4 => ?_) (fun hc4 => ?_)
    · refine ik_Wk 1 (pc' := 31) (loc' := [some (.ref 66), some (fI 1)]) (st' := [.ref 66, fI 1, .ref 71]) (h' := h_71) (cl' := 0) (sl' := 0) rfl ?_
      refine fw_gf rfl rfl g_71_66 rfl ?_
      refine ik_Wk 2 (pc' := 36) (loc' := [some (.ref 66), some (fI 1)]) (st' := [fI 1, fI 3, .ref 70, fI 1, .ref 71]) (h' := h_71) (cl' := 0) (sl' := 0) rfl ?_
      refine fw_mul rfl ?_
      refine ik_Wk 1 (pc' := 38) (loc' := [some (.ref 66), some (fI 1)]) (st' := [fI 1, fI 3, .ref 70, fI 1, .ref 71]) (h' := h_71) (cl' := 0) (sl' := 0) rfl ?_
      refine fw_add rfl ?_
      refine fw_ial (z := 4) rfl g_71_70 (by decide) (Nat.le_of_ble_eq_true rfl) (by decide) ?_
      refine ik_Wk 0 (pc' := 40) (loc' := [some (.ref 66), some (fI 1)]) (st' := [fI pb, fI 1, .ref 71]) (h' := h_71) (cl' := 0) (sl' := 0) rfl ?_
      refine ik_Wk 1 (pc' := 44) (loc' := [some (.ref 66), some (fI 1)]) (st' := [fI pb, fI 1, .ref 71]) (h' := h_71) (cl' := 0) (sl' := 0) rfl ?_
      refine fx_ias (z := 1) rfl g_71_71 (by decide) (Nat.le_of_ble_eq_true rfl) (by decide) ?_
      intro h_72 e_72 f_72 l_72
      have k_72 := l_72.trans k_71
      have fr_72 := hfr_w fr_71 f_72 l_72 (by decide)
      have g_72_66 := (f_72 66 (by decide)).trans g_71_66
      have g_72_70 := (f_72 70 (by decide)).trans g_71_70
      have g_72_71 : cE h_72 71 (.inl (.int, fA [pa, pb])) := e_72
      refine fw_inc (a := 1) (loc' := [some (.ref 66), some (fI 2)]) rfl rfl (Nat.le_of_ble_eq_true rfl) rfl ?_
      refine ik_Wk 3 (pc' := 9) (loc' := [some (.ref 66), some (fI 2)]) (st' := [fI 2, fI 2]) (h' := h_72) (cl' := 0) (sl' := 0) rfl ?_
      refine fw_ic_ge rfl rfl (by omega) (by omega) (by omega) (by omega) (fun hc5 => ?_) (fun hc5 => absurd hc5 (by omega))
      have e1 : mx_sp pa fa = pa := by unfold mx_sp; split <;> omega
      have e2 : mx_sp pb fb = pb := by unfold mx_sp; split <;> omega
      rw [e1, e2]
      exact ik_Wret rfl rfl ⟨_, _, rfl, rfl, rfl, rfl, ⟨rfl, g_72_66, g_72_71, fr_72⟩⟩
    · refine ik_Wk 1 (pc' := 44) (loc' := [some (.ref 66), some (fI 1)]) (st' := [fI (-1), fI 1, .ref 71]) (h' := h_71) (cl' := 0) (sl' := 0) rfl ?_
      refine fx_ias (z := 1) rfl g_71_71 (by decide) (Nat.le_of_ble_eq_true rfl) (by decide) ?_
      intro h_73 e_73 f_73 l_73
      have k_73 := l_73.trans k_71
      have fr_73 := hfr_w fr_71 f_73 l_73 (by decide)
      have g_73_66 := (f_73 66 (by decide)).trans g_71_66
      have g_73_70 := (f_73 70 (by decide)).trans g_71_70
      have g_73_71 : cE h_73 71 (.inl (.int, fA [pa, -1])) := e_73
      refine fw_inc (a := 1) (loc' := [some (.ref 66), some (fI 2)]) rfl rfl (Nat.le_of_ble_eq_true rfl) rfl ?_
      refine ik_Wk 3 (pc' := 9) (loc' := [some (.ref 66), some (fI 2)]) (st' := [fI 2, fI 2]) (h' := h_73) (cl' := 0) (sl' := 0) rfl ?_
      refine fw_ic_ge rfl rfl (by omega) (by omega) (by omega) (by omega) (fun hc6 => ?_) (fun hc6 => absurd hc6 (by omega))
      have e1 : mx_sp pa fa = pa := by unfold mx_sp; split <;> omega
      have e2 : mx_sp pb fb = -1 := by unfold mx_sp; split <;> omega
      rw [e1, e2]
      exact ik_Wret rfl rfl ⟨_, _, rfl, rfl, rfl, rfl, ⟨rfl, g_73_66, g_73_71, fr_73⟩⟩
  · refine ik_Wk 1 (pc' := 44) (loc' := [some (.ref 66), some (fI 0)]) (st' := [fI (-1), fI 0, .ref 71]) (h' := h_70) (cl' := 0) (sl' := 0) rfl ?_
    refine fx_ias (z := 0) rfl g_70_71 (by decide) (Nat.le_of_ble_eq_true rfl) (by decide) ?_
    intro h_74 e_74 f_74 l_74
    have k_74 := l_74.trans k_70
    have fr_74 := hfr_w fr_70 f_74 l_74 (by decide)
    have g_74_66 := (f_74 66 (by decide)).trans g_70_66
    have g_74_70 := (f_74 70 (by decide)).trans g_70_70
    have g_74_71 : cE h_74 71 (.inl (.int, fA [-1, xb])) := e_74
    refine fw_inc (a := 0) (loc' := [some (.ref 66), some (fI 1)]) rfl rfl (Nat.le_of_ble_eq_true rfl) rfl ?_
    refine ik_Wk 3 (pc' := 9) (loc' := [some (.ref 66), some (fI 1)]) (st' := [fI 2, fI 1]) (h' := h_74) (cl' := 0) (sl' := 0) rfl ?_
    refine fw_ic_ge rfl rfl (by omega) (by omega) (by omega) (by omega) (fun hc7 => absurd hc7 (by omega)) (fun hc7 => ?_)
    refine ik_Wk 1 (pc' := 13) (loc' := [some (.ref 66), some (fI 1)]) (st' := [.ref 66]) (h' := h_74) (cl' := 0) (sl' := 0) rfl ?_
    refine fw_gf rfl rfl g_74_66 rfl ?_
    refine ik_Wk 2 (pc' := 18) (loc' := [some (.ref 66), some (fI 1)]) (st' := [.ref 66, fI 1, .ref 71]) (h' := h_74) (cl' := 0) (sl' := 0) rfl ?_
    refine fw_gf rfl rfl g_74_66 rfl ?_
    refine ik_Wk 2 (pc' := 23) (loc' := [some (.ref 66), some (fI 1)]) (st' := [fI 1, fI 3, .ref 70, fI 1, .ref 71]) (h' := h_74) (cl' := 0) (sl' := 0) rfl ?_
    refine fw_mul rfl ?_
    refine ik_Wk 1 (pc' := 25) (loc' := [some (.ref 66), some (fI 1)]) (st' := [fI 2, fI 3, .ref 70, fI 1, .ref 71]) (h' := h_74) (cl' := 0) (sl' := 0) rfl ?_
    refine fw_add rfl ?_
    refine fw_ial (z := 5) rfl g_74_70 (by decide) (Nat.le_of_ble_eq_true rfl) (by decide) ?_
    refine ik_Wk 0 (pc' := 27) (loc' := [some (.ref 66), some (fI 1)]) (st' := [fI fb, fI 1, .ref 71]) (h' := h_74) (cl' := 0) (sl' := 0) rfl ?_
    refine fw_if_ne rfl rfl (by omega) (by omega) (fun hc8 => ?_) (fun hc8 => ?_)
    · refine ik_Wk 1 (pc' := 31) (loc' := [some (.ref 66), some (fI 1)]) (st' := [.ref 66, fI 1, .ref 71]) (h' := h_74) (cl' := 0) (sl' := 0) rfl ?_
      refine fw_gf rfl rfl g_74_66 rfl ?_
      refine ik_Wk 2 (pc' := 36) (loc' := [some (.ref 66), some (fI 1)]) (st' := [fI 1, fI 3, .ref 70, fI 1, .ref 71]) (h' := h_74) (cl' := 0) (sl' := 0) rfl ?_
      refine fw_mul rfl ?_
      refine ik_Wk 1 (pc' := 38) (loc' := [some (.ref 66), some (fI 1)]) (st' := [fI 1, fI 3, .ref 70, fI 1, .ref 71]) (h' := h_74) (cl' := 0) (sl' := 0) rfl ?_
      refine fw_add rfl ?_
      refine fw_ial (z := 4) rfl g_74_70 (by decide) (Nat.le_of_ble_eq_true rfl) (by decide) ?_
      refine ik_Wk 0 (pc' := 40) (loc' := [some (.ref 66), some (fI 1)]) (st' := [fI pb, fI 1, .ref 71]) (h' := h_74) (cl' := 0) (sl' := 0) rfl ?_
      refine ik_Wk 1 (pc' := 44) (loc' := [some (.ref 66), some (fI 1)]) (st' := [fI pb, fI 1, .ref 71]) (h' := h_74) (cl' := 0) (sl' := 0) rfl ?_
      refine fx_ias (z := 1) rfl g_74_71 (by decide) (Nat.le_of_ble_eq_true rfl) (by decide) ?_
      intro h_75 e_75 f_75 l_75
      have k_75 := l_75.trans k_74
      have fr_75 := hfr_w fr_74 f_75 l_75 (by decide)
      have g_75_66 := (f_75 66 (by decide)).trans g_74_66
      have g_75_70 := (f_75 70 (by decide)).trans g_74_70
      have g_75_71 : cE h_75 71 (.inl (.int, fA [-1, pb])) := e_75
      refine fw_inc (a := 1) (loc' := [some (.ref 66), some (fI 2)]) rfl rfl (Nat.le_of_ble_eq_true rfl) rfl ?_
      refine ik_Wk 3 (pc' := 9) (loc' := [some (.ref 66), some (fI 2)]) (st' := [fI 2, fI 2]) (h' := h_75) (cl' := 0) (sl' := 0) rfl ?_
      refine fw_ic_ge rfl rfl (by omega) (by omega) (by omega) (by omega) (fun hc9 => ?_) (fun hc9 => absurd hc9 (by omega))
      have e1 : mx_sp pa fa = -1 := by unfold mx_sp; split <;> omega
      have e2 : mx_sp pb fb = pb := by unfold mx_sp; split <;> omega
      rw [e1, e2]
      exact ik_Wret rfl rfl ⟨_, _, rfl, rfl, rfl, rfl, ⟨rfl, g_75_66, g_75_71, fr_75⟩⟩
    · refine ik_Wk 1 (pc' := 44) (loc' := [some (.ref 66), some (fI 1)]) (st' := [fI (-1), fI 1, .ref 71]) (h' := h_74) (cl' := 0) (sl' := 0) rfl ?_
      refine fx_ias (z := 1) rfl g_74_71 (by decide) (Nat.le_of_ble_eq_true rfl) (by decide) ?_
      intro h_76 e_76 f_76 l_76
      have k_76 := l_76.trans k_74
      have fr_76 := hfr_w fr_74 f_76 l_76 (by decide)
      have g_76_66 := (f_76 66 (by decide)).trans g_74_66
      have g_76_70 := (f_76 70 (by decide)).trans g_74_70
      have g_76_71 : cE h_76 71 (.inl (.int, fA [-1, -1])) := e_76
      refine fw_inc (a := 1) (loc' := [some (.ref 66), some (fI 2)]) rfl rfl (Nat.le_of_ble_eq_true rfl) rfl ?_
      refine ik_Wk 3 (pc' := 9) (loc' := [some (.ref 66), some (fI 2)]) (st' := [fI 2, fI 2]) (h' := h_76) (cl' := 0) (sl' := 0) rfl ?_
      refine fw_ic_ge rfl rfl (by omega) (by omega) (by omega) (by omega) (fun hc10 => ?_) (fun hc10 => absurd hc10 (by omega))
      have e1 : mx_sp pa fa = -1 := by unfold mx_sp; split <;> omega
      have e2 : mx_sp pb fb = -1 := by unfold mx_sp; split <;> omega
      rw [e1, e2]
      exact ik_Wret rfl rfl ⟨_, _, rfl, rfl, rfl, rfl, ⟨rfl, g_76_66, g_76_71, fr_76⟩⟩

theorem cs_restart {h : List ik_E} {mi : Int} {ka : Int} {pa : Int} {fa : Int} {kb : Int} {pb : Int} {fb : Int} {xa : Int} {xb : Int} {sd : Int} (q0 : 0 ≤ fa ∧ fa ≤ 30) (q1 : 0 ≤ fb ∧ fb ≤ 30) (h14 : cE h 14 (.inr (1, [.ref 7, .ref 15, .ref 16, fI mi, fJ sd]))) (h15 : cE h 15 (.inl (.int, fA [ka, pa, fa, kb, pb, fb]))) (h16 : cE h 16 (.inl (.int, fA [xa, xb]))) (hl : h.length = 94) : ik_F 23 [.ref 14] h (fun rv h' => rv = [] ∧ cE h' 14 (.inr (1, [.ref 7, .ref 15, .ref 16, fI 0, fJ sd])) ∧ cE h' 16 (.inl (.int, fA [mx_sp pa fa, mx_sp pb fb])) ∧ hfr [14, 16] h h') := by
  refine ik_Wk 2 (pc' := 2) (loc' := [some (.ref 14), none]) (st' := [fI 0, .ref 14]) (h' := h) (cl' := 0) (sl' := 0) rfl ?_
  refine fx_pf rfl rfl h14 (Nat.le_of_ble_eq_true rfl) rfl rfl ?_
  intro h_77 e_77 f_77 l_77
  have k_77 := l_77.trans hl
  have fr_77 := hfr_w (hfr_refl [14, 16] h) f_77 l_77 (by decide)
  have g_77_15 := (f_77 15 (by decide)).trans h15
  have g_77_16 := (f_77 16 (by decide)).trans h16
  have g_77_14 : cE h_77 14 (.inr (1, [.ref 7, .ref 15, .ref 16, fI 0, fJ sd])) := e_77
  refine ik_Wk 4 (pc' := 9) (loc' := [some (.ref 14), some (fI 0)]) (st' := [fI 2, fI 0]) (h' := h_77) (cl' := 0) (sl' := 0) rfl ?_
  refine fw_ic_ge rfl rfl (by omega) (by omega) (by omega) (by omega) (fun hc1 => absurd hc1 (by omega)) (fun hc1 => ?_)
  refine ik_Wk 1 (pc' := 13) (loc' := [some (.ref 14), some (fI 0)]) (st' := [.ref 14]) (h' := h_77) (cl' := 0) (sl' := 0) rfl ?_
  refine fw_gf rfl rfl g_77_14 rfl ?_
  refine ik_Wk 2 (pc' := 18) (loc' := [some (.ref 14), some (fI 0)]) (st' := [.ref 14, fI 0, .ref 16]) (h' := h_77) (cl' := 0) (sl' := 0) rfl ?_
  refine fw_gf rfl rfl g_77_14 rfl ?_
  refine ik_Wk 2 (pc' := 23) (loc' := [some (.ref 14), some (fI 0)]) (st' := [fI 3, fI 0, .ref 15, fI 0, .ref 16]) (h' := h_77) (cl' := 0) (sl' := 0) rfl ?_
  refine fw_mul rfl ?_
  refine ik_Wk 1 (pc' := 25) (loc' := [some (.ref 14), some (fI 0)]) (st' := [fI 2, fI 0, .ref 15, fI 0, .ref 16]) (h' := h_77) (cl' := 0) (sl' := 0) rfl ?_
  refine fw_add rfl ?_
  refine fw_ial (z := 2) rfl g_77_15 (by decide) (Nat.le_of_ble_eq_true rfl) (by decide) ?_
  refine ik_Wk 0 (pc' := 27) (loc' := [some (.ref 14), some (fI 0)]) (st' := [fI fa, fI 0, .ref 16]) (h' := h_77) (cl' := 0) (sl' := 0) rfl ?_
  refine fw_if_ne rfl rfl (by omega) (by omega) (fun hc2 => ?_) (fun hc2 => ?_)
  · refine ik_Wk 1 (pc' := 31) (loc' := [some (.ref 14), some (fI 0)]) (st' := [.ref 14, fI 0, .ref 16]) (h' := h_77) (cl' := 0) (sl' := 0) rfl ?_
    refine fw_gf rfl rfl g_77_14 rfl ?_
    refine ik_Wk 2 (pc' := 36) (loc' := [some (.ref 14), some (fI 0)]) (st' := [fI 3, fI 0, .ref 15, fI 0, .ref 16]) (h' := h_77) (cl' := 0) (sl' := 0) rfl ?_
    refine fw_mul rfl ?_
    refine ik_Wk 1 (pc' := 38) (loc' := [some (.ref 14), some (fI 0)]) (st' := [fI 1, fI 0, .ref 15, fI 0, .ref 16]) (h' := h_77) (cl' := 0) (sl' := 0) rfl ?_
    refine fw_add rfl ?_
    refine fw_ial (z := 1) rfl g_77_15 (by decide) (Nat.le_of_ble_eq_true rfl) (by decide) ?_
    refine ik_Wk 0 (pc' := 40) (loc' := [some (.ref 14), some (fI 0)]) (st' := [fI pa, fI 0, .ref 16]) (h' := h_77) (cl' := 0) (sl' := 0) rfl ?_
    refine ik_Wk 1 (pc' := 44) (loc' := [some (.ref 14), some (fI 0)]) (st' := [fI pa, fI 0, .ref 16]) (h' := h_77) (cl' := 0) (sl' := 0) rfl ?_
    refine fx_ias (z := 0) rfl g_77_16 (by decide) (Nat.le_of_ble_eq_true rfl) (by decide) ?_
    intro h_78 e_78 f_78 l_78
    have k_78 := l_78.trans k_77
    have fr_78 := hfr_w fr_77 f_78 l_78 (by decide)
    have g_78_14 := (f_78 14 (by decide)).trans g_77_14
    have g_78_15 := (f_78 15 (by decide)).trans g_77_15
    have g_78_16 : cE h_78 16 (.inl (.int, fA [pa, xb])) := e_78
    refine fw_inc (a := 0) (loc' := [some (.ref 14), some (fI 1)]) rfl rfl (Nat.le_of_ble_eq_true rfl) rfl ?_
    refine ik_Wk 3 (pc' := 9) (loc' := [some (.ref 14), some (fI 1)]) (st' := [fI 2, fI 1]) (h' := h_78) (cl' := 0) (sl' := 0) rfl ?_
    refine fw_ic_ge rfl rfl (by omega) (by omega) (by omega) (by omega) (fun hc3 => absurd hc3 (by omega)) (fun hc3 => ?_)
    refine ik_Wk 1 (pc' := 13) (loc' := [some (.ref 14), some (fI 1)]) (st' := [.ref 14]) (h' := h_78) (cl' := 0) (sl' := 0) rfl ?_
    refine fw_gf rfl rfl g_78_14 rfl ?_
    refine ik_Wk 2 (pc' := 18) (loc' := [some (.ref 14), some (fI 1)]) (st' := [.ref 14, fI 1, .ref 16]) (h' := h_78) (cl' := 0) (sl' := 0) rfl ?_
    refine fw_gf rfl rfl g_78_14 rfl ?_
    refine ik_Wk 2 (pc' := 23) (loc' := [some (.ref 14), some (fI 1)]) (st' := [fI 3, fI 1, .ref 15, fI 1, .ref 16]) (h' := h_78) (cl' := 0) (sl' := 0) rfl ?_
    refine fw_mul rfl ?_
    refine ik_Wk 1 (pc' := 25) (loc' := [some (.ref 14), some (fI 1)]) (st' := [fI 2, fI 3, .ref 15, fI 1, .ref 16]) (h' := h_78) (cl' := 0) (sl' := 0) rfl ?_
    refine fw_add rfl ?_
    refine fw_ial (z := 5) rfl g_78_15 (by decide) (Nat.le_of_ble_eq_true rfl) (by decide) ?_
    refine ik_Wk 0 (pc' := 27) (loc' := [some (.ref 14), some (fI 1)]) (st' := [fI fb, fI 1, .ref 16]) (h' := h_78) (cl' := 0) (sl' := 0) rfl ?_
    refine fw_if_ne rfl rfl (by omega) (by omega) (fun hc4 => ?_) (fun hc4 => ?_)
    · refine ik_Wk 1 (pc' := 31) (loc' := [some (.ref 14), some (fI 1)]) (st' := [.ref 14, fI 1, .ref 16]) (h' := h_78) (cl' := 0) (sl' := 0) rfl ?_
      refine fw_gf rfl rfl g_78_14 rfl ?_
      refine ik_Wk 2 (pc' := 36) (loc' := [some (.ref 14), some (fI 1)]) (st' := [fI 3, fI 1, .ref 15, fI 1, .ref 16]) (h' := h_78) (cl' := 0) (sl' := 0) rfl ?_
      refine fw_mul rfl ?_
      refine ik_Wk 1 (pc' := 38) (loc' := [some (.ref 14), some (fI 1)]) (st' := [fI 1, fI 3, .ref 15, fI 1, .ref 16]) (h' := h_78) (cl' := 0) (sl' := 0) rfl ?_
      refine fw_add rfl ?_
      refine fw_ial (z := 4) rfl g_78_15 (by decide) (Nat.le_of_ble_eq_true rfl) (by decide) ?_
      refine ik_Wk 0 (pc' := 40) (loc' := [some (.ref 14), some (fI 1)]) (st' := [fI pb, fI 1, .ref 16]) (h' := h_78) (cl' := 0) (sl' := 0) rfl ?_
      refine ik_Wk 1 (pc' := 44) (loc' := [some (.ref 14), some (fI 1)]) (st' := [fI pb, fI 1, .ref 16]) (h' := h_78) (cl' := 0) (sl' := 0) rfl ?_
      refine fx_ias (z := 1) rfl g_78_16 (by decide) (Nat.le_of_ble_eq_true rfl) (by decide) ?_
      intro h_79 e_79 f_79 l_79
      have k_79 := l_79.trans k_78
      have fr_79 := hfr_w fr_78 f_79 l_79 (by decide)
      have g_79_14 := (f_79 14 (by decide)).trans g_78_14
      have g_79_15 := (f_79 15 (by decide)).trans g_78_15
      have g_79_16 : cE h_79 16 (.inl (.int, fA [pa, pb])) := e_79
      refine fw_inc (a := 1) (loc' := [some (.ref 14), some (fI 2)]) rfl rfl (Nat.le_of_ble_eq_true rfl) rfl ?_
      refine ik_Wk 3 (pc' := 9) (loc' := [some (.ref 14), some (fI 2)]) (st' := [fI 2, fI 2]) (h' := h_79) (cl' := 0) (sl' := 0) rfl ?_
      refine fw_ic_ge rfl rfl (by omega) (by omega) (by omega) (by omega) (fun hc5 => ?_) (fun hc5 => absurd hc5 (by omega))
      have e1 : mx_sp pa fa = pa := by unfold mx_sp; split <;> omega
      have e2 : mx_sp pb fb = pb := by unfold mx_sp; split <;> omega
      rw [e1, e2]
      exact ik_Wret rfl rfl ⟨_, _, rfl, rfl, rfl, rfl, ⟨rfl, g_79_14, g_79_16, fr_79⟩⟩
    · refine ik_Wk 1 (pc' := 44) (loc' := [some (.ref 14), some (fI 1)]) (st' := [fI (-1), fI 1, .ref 16]) (h' := h_78) (cl' := 0) (sl' := 0) rfl ?_
      refine fx_ias (z := 1) rfl g_78_16 (by decide) (Nat.le_of_ble_eq_true rfl) (by decide) ?_
      intro h_80 e_80 f_80 l_80
      have k_80 := l_80.trans k_78
      have fr_80 := hfr_w fr_78 f_80 l_80 (by decide)
      have g_80_14 := (f_80 14 (by decide)).trans g_78_14
      have g_80_15 := (f_80 15 (by decide)).trans g_78_15
      have g_80_16 : cE h_80 16 (.inl (.int, fA [pa, -1])) := e_80
      refine fw_inc (a := 1) (loc' := [some (.ref 14), some (fI 2)]) rfl rfl (Nat.le_of_ble_eq_true rfl) rfl ?_
      refine ik_Wk 3 (pc' := 9) (loc' := [some (.ref 14), some (fI 2)]) (st' := [fI 2, fI 2]) (h' := h_80) (cl' := 0) (sl' := 0) rfl ?_
      refine fw_ic_ge rfl rfl (by omega) (by omega) (by omega) (by omega) (fun hc6 => ?_) (fun hc6 => absurd hc6 (by omega))
      have e1 : mx_sp pa fa = pa := by unfold mx_sp; split <;> omega
      have e2 : mx_sp pb fb = -1 := by unfold mx_sp; split <;> omega
      rw [e1, e2]
      exact ik_Wret rfl rfl ⟨_, _, rfl, rfl, rfl, rfl, ⟨rfl, g_80_14, g_80_16, fr_80⟩⟩
  · refine ik_Wk 1 (pc' := 44) (loc' := [some (.ref 14), some (fI 0)]) (st' := [fI (-1), fI 0, .ref 16]) (h' := h_77) (cl' := 0) (sl' := 0) rfl ?_
    refine fx_ias (z := 0) rfl g_77_16 (by decide) (Nat.le_of_ble_eq_true rfl) (by decide) ?_
    intro h_81 e_81 f_81 l_81
    have k_81 := l_81.trans k_77
    have fr_81 := hfr_w fr_77 f_81 l_81 (by decide)
    have g_81_14 := (f_81 14 (by decide)).trans g_77_14
    have g_81_15 := (f_81 15 (by decide)).trans g_77_15
    have g_81_16 : cE h_81 16 (.inl (.int, fA [-1, xb])) := e_81
    refine fw_inc (a := 0) (loc' := [some (.ref 14), some (fI 1)]) rfl rfl (Nat.le_of_ble_eq_true rfl) rfl ?_
    refine ik_Wk 3 (pc' := 9) (loc' := [some (.ref 14), some (fI 1)]) (st' := [fI 2, fI 1]) (h' := h_81) (cl' := 0) (sl' := 0) rfl ?_
    refine fw_ic_ge rfl rfl (by omega) (by omega) (by omega) (by omega) (fun hc7 => absurd hc7 (by omega)) (fun hc7 => ?_)
    refine ik_Wk 1 (pc' := 13) (loc' := [some (.ref 14), some (fI 1)]) (st' := [.ref 14]) (h' := h_81) (cl' := 0) (sl' := 0) rfl ?_
    refine fw_gf rfl rfl g_81_14 rfl ?_
    refine ik_Wk 2 (pc' := 18) (loc' := [some (.ref 14), some (fI 1)]) (st' := [.ref 14, fI 1, .ref 16]) (h' := h_81) (cl' := 0) (sl' := 0) rfl ?_
    refine fw_gf rfl rfl g_81_14 rfl ?_
    refine ik_Wk 2 (pc' := 23) (loc' := [some (.ref 14), some (fI 1)]) (st' := [fI 3, fI 1, .ref 15, fI 1, .ref 16]) (h' := h_81) (cl' := 0) (sl' := 0) rfl ?_
    refine fw_mul rfl ?_
    refine ik_Wk 1 (pc' := 25) (loc' := [some (.ref 14), some (fI 1)]) (st' := [fI 2, fI 3, .ref 15, fI 1, .ref 16]) (h' := h_81) (cl' := 0) (sl' := 0) rfl ?_
    refine fw_add rfl ?_
    refine fw_ial (z := 5) rfl g_81_15 (by decide) (Nat.le_of_ble_eq_true rfl) (by decide) ?_
    refine ik_Wk 0 (pc' := 27) (loc' := [some (.ref 14), some (fI 1)]) (st' := [fI fb, fI 1, .ref 16]) (h' := h_81) (cl' := 0) (sl' := 0) rfl ?_
    refine fw_if_ne rfl rfl (by omega) (by omega) (fun hc8 => ?_) (fun hc8 => ?_)
    · refine ik_Wk 1 (pc' := 31) (loc' := [some (.ref 14), some (fI 1)]) (st' := [.ref 14, fI 1, .ref 16]) (h' := h_81) (cl' := 0) (sl' := 0) rfl ?_
      refine fw_gf rfl rfl g_81_14 rfl ?_
      refine ik_Wk 2 (pc' := 36) (loc' := [some (.ref 14), some (fI 1)]) (st' := [fI 3, fI 1, .ref 15, fI 1, .ref 16]) (h' := h_81) (cl' := 0) (sl' := 0) rfl ?_
      refine fw_mul rfl ?_
      refine ik_Wk 1 (pc' := 38) (loc' := [some (.ref 14), some (fI 1)]) (st' := [fI 1, fI 3, .ref 15, fI 1, .ref 16]) (h' := h_81) (cl' := 0) (sl' := 0) rfl ?_
      refine fw_add rfl ?_
      refine fw_ial (z := 4) rfl g_81_15 (by decide) (Nat.le_of_ble_eq_true rfl) (by decide) ?_
      refine ik_Wk 0 (pc' := 40) (loc' := [some (.ref 14), some (fI 1)]) (st' := [fI pb, fI 1, .ref 16]) (h' := h_81) (cl' := 0) (sl' := 0) rfl ?_
      refine ik_Wk 1 (pc' := 44) (loc' := [some (.ref 14), some (fI 1)]) (st' := [fI pb, fI 1, .ref 16]) (h' := h_81) (cl' := 0) (sl' := 0) rfl ?_
      refine fx_ias (z := 1) rfl g_81_16 (by decide) (Nat.le_of_ble_eq_true rfl) (by decide) ?_
      intro h_82 e_82 f_82 l_82
      have k_82 := l_82.trans k_81
      have fr_82 := hfr_w fr_81 f_82 l_82 (by decide)
      have g_82_14 := (f_82 14 (by decide)).trans g_81_14
      have g_82_15 := (f_82 15 (by decide)).trans g_81_15
      have g_82_16 : cE h_82 16 (.inl (.int, fA [-1, pb])) := e_82
      refine fw_inc (a := 1) (loc' := [some (.ref 14), some (fI 2)]) rfl rfl (Nat.le_of_ble_eq_true rfl) rfl ?_
      refine ik_Wk 3 (pc' := 9) (loc' := [some (.ref 14), some (fI 2)]) (st' := [fI 2, fI 2]) (h' := h_82) (cl' := 0) (sl' := 0) rfl ?_
      refine fw_ic_ge rfl rfl (by omega) (by omega) (by omega) (by omega) (fun hc9 => ?_) (fun hc9 => absurd hc9 (by omega))
      have e1 : mx_sp pa fa = -1 := by unfold mx_sp; split <;> omega
      have e2 : mx_sp pb fb = pb := by unfold mx_sp; split <;> omega
      rw [e1, e2]
      exact ik_Wret rfl rfl ⟨_, _, rfl, rfl, rfl, rfl, ⟨rfl, g_82_14, g_82_16, fr_82⟩⟩
    · refine ik_Wk 1 (pc' := 44) (loc' := [some (.ref 14), some (fI 1)]) (st' := [fI (-1), fI 1, .ref 16]) (h' := h_81) (cl' := 0) (sl' := 0) rfl ?_
      refine fx_ias (z := 1) rfl g_81_16 (by decide) (Nat.le_of_ble_eq_true rfl) (by decide) ?_
      intro h_83 e_83 f_83 l_83
      have k_83 := l_83.trans k_81
      have fr_83 := hfr_w fr_81 f_83 l_83 (by decide)
      have g_83_14 := (f_83 14 (by decide)).trans g_81_14
      have g_83_15 := (f_83 15 (by decide)).trans g_81_15
      have g_83_16 : cE h_83 16 (.inl (.int, fA [-1, -1])) := e_83
      refine fw_inc (a := 1) (loc' := [some (.ref 14), some (fI 2)]) rfl rfl (Nat.le_of_ble_eq_true rfl) rfl ?_
      refine ik_Wk 3 (pc' := 9) (loc' := [some (.ref 14), some (fI 2)]) (st' := [fI 2, fI 2]) (h' := h_83) (cl' := 0) (sl' := 0) rfl ?_
      refine fw_ic_ge rfl rfl (by omega) (by omega) (by omega) (by omega) (fun hc10 => ?_) (fun hc10 => absurd hc10 (by omega))
      have e1 : mx_sp pa fa = -1 := by unfold mx_sp; split <;> omega
      have e2 : mx_sp pb fb = -1 := by unfold mx_sp; split <;> omega
      rw [e1, e2]
      exact ik_Wret rfl rfl ⟨_, _, rfl, rfl, rfl, rfl, ⟨rfl, g_83_14, g_83_16, fr_83⟩⟩

theorem cr_driftL {h : List ik_E} {pl : Int} {mi : Int} {sd : Int} {ka : Int} {pa : Int} {fa : Int} {kb : Int} {pb : Int} {fb : Int} {xa : Int} {xb : Int} {s : Nat} {cn : List Int} {go : List Int} {ch : List Int} {n : Int} {f : Nat → Int} {gt : List Int} {gd : List Int} (q0 : 2 ≤ pl ∧ pl ≤ 12) (q1 : s < 4096) (q2 : 0 ≤ sd ∧ sd < 2147483648) (q3 : 0 ≤ mi ∧ mi < 2000000000) (q4 : ∀ x : Int, 0 ≤ x → x < pl - 1 → 1 ≤ cn.getD x.toNat 0 ∧ ∀ j : Int, 4 * x ≤ j → j < 4 * x + cn.getD x.toNat 0 → 0 ≤ ch.getD j.toNat 0 ∧ ch.getD j.toNat 0 ≤ 100) (q5 : ∀ x : Int, 0 ≤ x → x < pl → 0 ≤ cn.getD x.toNat 0 ∧ cn.getD x.toNat 0 ≤ 4) (q6 : ∀ x : Int, 0 ≤ x → x < pl - 1 → mx_ok pl (mx_w cn go ch s x)) (q7 : 0 ≤ ka ∧ ka ≤ 2) (q8 : 0 ≤ kb ∧ kb ≤ 2) (q9 : 0 ≤ fa ∧ fa ≤ 30) (q10 : 0 ≤ fb ∧ fb ≤ 30) (q11 : 0 ≤ pa ∧ pa < pl) (q12 : 0 ≤ pb ∧ pb < pl) (q13 : fa ≤ mi → 0 ≤ xa) (q14 : fb ≤ mi → 0 ≤ xb) (q15 : -1 ≤ xa ∧ xa < pl) (q16 : -1 ≤ xb ∧ xb < pl) (q17 : 0 ≤ n ∧ n ≤ 200) (q18 : mi < 1999999000)  : ∀ (k : Nat) (i : Int) (x : Int) (y : Int) (m : Int) (d : Int) (w : Int) (g1 : List Int) (d1 : List Int) (u : List ik_E) (u66 : cE u 66 (.inr (10, [fI pl, .ref 67, .ref 68, .ref 69, fI ((s : Nat) : Int), .ref 70, .ref 71, fI m, fI d, .ref 72, fI (f 10), fI (f 11), fI (f 12), fJ (f 13), fI (f 14), fI (f 15), fI (f 16), fI (f 17), .ref 73, .ref 74, .ref 75, .ref 76, .ref 77, .ref 78, fI w, .ref 79, .ref 80, .ref 81, .ref 82, .ref 83, .ref 84, .ref 85, fJ (f 32), fJ (f 33), .ref 86, .ref 87, fI (f 36), .ref 88, .ref 89, .ref 90, .ref 91, .ref 92, .ref 93]))) (u67 : cE u 67 (.inl (.int, fA cn))) (n67 : cn.length = 12) (u68 : cE u 68 (.inl (.int, fA go))) (n68 : go.length = 48) (u69 : cE u 69 (.inl (.int, fA ch))) (n69 : ch.length = 48) (u70 : cE u 70 (.inl (.int, fA [ka, pa, fa, kb, pb, fb]))) (u71 : cE u 71 (.inl (.int, fA [x, y]))) (u77 : cE u 77 (.inl (.int, fA g1))) (n77 : g1.length = 5) (u78 : cE u 78 (.inl (.int, fA d1))) (n78 : d1.length = 5) (ul : u.length = 94) (F : hfr [66, 71, 77, 78] h u) (hi : 0 ≤ i ∧ i ≤ n) (hx0 : fa ≤ m → 0 ≤ x) (hx1 : fb ≤ m → 0 ≤ y) (hx2 : -1 ≤ x ∧ x < pl) (hx3 : -1 ≤ y ∧ y < pl) (hd : 0 ≤ d ∧ d < 2147483648) (hm : m = mi + i) (he : (mx_dr (fun x => mx_w cn go ch s x) (pl - 1) ka pa fa kb pb fb n.toNat xa xb mi sd) = (mx_dr (fun x => mx_w cn go ch s x) (pl - 1) ka pa fa kb pb fb ((n - i).toNat) x y m d)) (hk : n - i < (k : Int)), ik_G 198 2 [some (.ref 66), some (fI n), some (fI i)] [] u (fun rv h' => ∃ (w' : Int) (gt' : List Int) (gd' : List Int), rv = [fI (mx_en (pl - 1) (mx_dr (fun x => mx_w cn go ch s x) (pl - 1) ka pa fa kb pb fb n.toNat xa xb mi sd).1 (mx_dr (fun x => mx_w cn go ch s x) (pl - 1) ka pa fa kb pb fb n.toNat xa xb mi sd).2.1)] ∧ cE h' 66 (.inr (10, [fI pl, .ref 67, .ref 68, .ref 69, fI ((s : Nat) : Int), .ref 70, .ref 71, fI ((mx_dr (fun x => mx_w cn go ch s x) (pl - 1) ka pa fa kb pb fb n.toNat xa xb mi sd).2.2.1), fI ((mx_dr (fun x => mx_w cn go ch s x) (pl - 1) ka pa fa kb pb fb n.toNat xa xb mi sd).2.2.2), .ref 72, fI (f 10), fI (f 11), fI (f 12), fJ (f 13), fI (f 14), fI (f 15), fI (f 16), fI (f 17), .ref 73, .ref 74, .ref 75, .ref 76, .ref 77, .ref 78, fI w', .ref 79, .ref 80, .ref 81, .ref 82, .ref 83, .ref 84, .ref 85, fJ (f 32), fJ (f 33), .ref 86, .ref 87, fI (f 36), .ref 88, .ref 89, .ref 90, .ref 91, .ref 92, .ref 93])) ∧ cE h' 71 (.inl (.int, fA [(mx_dr (fun x => mx_w cn go ch s x) (pl - 1) ka pa fa kb pb fb n.toNat xa xb mi sd).1, (mx_dr (fun x => mx_w cn go ch s x) (pl - 1) ka pa fa kb pb fb n.toNat xa xb mi sd).2.1])) ∧ cE h' 77 (.inl (.int, fA gt')) ∧ gt'.length = 5 ∧ cE h' 78 (.inl (.int, fA gd')) ∧ gd'.length = 5 ∧ hfr [66, 71, 77, 78] h h') := by
  intro k
  induction k with
  | zero => intro i x y m d w g1 d1 u u66 u67 n67 u68 n68 u69 n69 u70 u71 u77 n77 u78 n78 ul F hi hx0 hx1 hx2 hx3 hd hm he hk; omega
  | succ k ih =>
    intro i x y m d w g1 d1 u u66 u67 n67 u68 n68 u69 n69 u70 u71 u77 n77 u78 n78 ul F hi hx0 hx1 hx2 hx3 hd hm he hk
    refine ik_Wk 2 (pc' := 4) (loc' := [some (.ref 66), some (fI n), some (fI i)]) (st' := [fI n, fI i]) (h' := u) (cl' := 0) (sl' := 0) rfl ?_
    refine fw_ic_ge rfl rfl (by omega) (by omega) (by omega) (by omega) (fun hc1 => ?_) (fun hc1 => ?_)
    · refine ik_Wk 1 (pc' := 41) (loc' := [some (.ref 66), some (fI n), some (fI i)]) (st' := [.ref 66]) (h' := u) (cl' := 0) (sl' := 0) rfl ?_
      refine ik_Wc 197 1 0 [.ref 66] [] rfl rfl rfl (by decide) rfl rfl (fw_rec ul rfl u66 rfl (by decide)) ?_
      refine ik_Wk 0 (pc' := 0) (loc' := [some (.ref 66)]) (st' := []) (h' := u) (cl' := 0) (sl' := 0) rfl ?_
      refine ik_Wk 1 (pc' := 1) (loc' := [some (.ref 66)]) (st' := [.ref 66]) (h' := u) (cl' := 0) (sl' := 0) rfl ?_
      refine fw_gf rfl rfl u66 rfl ?_
      refine ik_Wk 1 (pc' := 5) (loc' := [some (.ref 66)]) (st' := [fI 0, .ref 71]) (h' := u) (cl' := 0) (sl' := 0) rfl ?_
      refine fw_ial (z := 0) rfl u71 (by decide) (Nat.le_of_ble_eq_true rfl) (by decide) ?_
      refine ik_Wk 0 (pc' := 6) (loc' := [some (.ref 66)]) (st' := [fI x]) (h' := u) (cl' := 0) (sl' := 0) rfl ?_
      refine ik_Wk 1 (pc' := 7) (loc' := [some (.ref 66)]) (st' := [.ref 66, fI x]) (h' := u) (cl' := 0) (sl' := 0) rfl ?_
      refine ik_Wc 130 1 0 [.ref 66] [fI x] rfl rfl rfl (by decide) rfl rfl (fw_rec ul rfl u66 rfl (by decide)) ?_
      refine ik_Wk 0 (pc' := 0) (loc' := [some (.ref 66)]) (st' := []) (h' := u) (cl' := 0) (sl' := 0) rfl ?_
      refine ik_Wk 1 (pc' := 1) (loc' := [some (.ref 66)]) (st' := [.ref 66]) (h' := u) (cl' := 0) (sl' := 0) rfl ?_
      refine fw_gf rfl rfl u66 rfl ?_
      refine ik_Wk 1 (pc' := 5) (loc' := [some (.ref 66)]) (st' := [fI 1, fI pl]) (h' := u) (cl' := 0) (sl' := 0) rfl ?_
      refine fw_sub rfl ?_
      refine ik_Wret rfl rfl ⟨_, _, rfl, rfl, ?_⟩
      refine ik_Wk 0 (pc' := 10) (loc' := [some (.ref 66)]) (st' := [fI (pl - 1), fI x]) (h' := u) (cl' := 0) (sl' := 0) rfl ?_
      refine fw_ic_ne rfl rfl (by omega) (by omega) (by omega) (by omega) (fun hc2 => ?_) (fun hc2 => ?_)
      · refine ik_Wk 3 (pc' := 19) (loc' := [some (.ref 66)]) (st' := [.ref 66, fI 1]) (h' := u) (cl' := 0) (sl' := 0) rfl ?_
        refine fw_gf rfl rfl u66 rfl ?_
        refine ik_Wk 1 (pc' := 23) (loc' := [some (.ref 66)]) (st' := [fI 1, .ref 71, fI 1]) (h' := u) (cl' := 0) (sl' := 0) rfl ?_
        refine fw_ial (z := 1) rfl u71 (by decide) (Nat.le_of_ble_eq_true rfl) (by decide) ?_
        refine ik_Wk 0 (pc' := 24) (loc' := [some (.ref 66)]) (st' := [fI y, fI 1]) (h' := u) (cl' := 0) (sl' := 0) rfl ?_
        refine ik_Wk 1 (pc' := 25) (loc' := [some (.ref 66)]) (st' := [.ref 66, fI y, fI 1]) (h' := u) (cl' := 0) (sl' := 0) rfl ?_
        refine ik_Wc 130 1 0 [.ref 66] [fI y, fI 1] rfl rfl rfl (by decide) rfl rfl (fw_rec ul rfl u66 rfl (by decide)) ?_
        refine ik_Wk 0 (pc' := 0) (loc' := [some (.ref 66)]) (st' := []) (h' := u) (cl' := 0) (sl' := 0) rfl ?_
        refine ik_Wk 1 (pc' := 1) (loc' := [some (.ref 66)]) (st' := [.ref 66]) (h' := u) (cl' := 0) (sl' := 0) rfl ?_
        refine fw_gf rfl rfl u66 rfl ?_
        refine ik_Wk 1 (pc' := 5) (loc' := [some (.ref 66)]) (st' := [fI 1, fI pl]) (h' := u) (cl' := 0) (sl' := 0) rfl ?_
        refine fw_sub rfl ?_
        refine ik_Wret rfl rfl ⟨_, _, rfl, rfl, ?_⟩
        refine ik_Wk 0 (pc' := 28) (loc' := [some (.ref 66)]) (st' := [fI (pl - 1), fI y, fI 1]) (h' := u) (cl' := 0) (sl' := 0) rfl ?_
        refine fw_ic_ne rfl rfl (by omega) (by omega) (by omega) (by omega) (fun hc3 => ?_) (fun hc3 => ?_)
        · refine ik_Wk 2 (pc' := 36) (loc' := [some (.ref 66)]) (st' := [fI 2, fI 1]) (h' := u) (cl' := 0) (sl' := 0) rfl ?_
          refine fw_add rfl ?_
          refine ik_Wret rfl rfl ⟨_, _, rfl, rfl, ?_⟩
          refine ik_Wk 0 (pc' := 44) (loc' := [some (.ref 66), some (fI n), some (fI i)]) (st' := [fI 3]) (h' := u) (cl' := 0) (sl' := 0) rfl ?_
          have e0 : (mx_dr (fun x => mx_w cn go ch s x) (pl - 1) ka pa fa kb pb fb ((n - i).toNat) x y m d) = (x, y, m, d) := by
            first
            | exact mx_dr_b (by omega)
            | (have q : (n - i).toNat = 0 := by omega); rw [q]; rfl
          have ev : mx_en (pl - 1) x y = 3 := by unfold mx_en; (repeat' split) <;> omega
          rw [he, e0]
          exact ik_Wret rfl rfl ⟨_, _, rfl, rfl, rfl, rfl, ⟨w, g1, d1, (congrArg (fun z => [fI z]) ev.symm), u66, u71, u77, n77, u78, n78, F⟩⟩
        · refine ik_Wk 1 (pc' := 36) (loc' := [some (.ref 66)]) (st' := [fI 0, fI 1]) (h' := u) (cl' := 0) (sl' := 0) rfl ?_
          refine fw_add rfl ?_
          refine ik_Wret rfl rfl ⟨_, _, rfl, rfl, ?_⟩
          refine ik_Wk 0 (pc' := 44) (loc' := [some (.ref 66), some (fI n), some (fI i)]) (st' := [fI 1]) (h' := u) (cl' := 0) (sl' := 0) rfl ?_
          have e0 : (mx_dr (fun x => mx_w cn go ch s x) (pl - 1) ka pa fa kb pb fb ((n - i).toNat) x y m d) = (x, y, m, d) := by
            first
            | exact mx_dr_b (by omega)
            | (have q : (n - i).toNat = 0 := by omega); rw [q]; rfl
          have ev : mx_en (pl - 1) x y = 1 := by unfold mx_en; (repeat' split) <;> omega
          rw [he, e0]
          exact ik_Wret rfl rfl ⟨_, _, rfl, rfl, rfl, rfl, ⟨w, g1, d1, (congrArg (fun z => [fI z]) ev.symm), u66, u71, u77, n77, u78, n78, F⟩⟩
      · refine ik_Wk 2 (pc' := 19) (loc' := [some (.ref 66)]) (st' := [.ref 66, fI 0]) (h' := u) (cl' := 0) (sl' := 0) rfl ?_
        refine fw_gf rfl rfl u66 rfl ?_
        refine ik_Wk 1 (pc' := 23) (loc' := [some (.ref 66)]) (st' := [fI 1, .ref 71, fI 0]) (h' := u) (cl' := 0) (sl' := 0) rfl ?_
        refine fw_ial (z := 1) rfl u71 (by decide) (Nat.le_of_ble_eq_true rfl) (by decide) ?_
        refine ik_Wk 0 (pc' := 24) (loc' := [some (.ref 66)]) (st' := [fI y, fI 0]) (h' := u) (cl' := 0) (sl' := 0) rfl ?_
        refine ik_Wk 1 (pc' := 25) (loc' := [some (.ref 66)]) (st' := [.ref 66, fI y, fI 0]) (h' := u) (cl' := 0) (sl' := 0) rfl ?_
        refine ik_Wc 130 1 0 [.ref 66] [fI y, fI 0] rfl rfl rfl (by decide) rfl rfl (fw_rec ul rfl u66 rfl (by decide)) ?_
        refine ik_Wk 0 (pc' := 0) (loc' := [some (.ref 66)]) (st' := []) (h' := u) (cl' := 0) (sl' := 0) rfl ?_
        refine ik_Wk 1 (pc' := 1) (loc' := [some (.ref 66)]) (st' := [.ref 66]) (h' := u) (cl' := 0) (sl' := 0) rfl ?_
        refine fw_gf rfl rfl u66 rfl ?_
        refine ik_Wk 1 (pc' := 5) (loc' := [some (.ref 66)]) (st' := [fI 1, fI pl]) (h' := u) (cl' := 0) (sl' := 0) rfl ?_
        refine fw_sub rfl ?_
        refine ik_Wret rfl rfl ⟨_, _, rfl, rfl, ?_⟩
        refine ik_Wk 0 (pc' := 28) (loc' := [some (.ref 66)]) (st' := [fI (pl - 1), fI y, fI 0]) (h' := u) (cl' := 0) (sl' := 0) rfl ?_
        refine fw_ic_ne rfl rfl (by omega) (by omega) (by omega) (by omega) (fun hc4 => ?_) (fun hc4 => ?_)
        · refine ik_Wk 2 (pc' := 36) (loc' := [some (.ref 66)]) (st' := [fI 2, fI 0]) (h' := u) (cl' := 0) (sl' := 0) rfl ?_
          refine fw_add rfl ?_
          refine ik_Wret rfl rfl ⟨_, _, rfl, rfl, ?_⟩
          refine ik_Wk 0 (pc' := 44) (loc' := [some (.ref 66), some (fI n), some (fI i)]) (st' := [fI 2]) (h' := u) (cl' := 0) (sl' := 0) rfl ?_
          have e0 : (mx_dr (fun x => mx_w cn go ch s x) (pl - 1) ka pa fa kb pb fb ((n - i).toNat) x y m d) = (x, y, m, d) := by
            first
            | exact mx_dr_b (by omega)
            | (have q : (n - i).toNat = 0 := by omega); rw [q]; rfl
          have ev : mx_en (pl - 1) x y = 2 := by unfold mx_en; (repeat' split) <;> omega
          rw [he, e0]
          exact ik_Wret rfl rfl ⟨_, _, rfl, rfl, rfl, rfl, ⟨w, g1, d1, (congrArg (fun z => [fI z]) ev.symm), u66, u71, u77, n77, u78, n78, F⟩⟩
        · refine ik_Wk 1 (pc' := 36) (loc' := [some (.ref 66)]) (st' := [fI 0, fI 0]) (h' := u) (cl' := 0) (sl' := 0) rfl ?_
          refine fw_add rfl ?_
          refine ik_Wret rfl rfl ⟨_, _, rfl, rfl, ?_⟩
          refine ik_Wk 0 (pc' := 44) (loc' := [some (.ref 66), some (fI n), some (fI i)]) (st' := [fI 0]) (h' := u) (cl' := 0) (sl' := 0) rfl ?_
          have e0 : (mx_dr (fun x => mx_w cn go ch s x) (pl - 1) ka pa fa kb pb fb ((n - i).toNat) x y m d) = (x, y, m, d) := by
            first
            | exact mx_dr_b (by omega)
            | (have q : (n - i).toNat = 0 := by omega); rw [q]; rfl
          have ev : mx_en (pl - 1) x y = 0 := by unfold mx_en; (repeat' split) <;> omega
          rw [he, e0]
          exact ik_Wret rfl rfl ⟨_, _, rfl, rfl, rfl, rfl, ⟨w, g1, d1, (congrArg (fun z => [fI z]) ev.symm), u66, u71, u77, n77, u78, n78, F⟩⟩
    · refine ik_Wk 1 (pc' := 8) (loc' := [some (.ref 66), some (fI n), some (fI i)]) (st' := [.ref 66]) (h' := u) (cl' := 0) (sl' := 0) rfl ?_
      refine ik_Wc 197 1 0 [.ref 66] [] rfl rfl rfl (by decide) rfl rfl (fw_rec ul rfl u66 rfl (by decide)) ?_
      refine ik_Wk 0 (pc' := 0) (loc' := [some (.ref 66)]) (st' := []) (h' := u) (cl' := 0) (sl' := 0) rfl ?_
      refine ik_Wk 1 (pc' := 1) (loc' := [some (.ref 66)]) (st' := [.ref 66]) (h' := u) (cl' := 0) (sl' := 0) rfl ?_
      refine fw_gf rfl rfl u66 rfl ?_
      refine ik_Wk 1 (pc' := 5) (loc' := [some (.ref 66)]) (st' := [fI 0, .ref 71]) (h' := u) (cl' := 0) (sl' := 0) rfl ?_
      refine fw_ial (z := 0) rfl u71 (by decide) (Nat.le_of_ble_eq_true rfl) (by decide) ?_
      refine ik_Wk 0 (pc' := 6) (loc' := [some (.ref 66)]) (st' := [fI x]) (h' := u) (cl' := 0) (sl' := 0) rfl ?_
      refine ik_Wk 1 (pc' := 7) (loc' := [some (.ref 66)]) (st' := [.ref 66, fI x]) (h' := u) (cl' := 0) (sl' := 0) rfl ?_
      refine ik_Wc 130 1 0 [.ref 66] [fI x] rfl rfl rfl (by decide) rfl rfl (fw_rec ul rfl u66 rfl (by decide)) ?_
      refine ik_Wk 0 (pc' := 0) (loc' := [some (.ref 66)]) (st' := []) (h' := u) (cl' := 0) (sl' := 0) rfl ?_
      refine ik_Wk 1 (pc' := 1) (loc' := [some (.ref 66)]) (st' := [.ref 66]) (h' := u) (cl' := 0) (sl' := 0) rfl ?_
      refine fw_gf rfl rfl u66 rfl ?_
      refine ik_Wk 1 (pc' := 5) (loc' := [some (.ref 66)]) (st' := [fI 1, fI pl]) (h' := u) (cl' := 0) (sl' := 0) rfl ?_
      refine fw_sub rfl ?_
      refine ik_Wret rfl rfl ⟨_, _, rfl, rfl, ?_⟩
      refine ik_Wk 0 (pc' := 10) (loc' := [some (.ref 66)]) (st' := [fI (pl - 1), fI x]) (h' := u) (cl' := 0) (sl' := 0) rfl ?_
      refine fw_ic_ne rfl rfl (by omega) (by omega) (by omega) (by omega) (fun hc5 => ?_) (fun hc5 => ?_)
      · refine ik_Wk 3 (pc' := 19) (loc' := [some (.ref 66)]) (st' := [.ref 66, fI 1]) (h' := u) (cl' := 0) (sl' := 0) rfl ?_
        refine fw_gf rfl rfl u66 rfl ?_
        refine ik_Wk 1 (pc' := 23) (loc' := [some (.ref 66)]) (st' := [fI 1, .ref 71, fI 1]) (h' := u) (cl' := 0) (sl' := 0) rfl ?_
        refine fw_ial (z := 1) rfl u71 (by decide) (Nat.le_of_ble_eq_true rfl) (by decide) ?_
        refine ik_Wk 0 (pc' := 24) (loc' := [some (.ref 66)]) (st' := [fI y, fI 1]) (h' := u) (cl' := 0) (sl' := 0) rfl ?_
        refine ik_Wk 1 (pc' := 25) (loc' := [some (.ref 66)]) (st' := [.ref 66, fI y, fI 1]) (h' := u) (cl' := 0) (sl' := 0) rfl ?_
        refine ik_Wc 130 1 0 [.ref 66] [fI y, fI 1] rfl rfl rfl (by decide) rfl rfl (fw_rec ul rfl u66 rfl (by decide)) ?_
        refine ik_Wk 0 (pc' := 0) (loc' := [some (.ref 66)]) (st' := []) (h' := u) (cl' := 0) (sl' := 0) rfl ?_
        refine ik_Wk 1 (pc' := 1) (loc' := [some (.ref 66)]) (st' := [.ref 66]) (h' := u) (cl' := 0) (sl' := 0) rfl ?_
        refine fw_gf rfl rfl u66 rfl ?_
        refine ik_Wk 1 (pc' := 5) (loc' := [some (.ref 66)]) (st' := [fI 1, fI pl]) (h' := u) (cl' := 0) (sl' := 0) rfl ?_
        refine fw_sub rfl ?_
        refine ik_Wret rfl rfl ⟨_, _, rfl, rfl, ?_⟩
        refine ik_Wk 0 (pc' := 28) (loc' := [some (.ref 66)]) (st' := [fI (pl - 1), fI y, fI 1]) (h' := u) (cl' := 0) (sl' := 0) rfl ?_
        refine fw_ic_ne rfl rfl (by omega) (by omega) (by omega) (by omega) (fun hc6 => ?_) (fun hc6 => ?_)
        · refine ik_Wk 2 (pc' := 36) (loc' := [some (.ref 66)]) (st' := [fI 2, fI 1]) (h' := u) (cl' := 0) (sl' := 0) rfl ?_
          refine fw_add rfl ?_
          refine ik_Wret rfl rfl ⟨_, _, rfl, rfl, ?_⟩
          refine ik_Wk 0 (pc' := 11) (loc' := [some (.ref 66), some (fI n), some (fI i)]) (st' := [fI 3]) (h' := u) (cl' := 0) (sl' := 0) rfl ?_
          refine fw_if_ne rfl rfl (by omega) (by omega) (fun hc7 => absurd hc7 (by omega)) (fun hc7 => ?_)
          refine ik_Wk 1 (pc' := 41) (loc' := [some (.ref 66), some (fI n), some (fI i)]) (st' := [.ref 66]) (h' := u) (cl' := 0) (sl' := 0) rfl ?_
          refine ik_Wc 197 1 0 [.ref 66] [] rfl rfl rfl (by decide) rfl rfl (fw_rec ul rfl u66 rfl (by decide)) ?_
          refine ik_Wk 0 (pc' := 0) (loc' := [some (.ref 66)]) (st' := []) (h' := u) (cl' := 0) (sl' := 0) rfl ?_
          refine ik_Wk 1 (pc' := 1) (loc' := [some (.ref 66)]) (st' := [.ref 66]) (h' := u) (cl' := 0) (sl' := 0) rfl ?_
          refine fw_gf rfl rfl u66 rfl ?_
          refine ik_Wk 1 (pc' := 5) (loc' := [some (.ref 66)]) (st' := [fI 0, .ref 71]) (h' := u) (cl' := 0) (sl' := 0) rfl ?_
          refine fw_ial (z := 0) rfl u71 (by decide) (Nat.le_of_ble_eq_true rfl) (by decide) ?_
          refine ik_Wk 0 (pc' := 6) (loc' := [some (.ref 66)]) (st' := [fI x]) (h' := u) (cl' := 0) (sl' := 0) rfl ?_
          refine ik_Wk 1 (pc' := 7) (loc' := [some (.ref 66)]) (st' := [.ref 66, fI x]) (h' := u) (cl' := 0) (sl' := 0) rfl ?_
          refine ik_Wc 130 1 0 [.ref 66] [fI x] rfl rfl rfl (by decide) rfl rfl (fw_rec ul rfl u66 rfl (by decide)) ?_
          refine ik_Wk 0 (pc' := 0) (loc' := [some (.ref 66)]) (st' := []) (h' := u) (cl' := 0) (sl' := 0) rfl ?_
          refine ik_Wk 1 (pc' := 1) (loc' := [some (.ref 66)]) (st' := [.ref 66]) (h' := u) (cl' := 0) (sl' := 0) rfl ?_
          refine fw_gf rfl rfl u66 rfl ?_
          refine ik_Wk 1 (pc' := 5) (loc' := [some (.ref 66)]) (st' := [fI 1, fI pl]) (h' := u) (cl' := 0) (sl' := 0) rfl ?_
          refine fw_sub rfl ?_
          refine ik_Wret rfl rfl ⟨_, _, rfl, rfl, ?_⟩
          refine ik_Wk 0 (pc' := 10) (loc' := [some (.ref 66)]) (st' := [fI (pl - 1), fI x]) (h' := u) (cl' := 0) (sl' := 0) rfl ?_
          refine fw_ic_ne rfl rfl (by omega) (by omega) (by omega) (by omega) (fun hc8 => ?_) (fun hc8 => ?_)
          · refine ik_Wk 3 (pc' := 19) (loc' := [some (.ref 66)]) (st' := [.ref 66, fI 1]) (h' := u) (cl' := 0) (sl' := 0) rfl ?_
            refine fw_gf rfl rfl u66 rfl ?_
            refine ik_Wk 1 (pc' := 23) (loc' := [some (.ref 66)]) (st' := [fI 1, .ref 71, fI 1]) (h' := u) (cl' := 0) (sl' := 0) rfl ?_
            refine fw_ial (z := 1) rfl u71 (by decide) (Nat.le_of_ble_eq_true rfl) (by decide) ?_
            refine ik_Wk 0 (pc' := 24) (loc' := [some (.ref 66)]) (st' := [fI y, fI 1]) (h' := u) (cl' := 0) (sl' := 0) rfl ?_
            refine ik_Wk 1 (pc' := 25) (loc' := [some (.ref 66)]) (st' := [.ref 66, fI y, fI 1]) (h' := u) (cl' := 0) (sl' := 0) rfl ?_
            refine ik_Wc 130 1 0 [.ref 66] [fI y, fI 1] rfl rfl rfl (by decide) rfl rfl (fw_rec ul rfl u66 rfl (by decide)) ?_
            refine ik_Wk 0 (pc' := 0) (loc' := [some (.ref 66)]) (st' := []) (h' := u) (cl' := 0) (sl' := 0) rfl ?_
            refine ik_Wk 1 (pc' := 1) (loc' := [some (.ref 66)]) (st' := [.ref 66]) (h' := u) (cl' := 0) (sl' := 0) rfl ?_
            refine fw_gf rfl rfl u66 rfl ?_
            refine ik_Wk 1 (pc' := 5) (loc' := [some (.ref 66)]) (st' := [fI 1, fI pl]) (h' := u) (cl' := 0) (sl' := 0) rfl ?_
            refine fw_sub rfl ?_
            refine ik_Wret rfl rfl ⟨_, _, rfl, rfl, ?_⟩
            refine ik_Wk 0 (pc' := 28) (loc' := [some (.ref 66)]) (st' := [fI (pl - 1), fI y, fI 1]) (h' := u) (cl' := 0) (sl' := 0) rfl ?_
            refine fw_ic_ne rfl rfl (by omega) (by omega) (by omega) (by omega) (fun hc9 => ?_) (fun hc9 => ?_)
            · refine ik_Wk 2 (pc' := 36) (loc' := [some (.ref 66)]) (st' := [fI 2, fI 1]) (h' := u) (cl' := 0) (sl' := 0) rfl ?_
              refine fw_add rfl ?_
              refine ik_Wret rfl rfl ⟨_, _, rfl, rfl, ?_⟩
              refine ik_Wk 0 (pc' := 44) (loc' := [some (.ref 66), some (fI n), some (fI i)]) (st' := [fI 3]) (h' := u) (cl' := 0) (sl' := 0) rfl ?_
              have e0 : (mx_dr (fun x => mx_w cn go ch s x) (pl - 1) ka pa fa kb pb fb ((n - i).toNat) x y m d) = (x, y, m, d) := by
                first
                | exact mx_dr_b (by omega)
                | (have q : (n - i).toNat = 0 := by omega); rw [q]; rfl
              have ev : mx_en (pl - 1) x y = 3 := by unfold mx_en; (repeat' split) <;> omega
              rw [he, e0]
              exact ik_Wret rfl rfl ⟨_, _, rfl, rfl, rfl, rfl, ⟨w, g1, d1, (congrArg (fun z => [fI z]) ev.symm), u66, u71, u77, n77, u78, n78, F⟩⟩
            · refine ik_Wk 1 (pc' := 36) (loc' := [some (.ref 66)]) (st' := [fI 0, fI 1]) (h' := u) (cl' := 0) (sl' := 0) rfl ?_
              refine fw_add rfl ?_
              refine ik_Wret rfl rfl ⟨_, _, rfl, rfl, ?_⟩
              refine ik_Wk 0 (pc' := 44) (loc' := [some (.ref 66), some (fI n), some (fI i)]) (st' := [fI 1]) (h' := u) (cl' := 0) (sl' := 0) rfl ?_
              have e0 : (mx_dr (fun x => mx_w cn go ch s x) (pl - 1) ka pa fa kb pb fb ((n - i).toNat) x y m d) = (x, y, m, d) := by
                first
                | exact mx_dr_b (by omega)
                | (have q : (n - i).toNat = 0 := by omega); rw [q]; rfl
              have ev : mx_en (pl - 1) x y = 1 := by unfold mx_en; (repeat' split) <;> omega
              rw [he, e0]
              exact ik_Wret rfl rfl ⟨_, _, rfl, rfl, rfl, rfl, ⟨w, g1, d1, (congrArg (fun z => [fI z]) ev.symm), u66, u71, u77, n77, u78, n78, F⟩⟩
          · refine ik_Wk 2 (pc' := 19) (loc' := [some (.ref 66)]) (st' := [.ref 66, fI 0]) (h' := u) (cl' := 0) (sl' := 0) rfl ?_
            refine fw_gf rfl rfl u66 rfl ?_
            refine ik_Wk 1 (pc' := 23) (loc' := [some (.ref 66)]) (st' := [fI 1, .ref 71, fI 0]) (h' := u) (cl' := 0) (sl' := 0) rfl ?_
            refine fw_ial (z := 1) rfl u71 (by decide) (Nat.le_of_ble_eq_true rfl) (by decide) ?_
            refine ik_Wk 0 (pc' := 24) (loc' := [some (.ref 66)]) (st' := [fI y, fI 0]) (h' := u) (cl' := 0) (sl' := 0) rfl ?_
            refine ik_Wk 1 (pc' := 25) (loc' := [some (.ref 66)]) (st' := [.ref 66, fI y, fI 0]) (h' := u) (cl' := 0) (sl' := 0) rfl ?_
            refine ik_Wc 130 1 0 [.ref 66] [fI y, fI 0] rfl rfl rfl (by decide) rfl rfl (fw_rec ul rfl u66 rfl (by decide)) ?_
            refine ik_Wk 0 (pc' := 0) (loc' := [some (.ref 66)]) (st' := []) (h' := u) (cl' := 0) (sl' := 0) rfl ?_
            refine ik_Wk 1 (pc' := 1) (loc' := [some (.ref 66)]) (st' := [.ref 66]) (h' := u) (cl' := 0) (sl' := 0) rfl ?_
            refine fw_gf rfl rfl u66 rfl ?_
            refine ik_Wk 1 (pc' := 5) (loc' := [some (.ref 66)]) (st' := [fI 1, fI pl]) (h' := u) (cl' := 0) (sl' := 0) rfl ?_
            refine fw_sub rfl ?_
            refine ik_Wret rfl rfl ⟨_, _, rfl, rfl, ?_⟩
            refine ik_Wk 0 (pc' := 28) (loc' := [some (.ref 66)]) (st' := [fI (pl - 1), fI y, fI 0]) (h' := u) (cl' := 0) (sl' := 0) rfl ?_
            refine fw_ic_ne rfl rfl (by omega) (by omega) (by omega) (by omega) (fun hc10 => ?_) (fun hc10 => ?_)
            · refine ik_Wk 2 (pc' := 36) (loc' := [some (.ref 66)]) (st' := [fI 2, fI 0]) (h' := u) (cl' := 0) (sl' := 0) rfl ?_
              refine fw_add rfl ?_
              refine ik_Wret rfl rfl ⟨_, _, rfl, rfl, ?_⟩
              refine ik_Wk 0 (pc' := 44) (loc' := [some (.ref 66), some (fI n), some (fI i)]) (st' := [fI 2]) (h' := u) (cl' := 0) (sl' := 0) rfl ?_
              have e0 : (mx_dr (fun x => mx_w cn go ch s x) (pl - 1) ka pa fa kb pb fb ((n - i).toNat) x y m d) = (x, y, m, d) := by
                first
                | exact mx_dr_b (by omega)
                | (have q : (n - i).toNat = 0 := by omega); rw [q]; rfl
              have ev : mx_en (pl - 1) x y = 2 := by unfold mx_en; (repeat' split) <;> omega
              rw [he, e0]
              exact ik_Wret rfl rfl ⟨_, _, rfl, rfl, rfl, rfl, ⟨w, g1, d1, (congrArg (fun z => [fI z]) ev.symm), u66, u71, u77, n77, u78, n78, F⟩⟩
            · refine ik_Wk 1 (pc' := 36) (loc' := [some (.ref 66)]) (st' := [fI 0, fI 0]) (h' := u) (cl' := 0) (sl' := 0) rfl ?_
              refine fw_add rfl ?_
              refine ik_Wret rfl rfl ⟨_, _, rfl, rfl, ?_⟩
              refine ik_Wk 0 (pc' := 44) (loc' := [some (.ref 66), some (fI n), some (fI i)]) (st' := [fI 0]) (h' := u) (cl' := 0) (sl' := 0) rfl ?_
              have e0 : (mx_dr (fun x => mx_w cn go ch s x) (pl - 1) ka pa fa kb pb fb ((n - i).toNat) x y m d) = (x, y, m, d) := by
                first
                | exact mx_dr_b (by omega)
                | (have q : (n - i).toNat = 0 := by omega); rw [q]; rfl
              have ev : mx_en (pl - 1) x y = 0 := by unfold mx_en; (repeat' split) <;> omega
              rw [he, e0]
              exact ik_Wret rfl rfl ⟨_, _, rfl, rfl, rfl, rfl, ⟨w, g1, d1, (congrArg (fun z => [fI z]) ev.symm), u66, u71, u77, n77, u78, n78, F⟩⟩
        · refine ik_Wk 1 (pc' := 36) (loc' := [some (.ref 66)]) (st' := [fI 0, fI 1]) (h' := u) (cl' := 0) (sl' := 0) rfl ?_
          refine fw_add rfl ?_
          refine ik_Wret rfl rfl ⟨_, _, rfl, rfl, ?_⟩
          refine ik_Wk 0 (pc' := 11) (loc' := [some (.ref 66), some (fI n), some (fI i)]) (st' := [fI 1]) (h' := u) (cl' := 0) (sl' := 0) rfl ?_
          refine fw_if_ne rfl rfl (by omega) (by omega) (fun hc11 => absurd hc11 (by omega)) (fun hc11 => ?_)
          refine ik_Wk 1 (pc' := 41) (loc' := [some (.ref 66), some (fI n), some (fI i)]) (st' := [.ref 66]) (h' := u) (cl' := 0) (sl' := 0) rfl ?_
          refine ik_Wc 197 1 0 [.ref 66] [] rfl rfl rfl (by decide) rfl rfl (fw_rec ul rfl u66 rfl (by decide)) ?_
          refine ik_Wk 0 (pc' := 0) (loc' := [some (.ref 66)]) (st' := []) (h' := u) (cl' := 0) (sl' := 0) rfl ?_
          refine ik_Wk 1 (pc' := 1) (loc' := [some (.ref 66)]) (st' := [.ref 66]) (h' := u) (cl' := 0) (sl' := 0) rfl ?_
          refine fw_gf rfl rfl u66 rfl ?_
          refine ik_Wk 1 (pc' := 5) (loc' := [some (.ref 66)]) (st' := [fI 0, .ref 71]) (h' := u) (cl' := 0) (sl' := 0) rfl ?_
          refine fw_ial (z := 0) rfl u71 (by decide) (Nat.le_of_ble_eq_true rfl) (by decide) ?_
          refine ik_Wk 0 (pc' := 6) (loc' := [some (.ref 66)]) (st' := [fI x]) (h' := u) (cl' := 0) (sl' := 0) rfl ?_
          refine ik_Wk 1 (pc' := 7) (loc' := [some (.ref 66)]) (st' := [.ref 66, fI x]) (h' := u) (cl' := 0) (sl' := 0) rfl ?_
          refine ik_Wc 130 1 0 [.ref 66] [fI x] rfl rfl rfl (by decide) rfl rfl (fw_rec ul rfl u66 rfl (by decide)) ?_
          refine ik_Wk 0 (pc' := 0) (loc' := [some (.ref 66)]) (st' := []) (h' := u) (cl' := 0) (sl' := 0) rfl ?_
          refine ik_Wk 1 (pc' := 1) (loc' := [some (.ref 66)]) (st' := [.ref 66]) (h' := u) (cl' := 0) (sl' := 0) rfl ?_
          refine fw_gf rfl rfl u66 rfl ?_
          refine ik_Wk 1 (pc' := 5) (loc' := [some (.ref 66)]) (st' := [fI 1, fI pl]) (h' := u) (cl' := 0) (sl' := 0) rfl ?_
          refine fw_sub rfl ?_
          refine ik_Wret rfl rfl ⟨_, _, rfl, rfl, ?_⟩
          refine ik_Wk 0 (pc' := 10) (loc' := [some (.ref 66)]) (st' := [fI (pl - 1), fI x]) (h' := u) (cl' := 0) (sl' := 0) rfl ?_
          refine fw_ic_ne rfl rfl (by omega) (by omega) (by omega) (by omega) (fun hc12 => ?_) (fun hc12 => ?_)
          · refine ik_Wk 3 (pc' := 19) (loc' := [some (.ref 66)]) (st' := [.ref 66, fI 1]) (h' := u) (cl' := 0) (sl' := 0) rfl ?_
            refine fw_gf rfl rfl u66 rfl ?_
            refine ik_Wk 1 (pc' := 23) (loc' := [some (.ref 66)]) (st' := [fI 1, .ref 71, fI 1]) (h' := u) (cl' := 0) (sl' := 0) rfl ?_
            refine fw_ial (z := 1) rfl u71 (by decide) (Nat.le_of_ble_eq_true rfl) (by decide) ?_
            refine ik_Wk 0 (pc' := 24) (loc' := [some (.ref 66)]) (st' := [fI y, fI 1]) (h' := u) (cl' := 0) (sl' := 0) rfl ?_
            refine ik_Wk 1 (pc' := 25) (loc' := [some (.ref 66)]) (st' := [.ref 66, fI y, fI 1]) (h' := u) (cl' := 0) (sl' := 0) rfl ?_
            refine ik_Wc 130 1 0 [.ref 66] [fI y, fI 1] rfl rfl rfl (by decide) rfl rfl (fw_rec ul rfl u66 rfl (by decide)) ?_
            refine ik_Wk 0 (pc' := 0) (loc' := [some (.ref 66)]) (st' := []) (h' := u) (cl' := 0) (sl' := 0) rfl ?_
            refine ik_Wk 1 (pc' := 1) (loc' := [some (.ref 66)]) (st' := [.ref 66]) (h' := u) (cl' := 0) (sl' := 0) rfl ?_
            refine fw_gf rfl rfl u66 rfl ?_
            refine ik_Wk 1 (pc' := 5) (loc' := [some (.ref 66)]) (st' := [fI 1, fI pl]) (h' := u) (cl' := 0) (sl' := 0) rfl ?_
            refine fw_sub rfl ?_
            refine ik_Wret rfl rfl ⟨_, _, rfl, rfl, ?_⟩
            refine ik_Wk 0 (pc' := 28) (loc' := [some (.ref 66)]) (st' := [fI (pl - 1), fI y, fI 1]) (h' := u) (cl' := 0) (sl' := 0) rfl ?_
            refine fw_ic_ne rfl rfl (by omega) (by omega) (by omega) (by omega) (fun hc13 => ?_) (fun hc13 => ?_)
            · refine ik_Wk 2 (pc' := 36) (loc' := [some (.ref 66)]) (st' := [fI 2, fI 1]) (h' := u) (cl' := 0) (sl' := 0) rfl ?_
              refine fw_add rfl ?_
              refine ik_Wret rfl rfl ⟨_, _, rfl, rfl, ?_⟩
              refine ik_Wk 0 (pc' := 44) (loc' := [some (.ref 66), some (fI n), some (fI i)]) (st' := [fI 3]) (h' := u) (cl' := 0) (sl' := 0) rfl ?_
              have e0 : (mx_dr (fun x => mx_w cn go ch s x) (pl - 1) ka pa fa kb pb fb ((n - i).toNat) x y m d) = (x, y, m, d) := by
                first
                | exact mx_dr_b (by omega)
                | (have q : (n - i).toNat = 0 := by omega); rw [q]; rfl
              have ev : mx_en (pl - 1) x y = 3 := by unfold mx_en; (repeat' split) <;> omega
              rw [he, e0]
              exact ik_Wret rfl rfl ⟨_, _, rfl, rfl, rfl, rfl, ⟨w, g1, d1, (congrArg (fun z => [fI z]) ev.symm), u66, u71, u77, n77, u78, n78, F⟩⟩
            · refine ik_Wk 1 (pc' := 36) (loc' := [some (.ref 66)]) (st' := [fI 0, fI 1]) (h' := u) (cl' := 0) (sl' := 0) rfl ?_
              refine fw_add rfl ?_
              refine ik_Wret rfl rfl ⟨_, _, rfl, rfl, ?_⟩
              refine ik_Wk 0 (pc' := 44) (loc' := [some (.ref 66), some (fI n), some (fI i)]) (st' := [fI 1]) (h' := u) (cl' := 0) (sl' := 0) rfl ?_
              have e0 : (mx_dr (fun x => mx_w cn go ch s x) (pl - 1) ka pa fa kb pb fb ((n - i).toNat) x y m d) = (x, y, m, d) := by
                first
                | exact mx_dr_b (by omega)
                | (have q : (n - i).toNat = 0 := by omega); rw [q]; rfl
              have ev : mx_en (pl - 1) x y = 1 := by unfold mx_en; (repeat' split) <;> omega
              rw [he, e0]
              exact ik_Wret rfl rfl ⟨_, _, rfl, rfl, rfl, rfl, ⟨w, g1, d1, (congrArg (fun z => [fI z]) ev.symm), u66, u71, u77, n77, u78, n78, F⟩⟩
          · refine ik_Wk 2 (pc' := 19) (loc' := [some (.ref 66)]) (st' := [.ref 66, fI 0]) (h' := u) (cl' := 0) (sl' := 0) rfl ?_
            refine fw_gf rfl rfl u66 rfl ?_
            refine ik_Wk 1 (pc' := 23) (loc' := [some (.ref 66)]) (st' := [fI 1, .ref 71, fI 0]) (h' := u) (cl' := 0) (sl' := 0) rfl ?_
            refine fw_ial (z := 1) rfl u71 (by decide) (Nat.le_of_ble_eq_true rfl) (by decide) ?_
            refine ik_Wk 0 (pc' := 24) (loc' := [some (.ref 66)]) (st' := [fI y, fI 0]) (h' := u) (cl' := 0) (sl' := 0) rfl ?_
            refine ik_Wk 1 (pc' := 25) (loc' := [some (.ref 66)]) (st' := [.ref 66, fI y, fI 0]) (h' := u) (cl' := 0) (sl' := 0) rfl ?_
            refine ik_Wc 130 1 0 [.ref 66] [fI y, fI 0] rfl rfl rfl (by decide) rfl rfl (fw_rec ul rfl u66 rfl (by decide)) ?_
            refine ik_Wk 0 (pc' := 0) (loc' := [some (.ref 66)]) (st' := []) (h' := u) (cl' := 0) (sl' := 0) rfl ?_
            refine ik_Wk 1 (pc' := 1) (loc' := [some (.ref 66)]) (st' := [.ref 66]) (h' := u) (cl' := 0) (sl' := 0) rfl ?_
            refine fw_gf rfl rfl u66 rfl ?_
            refine ik_Wk 1 (pc' := 5) (loc' := [some (.ref 66)]) (st' := [fI 1, fI pl]) (h' := u) (cl' := 0) (sl' := 0) rfl ?_
            refine fw_sub rfl ?_
            refine ik_Wret rfl rfl ⟨_, _, rfl, rfl, ?_⟩
            refine ik_Wk 0 (pc' := 28) (loc' := [some (.ref 66)]) (st' := [fI (pl - 1), fI y, fI 0]) (h' := u) (cl' := 0) (sl' := 0) rfl ?_
            refine fw_ic_ne rfl rfl (by omega) (by omega) (by omega) (by omega) (fun hc14 => ?_) (fun hc14 => ?_)
            · refine ik_Wk 2 (pc' := 36) (loc' := [some (.ref 66)]) (st' := [fI 2, fI 0]) (h' := u) (cl' := 0) (sl' := 0) rfl ?_
              refine fw_add rfl ?_
              refine ik_Wret rfl rfl ⟨_, _, rfl, rfl, ?_⟩
              refine ik_Wk 0 (pc' := 44) (loc' := [some (.ref 66), some (fI n), some (fI i)]) (st' := [fI 2]) (h' := u) (cl' := 0) (sl' := 0) rfl ?_
              have e0 : (mx_dr (fun x => mx_w cn go ch s x) (pl - 1) ka pa fa kb pb fb ((n - i).toNat) x y m d) = (x, y, m, d) := by
                first
                | exact mx_dr_b (by omega)
                | (have q : (n - i).toNat = 0 := by omega); rw [q]; rfl
              have ev : mx_en (pl - 1) x y = 2 := by unfold mx_en; (repeat' split) <;> omega
              rw [he, e0]
              exact ik_Wret rfl rfl ⟨_, _, rfl, rfl, rfl, rfl, ⟨w, g1, d1, (congrArg (fun z => [fI z]) ev.symm), u66, u71, u77, n77, u78, n78, F⟩⟩
            · refine ik_Wk 1 (pc' := 36) (loc' := [some (.ref 66)]) (st' := [fI 0, fI 0]) (h' := u) (cl' := 0) (sl' := 0) rfl ?_
              refine fw_add rfl ?_
              refine ik_Wret rfl rfl ⟨_, _, rfl, rfl, ?_⟩
              refine ik_Wk 0 (pc' := 44) (loc' := [some (.ref 66), some (fI n), some (fI i)]) (st' := [fI 0]) (h' := u) (cl' := 0) (sl' := 0) rfl ?_
              have e0 : (mx_dr (fun x => mx_w cn go ch s x) (pl - 1) ka pa fa kb pb fb ((n - i).toNat) x y m d) = (x, y, m, d) := by
                first
                | exact mx_dr_b (by omega)
                | (have q : (n - i).toNat = 0 := by omega); rw [q]; rfl
              have ev : mx_en (pl - 1) x y = 0 := by unfold mx_en; (repeat' split) <;> omega
              rw [he, e0]
              exact ik_Wret rfl rfl ⟨_, _, rfl, rfl, rfl, rfl, ⟨w, g1, d1, (congrArg (fun z => [fI z]) ev.symm), u66, u71, u77, n77, u78, n78, F⟩⟩
      · refine ik_Wk 2 (pc' := 19) (loc' := [some (.ref 66)]) (st' := [.ref 66, fI 0]) (h' := u) (cl' := 0) (sl' := 0) rfl ?_
        refine fw_gf rfl rfl u66 rfl ?_
        refine ik_Wk 1 (pc' := 23) (loc' := [some (.ref 66)]) (st' := [fI 1, .ref 71, fI 0]) (h' := u) (cl' := 0) (sl' := 0) rfl ?_
        refine fw_ial (z := 1) rfl u71 (by decide) (Nat.le_of_ble_eq_true rfl) (by decide) ?_
        refine ik_Wk 0 (pc' := 24) (loc' := [some (.ref 66)]) (st' := [fI y, fI 0]) (h' := u) (cl' := 0) (sl' := 0) rfl ?_
        refine ik_Wk 1 (pc' := 25) (loc' := [some (.ref 66)]) (st' := [.ref 66, fI y, fI 0]) (h' := u) (cl' := 0) (sl' := 0) rfl ?_
        refine ik_Wc 130 1 0 [.ref 66] [fI y, fI 0] rfl rfl rfl (by decide) rfl rfl (fw_rec ul rfl u66 rfl (by decide)) ?_
        refine ik_Wk 0 (pc' := 0) (loc' := [some (.ref 66)]) (st' := []) (h' := u) (cl' := 0) (sl' := 0) rfl ?_
        refine ik_Wk 1 (pc' := 1) (loc' := [some (.ref 66)]) (st' := [.ref 66]) (h' := u) (cl' := 0) (sl' := 0) rfl ?_
        refine fw_gf rfl rfl u66 rfl ?_
        refine ik_Wk 1 (pc' := 5) (loc' := [some (.ref 66)]) (st' := [fI 1, fI pl]) (h' := u) (cl' := 0) (sl' := 0) rfl ?_
        refine fw_sub rfl ?_
        refine ik_Wret rfl rfl ⟨_, _, rfl, rfl, ?_⟩
        refine ik_Wk 0 (pc' := 28) (loc' := [some (.ref 66)]) (st' := [fI (pl - 1), fI y, fI 0]) (h' := u) (cl' := 0) (sl' := 0) rfl ?_
        refine fw_ic_ne rfl rfl (by omega) (by omega) (by omega) (by omega) (fun hc15 => ?_) (fun hc15 => ?_)
        · refine ik_Wk 2 (pc' := 36) (loc' := [some (.ref 66)]) (st' := [fI 2, fI 0]) (h' := u) (cl' := 0) (sl' := 0) rfl ?_
          refine fw_add rfl ?_
          refine ik_Wret rfl rfl ⟨_, _, rfl, rfl, ?_⟩
          refine ik_Wk 0 (pc' := 11) (loc' := [some (.ref 66), some (fI n), some (fI i)]) (st' := [fI 2]) (h' := u) (cl' := 0) (sl' := 0) rfl ?_
          refine fw_if_ne rfl rfl (by omega) (by omega) (fun hc16 => absurd hc16 (by omega)) (fun hc16 => ?_)
          refine ik_Wk 1 (pc' := 41) (loc' := [some (.ref 66), some (fI n), some (fI i)]) (st' := [.ref 66]) (h' := u) (cl' := 0) (sl' := 0) rfl ?_
          refine ik_Wc 197 1 0 [.ref 66] [] rfl rfl rfl (by decide) rfl rfl (fw_rec ul rfl u66 rfl (by decide)) ?_
          refine ik_Wk 0 (pc' := 0) (loc' := [some (.ref 66)]) (st' := []) (h' := u) (cl' := 0) (sl' := 0) rfl ?_
          refine ik_Wk 1 (pc' := 1) (loc' := [some (.ref 66)]) (st' := [.ref 66]) (h' := u) (cl' := 0) (sl' := 0) rfl ?_
          refine fw_gf rfl rfl u66 rfl ?_
          refine ik_Wk 1 (pc' := 5) (loc' := [some (.ref 66)]) (st' := [fI 0, .ref 71]) (h' := u) (cl' := 0) (sl' := 0) rfl ?_
          refine fw_ial (z := 0) rfl u71 (by decide) (Nat.le_of_ble_eq_true rfl) (by decide) ?_
          refine ik_Wk 0 (pc' := 6) (loc' := [some (.ref 66)]) (st' := [fI x]) (h' := u) (cl' := 0) (sl' := 0) rfl ?_
          refine ik_Wk 1 (pc' := 7) (loc' := [some (.ref 66)]) (st' := [.ref 66, fI x]) (h' := u) (cl' := 0) (sl' := 0) rfl ?_
          refine ik_Wc 130 1 0 [.ref 66] [fI x] rfl rfl rfl (by decide) rfl rfl (fw_rec ul rfl u66 rfl (by decide)) ?_
          refine ik_Wk 0 (pc' := 0) (loc' := [some (.ref 66)]) (st' := []) (h' := u) (cl' := 0) (sl' := 0) rfl ?_
          refine ik_Wk 1 (pc' := 1) (loc' := [some (.ref 66)]) (st' := [.ref 66]) (h' := u) (cl' := 0) (sl' := 0) rfl ?_
          refine fw_gf rfl rfl u66 rfl ?_
          refine ik_Wk 1 (pc' := 5) (loc' := [some (.ref 66)]) (st' := [fI 1, fI pl]) (h' := u) (cl' := 0) (sl' := 0) rfl ?_
          refine fw_sub rfl ?_
          refine ik_Wret rfl rfl ⟨_, _, rfl, rfl, ?_⟩
          refine ik_Wk 0 (pc' := 10) (loc' := [some (.ref 66)]) (st' := [fI (pl - 1), fI x]) (h' := u) (cl' := 0) (sl' := 0) rfl ?_
          refine fw_ic_ne rfl rfl (by omega) (by omega) (by omega) (by omega) (fun hc17 => ?_) (fun hc17 => ?_)
          · refine ik_Wk 3 (pc' := 19) (loc' := [some (.ref 66)]) (st' := [.ref 66, fI 1]) (h' := u) (cl' := 0) (sl' := 0) rfl ?_
            refine fw_gf rfl rfl u66 rfl ?_
            refine ik_Wk 1 (pc' := 23) (loc' := [some (.ref 66)]) (st' := [fI 1, .ref 71, fI 1]) (h' := u) (cl' := 0) (sl' := 0) rfl ?_
            refine fw_ial (z := 1) rfl u71 (by decide) (Nat.le_of_ble_eq_true rfl) (by decide) ?_
            refine ik_Wk 0 (pc' := 24) (loc' := [some (.ref 66)]) (st' := [fI y, fI 1]) (h' := u) (cl' := 0) (sl' := 0) rfl ?_
            refine ik_Wk 1 (pc' := 25) (loc' := [some (.ref 66)]) (st' := [.ref 66, fI y, fI 1]) (h' := u) (cl' := 0) (sl' := 0) rfl ?_
            refine ik_Wc 130 1 0 [.ref 66] [fI y, fI 1] rfl rfl rfl (by decide) rfl rfl (fw_rec ul rfl u66 rfl (by decide)) ?_
            refine ik_Wk 0 (pc' := 0) (loc' := [some (.ref 66)]) (st' := []) (h' := u) (cl' := 0) (sl' := 0) rfl ?_
            refine ik_Wk 1 (pc' := 1) (loc' := [some (.ref 66)]) (st' := [.ref 66]) (h' := u) (cl' := 0) (sl' := 0) rfl ?_
            refine fw_gf rfl rfl u66 rfl ?_
            refine ik_Wk 1 (pc' := 5) (loc' := [some (.ref 66)]) (st' := [fI 1, fI pl]) (h' := u) (cl' := 0) (sl' := 0) rfl ?_
            refine fw_sub rfl ?_
            refine ik_Wret rfl rfl ⟨_, _, rfl, rfl, ?_⟩
            refine ik_Wk 0 (pc' := 28) (loc' := [some (.ref 66)]) (st' := [fI (pl - 1), fI y, fI 1]) (h' := u) (cl' := 0) (sl' := 0) rfl ?_
            refine fw_ic_ne rfl rfl (by omega) (by omega) (by omega) (by omega) (fun hc18 => ?_) (fun hc18 => ?_)
            · refine ik_Wk 2 (pc' := 36) (loc' := [some (.ref 66)]) (st' := [fI 2, fI 1]) (h' := u) (cl' := 0) (sl' := 0) rfl ?_
              refine fw_add rfl ?_
              refine ik_Wret rfl rfl ⟨_, _, rfl, rfl, ?_⟩
              refine ik_Wk 0 (pc' := 44) (loc' := [some (.ref 66), some (fI n), some (fI i)]) (st' := [fI 3]) (h' := u) (cl' := 0) (sl' := 0) rfl ?_
              have e0 : (mx_dr (fun x => mx_w cn go ch s x) (pl - 1) ka pa fa kb pb fb ((n - i).toNat) x y m d) = (x, y, m, d) := by
                first
                | exact mx_dr_b (by omega)
                | (have q : (n - i).toNat = 0 := by omega); rw [q]; rfl
              have ev : mx_en (pl - 1) x y = 3 := by unfold mx_en; (repeat' split) <;> omega
              rw [he, e0]
              exact ik_Wret rfl rfl ⟨_, _, rfl, rfl, rfl, rfl, ⟨w, g1, d1, (congrArg (fun z => [fI z]) ev.symm), u66, u71, u77, n77, u78, n78, F⟩⟩
            · refine ik_Wk 1 (pc' := 36) (loc' := [some (.ref 66)]) (st' := [fI 0, fI 1]) (h' := u) (cl' := 0) (sl' := 0) rfl ?_
              refine fw_add rfl ?_
              refine ik_Wret rfl rfl ⟨_, _, rfl, rfl, ?_⟩
              refine ik_Wk 0 (pc' := 44) (loc' := [some (.ref 66), some (fI n), some (fI i)]) (st' := [fI 1]) (h' := u) (cl' := 0) (sl' := 0) rfl ?_
              have e0 : (mx_dr (fun x => mx_w cn go ch s x) (pl - 1) ka pa fa kb pb fb ((n - i).toNat) x y m d) = (x, y, m, d) := by
                first
                | exact mx_dr_b (by omega)
                | (have q : (n - i).toNat = 0 := by omega); rw [q]; rfl
              have ev : mx_en (pl - 1) x y = 1 := by unfold mx_en; (repeat' split) <;> omega
              rw [he, e0]
              exact ik_Wret rfl rfl ⟨_, _, rfl, rfl, rfl, rfl, ⟨w, g1, d1, (congrArg (fun z => [fI z]) ev.symm), u66, u71, u77, n77, u78, n78, F⟩⟩
          · refine ik_Wk 2 (pc' := 19) (loc' := [some (.ref 66)]) (st' := [.ref 66, fI 0]) (h' := u) (cl' := 0) (sl' := 0) rfl ?_
            refine fw_gf rfl rfl u66 rfl ?_
            refine ik_Wk 1 (pc' := 23) (loc' := [some (.ref 66)]) (st' := [fI 1, .ref 71, fI 0]) (h' := u) (cl' := 0) (sl' := 0) rfl ?_
            refine fw_ial (z := 1) rfl u71 (by decide) (Nat.le_of_ble_eq_true rfl) (by decide) ?_
            refine ik_Wk 0 (pc' := 24) (loc' := [some (.ref 66)]) (st' := [fI y, fI 0]) (h' := u) (cl' := 0) (sl' := 0) rfl ?_
            refine ik_Wk 1 (pc' := 25) (loc' := [some (.ref 66)]) (st' := [.ref 66, fI y, fI 0]) (h' := u) (cl' := 0) (sl' := 0) rfl ?_
            refine ik_Wc 130 1 0 [.ref 66] [fI y, fI 0] rfl rfl rfl (by decide) rfl rfl (fw_rec ul rfl u66 rfl (by decide)) ?_
            refine ik_Wk 0 (pc' := 0) (loc' := [some (.ref 66)]) (st' := []) (h' := u) (cl' := 0) (sl' := 0) rfl ?_
            refine ik_Wk 1 (pc' := 1) (loc' := [some (.ref 66)]) (st' := [.ref 66]) (h' := u) (cl' := 0) (sl' := 0) rfl ?_
            refine fw_gf rfl rfl u66 rfl ?_
            refine ik_Wk 1 (pc' := 5) (loc' := [some (.ref 66)]) (st' := [fI 1, fI pl]) (h' := u) (cl' := 0) (sl' := 0) rfl ?_
            refine fw_sub rfl ?_
            refine ik_Wret rfl rfl ⟨_, _, rfl, rfl, ?_⟩
            refine ik_Wk 0 (pc' := 28) (loc' := [some (.ref 66)]) (st' := [fI (pl - 1), fI y, fI 0]) (h' := u) (cl' := 0) (sl' := 0) rfl ?_
            refine fw_ic_ne rfl rfl (by omega) (by omega) (by omega) (by omega) (fun hc19 => ?_) (fun hc19 => ?_)
            · refine ik_Wk 2 (pc' := 36) (loc' := [some (.ref 66)]) (st' := [fI 2, fI 0]) (h' := u) (cl' := 0) (sl' := 0) rfl ?_
              refine fw_add rfl ?_
              refine ik_Wret rfl rfl ⟨_, _, rfl, rfl, ?_⟩
              refine ik_Wk 0 (pc' := 44) (loc' := [some (.ref 66), some (fI n), some (fI i)]) (st' := [fI 2]) (h' := u) (cl' := 0) (sl' := 0) rfl ?_
              have e0 : (mx_dr (fun x => mx_w cn go ch s x) (pl - 1) ka pa fa kb pb fb ((n - i).toNat) x y m d) = (x, y, m, d) := by
                first
                | exact mx_dr_b (by omega)
                | (have q : (n - i).toNat = 0 := by omega); rw [q]; rfl
              have ev : mx_en (pl - 1) x y = 2 := by unfold mx_en; (repeat' split) <;> omega
              rw [he, e0]
              exact ik_Wret rfl rfl ⟨_, _, rfl, rfl, rfl, rfl, ⟨w, g1, d1, (congrArg (fun z => [fI z]) ev.symm), u66, u71, u77, n77, u78, n78, F⟩⟩
            · refine ik_Wk 1 (pc' := 36) (loc' := [some (.ref 66)]) (st' := [fI 0, fI 0]) (h' := u) (cl' := 0) (sl' := 0) rfl ?_
              refine fw_add rfl ?_
              refine ik_Wret rfl rfl ⟨_, _, rfl, rfl, ?_⟩
              refine ik_Wk 0 (pc' := 44) (loc' := [some (.ref 66), some (fI n), some (fI i)]) (st' := [fI 0]) (h' := u) (cl' := 0) (sl' := 0) rfl ?_
              have e0 : (mx_dr (fun x => mx_w cn go ch s x) (pl - 1) ka pa fa kb pb fb ((n - i).toNat) x y m d) = (x, y, m, d) := by
                first
                | exact mx_dr_b (by omega)
                | (have q : (n - i).toNat = 0 := by omega); rw [q]; rfl
              have ev : mx_en (pl - 1) x y = 0 := by unfold mx_en; (repeat' split) <;> omega
              rw [he, e0]
              exact ik_Wret rfl rfl ⟨_, _, rfl, rfl, rfl, rfl, ⟨w, g1, d1, (congrArg (fun z => [fI z]) ev.symm), u66, u71, u77, n77, u78, n78, F⟩⟩
        · refine ik_Wk 1 (pc' := 36) (loc' := [some (.ref 66)]) (st' := [fI 0, fI 0]) (h' := u) (cl' := 0) (sl' := 0) rfl ?_
          refine fw_add rfl ?_
          refine ik_Wret rfl rfl ⟨_, _, rfl, rfl, ?_⟩
          refine ik_Wk 0 (pc' := 11) (loc' := [some (.ref 66), some (fI n), some (fI i)]) (st' := [fI 0]) (h' := u) (cl' := 0) (sl' := 0) rfl ?_
          refine fw_if_ne rfl rfl (by omega) (by omega) (fun hc20 => ?_) (fun hc20 => absurd hc20 (by omega))
          refine ik_Wk 2 (pc' := 16) (loc' := [some (.ref 66), some (fI n), some (fI i)]) (st' := [.ref 66, .ref 66]) (h' := u) (cl' := 0) (sl' := 0) rfl ?_
          refine fw_gf rfl rfl u66 rfl ?_
          refine ik_Wk 1 (pc' := 20) (loc' := [some (.ref 66), some (fI n), some (fI i)]) (st' := [fI 1, fI m, .ref 66]) (h' := u) (cl' := 0) (sl' := 0) rfl ?_
          refine fw_add rfl ?_
          refine fx_pf rfl rfl u66 (Nat.le_of_ble_eq_true rfl) rfl rfl ?_
          intro h_84 e_84 f_84 l_84
          have k_84 := l_84.trans ul
          have fr_84 := hfr_w F f_84 l_84 (by decide)
          have g_84_67 := (f_84 67 (by decide)).trans u67
          have g_84_68 := (f_84 68 (by decide)).trans u68
          have g_84_69 := (f_84 69 (by decide)).trans u69
          have g_84_70 := (f_84 70 (by decide)).trans u70
          have g_84_71 := (f_84 71 (by decide)).trans u71
          have g_84_77 := (f_84 77 (by decide)).trans u77
          have g_84_78 := (f_84 78 (by decide)).trans u78
          have g_84_66 : cE h_84 66 (.inr (10, [fI pl, .ref 67, .ref 68, .ref 69, fI ((s : Nat) : Int), .ref 70, .ref 71, fI (m + 1), fI d, .ref 72, fI (f 10), fI (f 11), fI (f 12), fJ (f 13), fI (f 14), fI (f 15), fI (f 16), fI (f 17), .ref 73, .ref 74, .ref 75, .ref 76, .ref 77, .ref 78, fI w, .ref 79, .ref 80, .ref 81, .ref 82, .ref 83, .ref 84, .ref 85, fJ (f 32), fJ (f 33), .ref 86, .ref 87, fI (f 36), .ref 88, .ref 89, .ref 90, .ref 91, .ref 92, .ref 93])) := e_84
          refine ik_Wk 2 (pc' := 26) (loc' := [some (.ref 66), some (fI n), some (fI i)]) (st' := [fI 0, .ref 66]) (h' := h_84) (cl' := 0) (sl' := 0) rfl ?_
          refine fw_call 196 2 0 [.ref 66, fI 0] [] rfl rfl rfl (by decide) rfl rfl (fw_rec k_84 rfl g_84_66 rfl (by decide)) (cr_side0 (pl := pl) (mi := m + 1) (sd := d) (ka := ka) (pa := pa) (fa := fa) (kb := kb) (pb := pb) (fb := fb) (xa := x) (xb := y) (s := s) (cn := cn) (go := go) (ch := ch) (f := fun j => ([0, 0, 0, 0, 0, 0, 0, 0, 0, 0, f 10, f 11, f 12, f 13, f 14, f 15, f 16, f 17, 0, 0, 0, 0, 0, 0, w, 0, 0, 0, 0, 0, 0, 0, f 32, f 33, 0, 0, f 36, 0, 0, 0, 0, 0, 0] : List Int).getD j 0) (gt := g1) (gd := d1) (by omega) (by omega) (by omega) (by omega) q4 q5 q6 (by omega) (by omega) (by omega) g_84_66 g_84_67 n67 g_84_68 n68 g_84_69 n69 g_84_70 g_84_71 g_84_77 n77 g_84_78 n78 k_84) ?_
          rintro _ h_85 ⟨w'_85, gt'_85, gd'_85, rfl, e_85_66, e_85_71, e_85_77, m_85_77, e_85_78, m_85_78, F_85⟩
          have k_85 := F_85.1.trans k_84
          have fr_85 := hfr_c fr_84 F_85 (by decide)
          have g_85_67 := (F_85.2 67 (by decide +kernel)).trans g_84_67
          have g_85_68 := (F_85.2 68 (by decide +kernel)).trans g_84_68
          have g_85_69 := (F_85.2 69 (by decide +kernel)).trans g_84_69
          have g_85_70 := (F_85.2 70 (by decide +kernel)).trans g_84_70
          have g_85_66 : cE h_85 66 (.inr (10, [fI pl, .ref 67, .ref 68, .ref 69, fI ((s : Nat) : Int), .ref 70, .ref 71, fI (m + 1), fI ((mx_sd (fun x => mx_w cn go ch s x) (pl - 1) ka pa fa (m + 1) x d).2), .ref 72, fI (f 10), fI (f 11), fI (f 12), fJ (f 13), fI (f 14), fI (f 15), fI (f 16), fI (f 17), .ref 73, .ref 74, .ref 75, .ref 76, .ref 77, .ref 78, fI w'_85, .ref 79, .ref 80, .ref 81, .ref 82, .ref 83, .ref 84, .ref 85, fJ (f 32), fJ (f 33), .ref 86, .ref 87, fI (f 36), .ref 88, .ref 89, .ref 90, .ref 91, .ref 92, .ref 93])) := e_85_66
          have g_85_71 : cE h_85 71 (.inl (.int, fA [(mx_sd (fun x => mx_w cn go ch s x) (pl - 1) ka pa fa (m + 1) x d).1, y])) := e_85_71
          have g_85_77 : cE h_85 77 (.inl (.int, fA gt'_85)) := e_85_77
          have g_85_78 : cE h_85 78 (.inl (.int, fA gd'_85)) := e_85_78
          refine ik_Wk 0 (pc' := 29) (loc' := [some (.ref 66), some (fI n), some (fI i)]) (st' := []) (h' := h_85) (cl' := 0) (sl' := 0) rfl ?_
          have zin0 := mx_sd_in (W := (fun x => mx_w cn go ch s x)) (pl := pl) (k := ka) (c := pa) (fr := fa) (m := m + 1) (x := x) (d := d) q6 (by omega) (by omega) (by omega)
          have zlo0 := mx_sd_lo (W := (fun x => mx_w cn go ch s x)) (pl := pl) (k := ka) (c := pa) (fr := fa) (m := m + 1) (x := x) (d := d) q6 (by omega) (by omega) (by omega) (by omega)
          refine ik_Wk 2 (pc' := 31) (loc' := [some (.ref 66), some (fI n), some (fI i)]) (st' := [fI 1, .ref 66]) (h' := h_85) (cl' := 0) (sl' := 0) rfl ?_
          refine fw_call 196 2 0 [.ref 66, fI 1] [] rfl rfl rfl (by decide) rfl rfl (fw_rec k_85 rfl g_85_66 rfl (by decide)) (cr_side1 (pl := pl) (mi := (m + 1)) (sd := (mx_sd (fun x => mx_w cn go ch s x) (pl - 1) ka pa fa (m + 1) x d).2) (ka := ka) (pa := pa) (fa := fa) (kb := kb) (pb := pb) (fb := fb) (xa := (mx_sd (fun x => mx_w cn go ch s x) (pl - 1) ka pa fa (m + 1) x d).1) (xb := y) (s := s) (cn := cn) (go := go) (ch := ch) (f := fun j => ([0, 0, 0, 0, 0, 0, 0, 0, 0, 0, (f 10), (f 11), (f 12), (f 13), (f 14), (f 15), (f 16), (f 17), 0, 0, 0, 0, 0, 0, w'_85, 0, 0, 0, 0, 0, 0, 0, (f 32), (f 33), 0, 0, (f 36), 0, 0, 0, 0, 0, 0] : List Int).getD j 0) (gt := gt'_85) (gd := gd'_85) (by omega) (by omega) (by omega) (by omega) q4 q5 q6 (by omega) (by omega) (by omega) g_85_66 g_85_67 n67 g_85_68 n68 g_85_69 n69 g_85_70 g_85_71 g_85_77 m_85_77 g_85_78 m_85_78 k_85) ?_
          rintro _ h_86 ⟨w'_86, gt'_86, gd'_86, rfl, e_86_66, e_86_71, e_86_77, m_86_77, e_86_78, m_86_78, F_86⟩
          have k_86 := F_86.1.trans k_85
          have fr_86 := hfr_c fr_85 F_86 (by decide)
          have g_86_67 := (F_86.2 67 (by decide +kernel)).trans g_85_67
          have g_86_68 := (F_86.2 68 (by decide +kernel)).trans g_85_68
          have g_86_69 := (F_86.2 69 (by decide +kernel)).trans g_85_69
          have g_86_70 := (F_86.2 70 (by decide +kernel)).trans g_85_70
          have g_86_66 : cE h_86 66 (.inr (10, [fI pl, .ref 67, .ref 68, .ref 69, fI ((s : Nat) : Int), .ref 70, .ref 71, fI (m + 1), fI ((mx_sd (fun x => mx_w cn go ch s x) (pl - 1) kb pb fb (m + 1) y ((mx_sd (fun x => mx_w cn go ch s x) (pl - 1) ka pa fa (m + 1) x d).2)).2), .ref 72, fI (f 10), fI (f 11), fI (f 12), fJ (f 13), fI (f 14), fI (f 15), fI (f 16), fI (f 17), .ref 73, .ref 74, .ref 75, .ref 76, .ref 77, .ref 78, fI w'_86, .ref 79, .ref 80, .ref 81, .ref 82, .ref 83, .ref 84, .ref 85, fJ (f 32), fJ (f 33), .ref 86, .ref 87, fI (f 36), .ref 88, .ref 89, .ref 90, .ref 91, .ref 92, .ref 93])) := e_86_66
          have g_86_71 : cE h_86 71 (.inl (.int, fA [((mx_sd (fun x => mx_w cn go ch s x) (pl - 1) ka pa fa (m + 1) x d).1), (mx_sd (fun x => mx_w cn go ch s x) (pl - 1) kb pb fb (m + 1) y ((mx_sd (fun x => mx_w cn go ch s x) (pl - 1) ka pa fa (m + 1) x d).2)).1])) := e_86_71
          have g_86_77 : cE h_86 77 (.inl (.int, fA gt'_86)) := e_86_77
          have g_86_78 : cE h_86 78 (.inl (.int, fA gd'_86)) := e_86_78
          refine ik_Wk 0 (pc' := 34) (loc' := [some (.ref 66), some (fI n), some (fI i)]) (st' := []) (h' := h_86) (cl' := 0) (sl' := 0) rfl ?_
          have zin1 := mx_sd_in (W := (fun x => mx_w cn go ch s x)) (pl := pl) (k := kb) (c := pb) (fr := fb) (m := m + 1) (x := y) (d := (mx_sd (fun x => mx_w cn go ch s x) (pl - 1) ka pa fa (m + 1) x d).2) q6 (by omega) (by omega) (by omega)
          have zlo1 := mx_sd_lo (W := (fun x => mx_w cn go ch s x)) (pl := pl) (k := kb) (c := pb) (fr := fb) (m := m + 1) (x := y) (d := (mx_sd (fun x => mx_w cn go ch s x) (pl - 1) ka pa fa (m + 1) x d).2) q6 (by omega) (by omega) (by omega) (by omega)
          refine fw_inc (a := i) (loc' := [some (.ref 66), some (fI n), some (fI (i + 1))]) rfl rfl (Nat.le_of_ble_eq_true rfl) rfl ?_
          refine ik_Wk 1 (pc' := 2) (loc' := [some (.ref 66), some (fI n), some (fI (i + 1))]) (st' := []) (h' := h_86) (cl' := 0) (sl' := 0) rfl ?_
          exact ih  (i + 1) ((mx_sd (fun x => mx_w cn go ch s x) (pl - 1) ka pa fa (m + 1) x d).1) ((mx_sd (fun x => mx_w cn go ch s x) (pl - 1) kb pb fb (m + 1) y ((mx_sd (fun x => mx_w cn go ch s x) (pl - 1) ka pa fa (m + 1) x d).2)).1) (m + 1) ((mx_sd (fun x => mx_w cn go ch s x) (pl - 1) kb pb fb (m + 1) y ((mx_sd (fun x => mx_w cn go ch s x) (pl - 1) ka pa fa (m + 1) x d).2)).2) w'_86 gt'_86 gd'_86 h_86 g_86_66 g_86_67 n67 g_86_68 n68 g_86_69 n69 g_86_70 g_86_71 g_86_77 m_86_77 g_86_78 m_86_78 k_86 fr_86 (by omega) (by omega) (by omega) (by omega) (by omega) (by omega) (by omega) (by rw [he, show (n - i).toNat = (n - (i + 1)).toNat + 1 by omega, mx_dr_n (by omega)]) (by omega)

theorem cr_drift {h : List ik_E} {pl : Int} {mi : Int} {sd : Int} {ka : Int} {pa : Int} {fa : Int} {kb : Int} {pb : Int} {fb : Int} {xa : Int} {xb : Int} {s : Nat} {cn : List Int} {go : List Int} {ch : List Int} {n : Int} {f : Nat → Int} {gt : List Int} {gd : List Int} (q0 : 2 ≤ pl ∧ pl ≤ 12) (q1 : s < 4096) (q2 : 0 ≤ sd ∧ sd < 2147483648) (q3 : 0 ≤ mi ∧ mi < 2000000000) (q4 : ∀ x : Int, 0 ≤ x → x < pl - 1 → 1 ≤ cn.getD x.toNat 0 ∧ ∀ j : Int, 4 * x ≤ j → j < 4 * x + cn.getD x.toNat 0 → 0 ≤ ch.getD j.toNat 0 ∧ ch.getD j.toNat 0 ≤ 100) (q5 : ∀ x : Int, 0 ≤ x → x < pl → 0 ≤ cn.getD x.toNat 0 ∧ cn.getD x.toNat 0 ≤ 4) (q6 : ∀ x : Int, 0 ≤ x → x < pl - 1 → mx_ok pl (mx_w cn go ch s x)) (q7 : 0 ≤ ka ∧ ka ≤ 2) (q8 : 0 ≤ kb ∧ kb ≤ 2) (q9 : 0 ≤ fa ∧ fa ≤ 30) (q10 : 0 ≤ fb ∧ fb ≤ 30) (q11 : 0 ≤ pa ∧ pa < pl) (q12 : 0 ≤ pb ∧ pb < pl) (q13 : fa ≤ mi → 0 ≤ xa) (q14 : fb ≤ mi → 0 ≤ xb) (q15 : -1 ≤ xa ∧ xa < pl) (q16 : -1 ≤ xb ∧ xb < pl) (q17 : 0 ≤ n ∧ n ≤ 200) (q18 : mi < 1999999000) (h66 : cE h 66 (.inr (10, [fI pl, .ref 67, .ref 68, .ref 69, fI ((s : Nat) : Int), .ref 70, .ref 71, fI mi, fI sd, .ref 72, fI (f 10), fI (f 11), fI (f 12), fJ (f 13), fI (f 14), fI (f 15), fI (f 16), fI (f 17), .ref 73, .ref 74, .ref 75, .ref 76, .ref 77, .ref 78, fI (f 24), .ref 79, .ref 80, .ref 81, .ref 82, .ref 83, .ref 84, .ref 85, fJ (f 32), fJ (f 33), .ref 86, .ref 87, fI (f 36), .ref 88, .ref 89, .ref 90, .ref 91, .ref 92, .ref 93]))) (h67 : cE h 67 (.inl (.int, fA cn))) (n67 : cn.length = 12) (h68 : cE h 68 (.inl (.int, fA go))) (n68 : go.length = 48) (h69 : cE h 69 (.inl (.int, fA ch))) (n69 : ch.length = 48) (h70 : cE h 70 (.inl (.int, fA [ka, pa, fa, kb, pb, fb]))) (h71 : cE h 71 (.inl (.int, fA [xa, xb]))) (h77 : cE h 77 (.inl (.int, fA gt))) (n77 : gt.length = 5) (h78 : cE h 78 (.inl (.int, fA gd))) (n78 : gd.length = 5) (hl : h.length = 94) : ik_F 198 [.ref 66, fI n] h (fun rv h' => ∃ (w' : Int) (gt' : List Int) (gd' : List Int), rv = [fI (mx_en (pl - 1) (mx_dr (fun x => mx_w cn go ch s x) (pl - 1) ka pa fa kb pb fb n.toNat xa xb mi sd).1 (mx_dr (fun x => mx_w cn go ch s x) (pl - 1) ka pa fa kb pb fb n.toNat xa xb mi sd).2.1)] ∧ cE h' 66 (.inr (10, [fI pl, .ref 67, .ref 68, .ref 69, fI ((s : Nat) : Int), .ref 70, .ref 71, fI ((mx_dr (fun x => mx_w cn go ch s x) (pl - 1) ka pa fa kb pb fb n.toNat xa xb mi sd).2.2.1), fI ((mx_dr (fun x => mx_w cn go ch s x) (pl - 1) ka pa fa kb pb fb n.toNat xa xb mi sd).2.2.2), .ref 72, fI (f 10), fI (f 11), fI (f 12), fJ (f 13), fI (f 14), fI (f 15), fI (f 16), fI (f 17), .ref 73, .ref 74, .ref 75, .ref 76, .ref 77, .ref 78, fI w', .ref 79, .ref 80, .ref 81, .ref 82, .ref 83, .ref 84, .ref 85, fJ (f 32), fJ (f 33), .ref 86, .ref 87, fI (f 36), .ref 88, .ref 89, .ref 90, .ref 91, .ref 92, .ref 93])) ∧ cE h' 71 (.inl (.int, fA [(mx_dr (fun x => mx_w cn go ch s x) (pl - 1) ka pa fa kb pb fb n.toNat xa xb mi sd).1, (mx_dr (fun x => mx_w cn go ch s x) (pl - 1) ka pa fa kb pb fb n.toNat xa xb mi sd).2.1])) ∧ cE h' 77 (.inl (.int, fA gt')) ∧ gt'.length = 5 ∧ cE h' 78 (.inl (.int, fA gd')) ∧ gd'.length = 5 ∧ hfr [66, 71, 77, 78] h h') := by
  refine ik_Wk 2 (pc' := 2) (loc' := [some (.ref 66), some (fI n), some (fI 0)]) (st' := []) (h' := h) (cl' := 0) (sl' := 0) rfl ?_
  exact cr_driftL (pl := pl) (mi := mi) (sd := sd) (ka := ka) (pa := pa) (fa := fa) (kb := kb) (pb := pb) (fb := fb) (xa := xa) (xb := xb) (s := s) (cn := cn) (go := go) (ch := ch) (n := n) (f := f) (gt := gt) (gd := gd) q0 q1 q2 q3 q4 q5 q6 q7 q8 q9 q10 q11 q12 q13 q14 q15 q16 q17 q18  (n.toNat + 1) 0 xa xb mi sd (f 24) gt gd h h66 h67 n67 h68 n68 h69 n69 h70 h71 h77 n77 h78 n78 hl (hfr_refl [66, 71, 77, 78] h) (by omega) (by omega) (by omega) (by omega) (by omega) (by omega) (by omega) (by rw [show n - 0 = n by omega]) (by omega)

theorem cs_driftL {h : List ik_E} {pl : Int} {mi : Int} {sd : Int} {ka : Int} {pa : Int} {fa : Int} {kb : Int} {pb : Int} {fb : Int} {xa : Int} {xb : Int} {s : Nat} {cn : List Int} {go : List Int} {ch : List Int} {n : Int} {lo : Int} {wg : List Int} {wc : List Int} {we : List Int} (q0 : 2 ≤ pl ∧ pl ≤ 12) (q1 : s < 4096) (q2 : 0 ≤ sd ∧ sd < 2147483648) (q3 : 0 ≤ mi ∧ mi < 2000000000) (q4 : ∀ x : Int, 0 ≤ x → x < pl - 1 → mx_wy wg wc we x (mx_w cn go ch s x)) (q5 : ∀ x : Int, 0 ≤ x → x < pl - 1 → mx_ok pl (mx_w cn go ch s x)) (q6 : 0 ≤ ka ∧ ka ≤ 2) (q7 : 0 ≤ kb ∧ kb ≤ 2) (q8 : 0 ≤ fa ∧ fa ≤ 30) (q9 : 0 ≤ fb ∧ fb ≤ 30) (q10 : 0 ≤ pa ∧ pa < pl) (q11 : 0 ≤ pb ∧ pb < pl) (q12 : fa ≤ mi → 0 ≤ xa) (q13 : fb ≤ mi → 0 ≤ xb) (q14 : -1 ≤ xa ∧ xa < pl) (q15 : -1 ≤ xb ∧ xb < pl) (q16 : 0 ≤ n ∧ n ≤ 200) (q17 : mi < 1999999000)  : ∀ (k : Nat) (i : Int) (x : Int) (y : Int) (m : Int) (d : Int) (u : List ik_E) (u7 : cE u 7 (.inr (0, [fI pl, fI ((s : Nat) : Int), fI lo, .ref 8, .ref 9, .ref 10, .ref 11, .ref 12, .ref 13]))) (u11 : cE u 11 (.inl (.int, fA wg))) (n11 : wg.length = 60) (u12 : cE u 12 (.inl (.int, fA wc))) (n12 : wc.length = 60) (u13 : cE u 13 (.inl (.int, fA we))) (n13 : we.length = 12) (u14 : cE u 14 (.inr (1, [.ref 7, .ref 15, .ref 16, fI m, fJ d]))) (u15 : cE u 15 (.inl (.int, fA [ka, pa, fa, kb, pb, fb]))) (u16 : cE u 16 (.inl (.int, fA [x, y]))) (ul : u.length = 94) (F : hfr [14, 16] h u) (hi : 0 ≤ i ∧ i ≤ n) (hx0 : fa ≤ m → 0 ≤ x) (hx1 : fb ≤ m → 0 ≤ y) (hx2 : -1 ≤ x ∧ x < pl) (hx3 : -1 ≤ y ∧ y < pl) (hd : 0 ≤ d ∧ d < 2147483648) (hm : m = mi + i) (he : (mx_dr (fun x => mx_w cn go ch s x) (pl - 1) ka pa fa kb pb fb n.toNat xa xb mi sd) = (mx_dr (fun x => mx_w cn go ch s x) (pl - 1) ka pa fa kb pb fb ((n - i).toNat) x y m d)) (hk : n - i < (k : Int)), ik_G 25 2 [some (.ref 14), some (fI n), some (fI i)] [] u (fun rv h' => rv = [] ∧ cE h' 14 (.inr (1, [.ref 7, .ref 15, .ref 16, fI ((mx_dr (fun x => mx_w cn go ch s x) (pl - 1) ka pa fa kb pb fb n.toNat xa xb mi sd).2.2.1), fJ ((mx_dr (fun x => mx_w cn go ch s x) (pl - 1) ka pa fa kb pb fb n.toNat xa xb mi sd).2.2.2)])) ∧ cE h' 16 (.inl (.int, fA [(mx_dr (fun x => mx_w cn go ch s x) (pl - 1) ka pa fa kb pb fb n.toNat xa xb mi sd).1, (mx_dr (fun x => mx_w cn go ch s x) (pl - 1) ka pa fa kb pb fb n.toNat xa xb mi sd).2.1])) ∧ hfr [14, 16] h h') := by
  intro k
  induction k with
  | zero => intro i x y m d u u7 u11 n11 u12 n12 u13 n13 u14 u15 u16 ul F hi hx0 hx1 hx2 hx3 hd hm he hk; omega
  | succ k ih =>
    intro i x y m d u u7 u11 n11 u12 n12 u13 n13 u14 u15 u16 ul F hi hx0 hx1 hx2 hx3 hd hm he hk
    refine ik_Wk 2 (pc' := 4) (loc' := [some (.ref 14), some (fI n), some (fI i)]) (st' := [fI n, fI i]) (h' := u) (cl' := 0) (sl' := 0) rfl ?_
    refine fw_ic_ge rfl rfl (by omega) (by omega) (by omega) (by omega) (fun hc1 => ?_) (fun hc1 => ?_)
    · have e0 : (mx_dr (fun x => mx_w cn go ch s x) (pl - 1) ka pa fa kb pb fb ((n - i).toNat) x y m d) = (x, y, m, d) := by
        first
        | exact mx_dr_b (by omega)
        | (have q : (n - i).toNat = 0 := by omega); rw [q]; rfl
      rw [he, e0]
      exact ik_Wret rfl rfl ⟨_, _, rfl, rfl, rfl, rfl, ⟨rfl, u14, u16, F⟩⟩
    · refine ik_Wk 1 (pc' := 8) (loc' := [some (.ref 14), some (fI n), some (fI i)]) (st' := [.ref 14]) (h' := u) (cl' := 0) (sl' := 0) rfl ?_
      refine ik_Wc 24 1 0 [.ref 14] [] rfl rfl rfl (by decide) rfl rfl (fw_rec ul rfl u14 rfl (by decide)) ?_
      refine ik_Wk 0 (pc' := 0) (loc' := [some (.ref 14)]) (st' := []) (h' := u) (cl' := 0) (sl' := 0) rfl ?_
      refine ik_Wk 1 (pc' := 1) (loc' := [some (.ref 14)]) (st' := [.ref 14]) (h' := u) (cl' := 0) (sl' := 0) rfl ?_
      refine fw_gf rfl rfl u14 rfl ?_
      refine ik_Wk 1 (pc' := 5) (loc' := [some (.ref 14)]) (st' := [fI 0, .ref 16]) (h' := u) (cl' := 0) (sl' := 0) rfl ?_
      refine fw_ial (z := 0) rfl u16 (by decide) (Nat.le_of_ble_eq_true rfl) (by decide) ?_
      refine ik_Wk 0 (pc' := 6) (loc' := [some (.ref 14)]) (st' := [fI x]) (h' := u) (cl' := 0) (sl' := 0) rfl ?_
      refine ik_Wk 1 (pc' := 7) (loc' := [some (.ref 14)]) (st' := [.ref 14, fI x]) (h' := u) (cl' := 0) (sl' := 0) rfl ?_
      refine fw_gf rfl rfl u14 rfl ?_
      refine ik_Wc 2 1 0 [.ref 7] [fI x] rfl rfl rfl (by decide) rfl rfl (fw_rec ul rfl u7 rfl (by decide)) ?_
      refine ik_Wk 0 (pc' := 0) (loc' := [some (.ref 7)]) (st' := []) (h' := u) (cl' := 0) (sl' := 0) rfl ?_
      refine ik_Wk 1 (pc' := 1) (loc' := [some (.ref 7)]) (st' := [.ref 7]) (h' := u) (cl' := 0) (sl' := 0) rfl ?_
      refine fw_gf rfl rfl u7 rfl ?_
      refine ik_Wk 1 (pc' := 5) (loc' := [some (.ref 7)]) (st' := [fI 1, fI pl]) (h' := u) (cl' := 0) (sl' := 0) rfl ?_
      refine fw_sub rfl ?_
      refine ik_Wret rfl rfl ⟨_, _, rfl, rfl, ?_⟩
      refine ik_Wk 0 (pc' := 13) (loc' := [some (.ref 14)]) (st' := [fI (pl - 1), fI x]) (h' := u) (cl' := 0) (sl' := 0) rfl ?_
      refine fw_ic_ne rfl rfl (by omega) (by omega) (by omega) (by omega) (fun hc2 => ?_) (fun hc2 => ?_)
      · refine ik_Wk 3 (pc' := 22) (loc' := [some (.ref 14)]) (st' := [.ref 14, fI 1]) (h' := u) (cl' := 0) (sl' := 0) rfl ?_
        refine fw_gf rfl rfl u14 rfl ?_
        refine ik_Wk 1 (pc' := 26) (loc' := [some (.ref 14)]) (st' := [fI 1, .ref 16, fI 1]) (h' := u) (cl' := 0) (sl' := 0) rfl ?_
        refine fw_ial (z := 1) rfl u16 (by decide) (Nat.le_of_ble_eq_true rfl) (by decide) ?_
        refine ik_Wk 0 (pc' := 27) (loc' := [some (.ref 14)]) (st' := [fI y, fI 1]) (h' := u) (cl' := 0) (sl' := 0) rfl ?_
        refine ik_Wk 1 (pc' := 28) (loc' := [some (.ref 14)]) (st' := [.ref 14, fI y, fI 1]) (h' := u) (cl' := 0) (sl' := 0) rfl ?_
        refine fw_gf rfl rfl u14 rfl ?_
        refine ik_Wc 2 1 0 [.ref 7] [fI y, fI 1] rfl rfl rfl (by decide) rfl rfl (fw_rec ul rfl u7 rfl (by decide)) ?_
        refine ik_Wk 0 (pc' := 0) (loc' := [some (.ref 7)]) (st' := []) (h' := u) (cl' := 0) (sl' := 0) rfl ?_
        refine ik_Wk 1 (pc' := 1) (loc' := [some (.ref 7)]) (st' := [.ref 7]) (h' := u) (cl' := 0) (sl' := 0) rfl ?_
        refine fw_gf rfl rfl u7 rfl ?_
        refine ik_Wk 1 (pc' := 5) (loc' := [some (.ref 7)]) (st' := [fI 1, fI pl]) (h' := u) (cl' := 0) (sl' := 0) rfl ?_
        refine fw_sub rfl ?_
        refine ik_Wret rfl rfl ⟨_, _, rfl, rfl, ?_⟩
        refine ik_Wk 0 (pc' := 34) (loc' := [some (.ref 14)]) (st' := [fI (pl - 1), fI y, fI 1]) (h' := u) (cl' := 0) (sl' := 0) rfl ?_
        refine fw_ic_ne rfl rfl (by omega) (by omega) (by omega) (by omega) (fun hc3 => ?_) (fun hc3 => ?_)
        · refine ik_Wk 2 (pc' := 42) (loc' := [some (.ref 14)]) (st' := [fI 2, fI 1]) (h' := u) (cl' := 0) (sl' := 0) rfl ?_
          refine fw_add rfl ?_
          refine ik_Wret rfl rfl ⟨_, _, rfl, rfl, ?_⟩
          refine ik_Wk 0 (pc' := 11) (loc' := [some (.ref 14), some (fI n), some (fI i)]) (st' := [fI 3]) (h' := u) (cl' := 0) (sl' := 0) rfl ?_
          refine fw_if_ne rfl rfl (by omega) (by omega) (fun hc4 => absurd hc4 (by omega)) (fun hc4 => ?_)
          have e0 : (mx_dr (fun x => mx_w cn go ch s x) (pl - 1) ka pa fa kb pb fb ((n - i).toNat) x y m d) = (x, y, m, d) := by
            first
            | exact mx_dr_b (by omega)
            | (have q : (n - i).toNat = 0 := by omega); rw [q]; rfl
          rw [he, e0]
          exact ik_Wret rfl rfl ⟨_, _, rfl, rfl, rfl, rfl, ⟨rfl, u14, u16, F⟩⟩
        · refine ik_Wk 1 (pc' := 42) (loc' := [some (.ref 14)]) (st' := [fI 0, fI 1]) (h' := u) (cl' := 0) (sl' := 0) rfl ?_
          refine fw_add rfl ?_
          refine ik_Wret rfl rfl ⟨_, _, rfl, rfl, ?_⟩
          refine ik_Wk 0 (pc' := 11) (loc' := [some (.ref 14), some (fI n), some (fI i)]) (st' := [fI 1]) (h' := u) (cl' := 0) (sl' := 0) rfl ?_
          refine fw_if_ne rfl rfl (by omega) (by omega) (fun hc5 => absurd hc5 (by omega)) (fun hc5 => ?_)
          have e0 : (mx_dr (fun x => mx_w cn go ch s x) (pl - 1) ka pa fa kb pb fb ((n - i).toNat) x y m d) = (x, y, m, d) := by
            first
            | exact mx_dr_b (by omega)
            | (have q : (n - i).toNat = 0 := by omega); rw [q]; rfl
          rw [he, e0]
          exact ik_Wret rfl rfl ⟨_, _, rfl, rfl, rfl, rfl, ⟨rfl, u14, u16, F⟩⟩
      · refine ik_Wk 2 (pc' := 22) (loc' := [some (.ref 14)]) (st' := [.ref 14, fI 0]) (h' := u) (cl' := 0) (sl' := 0) rfl ?_
        refine fw_gf rfl rfl u14 rfl ?_
        refine ik_Wk 1 (pc' := 26) (loc' := [some (.ref 14)]) (st' := [fI 1, .ref 16, fI 0]) (h' := u) (cl' := 0) (sl' := 0) rfl ?_
        refine fw_ial (z := 1) rfl u16 (by decide) (Nat.le_of_ble_eq_true rfl) (by decide) ?_
        refine ik_Wk 0 (pc' := 27) (loc' := [some (.ref 14)]) (st' := [fI y, fI 0]) (h' := u) (cl' := 0) (sl' := 0) rfl ?_
        refine ik_Wk 1 (pc' := 28) (loc' := [some (.ref 14)]) (st' := [.ref 14, fI y, fI 0]) (h' := u) (cl' := 0) (sl' := 0) rfl ?_
        refine fw_gf rfl rfl u14 rfl ?_
        refine ik_Wc 2 1 0 [.ref 7] [fI y, fI 0] rfl rfl rfl (by decide) rfl rfl (fw_rec ul rfl u7 rfl (by decide)) ?_
        refine ik_Wk 0 (pc' := 0) (loc' := [some (.ref 7)]) (st' := []) (h' := u) (cl' := 0) (sl' := 0) rfl ?_
        refine ik_Wk 1 (pc' := 1) (loc' := [some (.ref 7)]) (st' := [.ref 7]) (h' := u) (cl' := 0) (sl' := 0) rfl ?_
        refine fw_gf rfl rfl u7 rfl ?_
        refine ik_Wk 1 (pc' := 5) (loc' := [some (.ref 7)]) (st' := [fI 1, fI pl]) (h' := u) (cl' := 0) (sl' := 0) rfl ?_
        refine fw_sub rfl ?_
        refine ik_Wret rfl rfl ⟨_, _, rfl, rfl, ?_⟩
        refine ik_Wk 0 (pc' := 34) (loc' := [some (.ref 14)]) (st' := [fI (pl - 1), fI y, fI 0]) (h' := u) (cl' := 0) (sl' := 0) rfl ?_
        refine fw_ic_ne rfl rfl (by omega) (by omega) (by omega) (by omega) (fun hc6 => ?_) (fun hc6 => ?_)
        · refine ik_Wk 2 (pc' := 42) (loc' := [some (.ref 14)]) (st' := [fI 2, fI 0]) (h' := u) (cl' := 0) (sl' := 0) rfl ?_
          refine fw_add rfl ?_
          refine ik_Wret rfl rfl ⟨_, _, rfl, rfl, ?_⟩
          refine ik_Wk 0 (pc' := 11) (loc' := [some (.ref 14), some (fI n), some (fI i)]) (st' := [fI 2]) (h' := u) (cl' := 0) (sl' := 0) rfl ?_
          refine fw_if_ne rfl rfl (by omega) (by omega) (fun hc7 => absurd hc7 (by omega)) (fun hc7 => ?_)
          have e0 : (mx_dr (fun x => mx_w cn go ch s x) (pl - 1) ka pa fa kb pb fb ((n - i).toNat) x y m d) = (x, y, m, d) := by
            first
            | exact mx_dr_b (by omega)
            | (have q : (n - i).toNat = 0 := by omega); rw [q]; rfl
          rw [he, e0]
          exact ik_Wret rfl rfl ⟨_, _, rfl, rfl, rfl, rfl, ⟨rfl, u14, u16, F⟩⟩
        · refine ik_Wk 1 (pc' := 42) (loc' := [some (.ref 14)]) (st' := [fI 0, fI 0]) (h' := u) (cl' := 0) (sl' := 0) rfl ?_
          refine fw_add rfl ?_
          refine ik_Wret rfl rfl ⟨_, _, rfl, rfl, ?_⟩
          refine ik_Wk 0 (pc' := 11) (loc' := [some (.ref 14), some (fI n), some (fI i)]) (st' := [fI 0]) (h' := u) (cl' := 0) (sl' := 0) rfl ?_
          refine fw_if_ne rfl rfl (by omega) (by omega) (fun hc8 => ?_) (fun hc8 => absurd hc8 (by omega))
          refine ik_Wk 2 (pc' := 16) (loc' := [some (.ref 14), some (fI n), some (fI i)]) (st' := [.ref 14, .ref 14]) (h' := u) (cl' := 0) (sl' := 0) rfl ?_
          refine fw_gf rfl rfl u14 rfl ?_
          refine ik_Wk 1 (pc' := 20) (loc' := [some (.ref 14), some (fI n), some (fI i)]) (st' := [fI 1, fI m, .ref 14]) (h' := u) (cl' := 0) (sl' := 0) rfl ?_
          refine fw_add rfl ?_
          refine fx_pf rfl rfl u14 (Nat.le_of_ble_eq_true rfl) rfl rfl ?_
          intro h_87 e_87 f_87 l_87
          have k_87 := l_87.trans ul
          have fr_87 := hfr_w F f_87 l_87 (by decide)
          have g_87_7 := (f_87 7 (by decide)).trans u7
          have g_87_11 := (f_87 11 (by decide)).trans u11
          have g_87_12 := (f_87 12 (by decide)).trans u12
          have g_87_13 := (f_87 13 (by decide)).trans u13
          have g_87_15 := (f_87 15 (by decide)).trans u15
          have g_87_16 := (f_87 16 (by decide)).trans u16
          have g_87_14 : cE h_87 14 (.inr (1, [.ref 7, .ref 15, .ref 16, fI (m + 1), fJ d])) := e_87
          refine ik_Wk 2 (pc' := 26) (loc' := [some (.ref 14), some (fI n), some (fI i)]) (st' := [fI 0, .ref 14]) (h' := h_87) (cl' := 0) (sl' := 0) rfl ?_
          refine fw_call 26 2 0 [.ref 14, fI 0] [] rfl rfl rfl (by decide) rfl rfl (fw_rec k_87 rfl g_87_14 rfl (by decide)) (cs_pass0 (pl := pl) (mi := m + 1) (sd := d) (ka := ka) (pa := pa) (fa := fa) (kb := kb) (pb := pb) (fb := fb) (xa := x) (xb := y) (s := s) (lo := lo) (wg := wg) (wc := wc) (we := we) (by omega) (by omega) (by omega) (by omega) q4 q5 (by omega) (by omega) (by omega) g_87_7 g_87_11 n11 g_87_12 n12 g_87_13 n13 g_87_14 g_87_15 g_87_16 k_87) ?_
          rintro _ h_88 ⟨rfl, e_88_14, e_88_16, F_88⟩
          have k_88 := F_88.1.trans k_87
          have fr_88 := hfr_c fr_87 F_88 (by decide)
          have g_88_7 := (F_88.2 7 (by decide +kernel)).trans g_87_7
          have g_88_11 := (F_88.2 11 (by decide +kernel)).trans g_87_11
          have g_88_12 := (F_88.2 12 (by decide +kernel)).trans g_87_12
          have g_88_13 := (F_88.2 13 (by decide +kernel)).trans g_87_13
          have g_88_15 := (F_88.2 15 (by decide +kernel)).trans g_87_15
          have g_88_14 : cE h_88 14 (.inr (1, [.ref 7, .ref 15, .ref 16, fI (m + 1), fJ ((mx_sd (fun x => mx_w cn go ch s x) (pl - 1) ka pa fa (m + 1) x d).2)])) := e_88_14
          have g_88_16 : cE h_88 16 (.inl (.int, fA [(mx_sd (fun x => mx_w cn go ch s x) (pl - 1) ka pa fa (m + 1) x d).1, y])) := e_88_16
          refine ik_Wk 0 (pc' := 29) (loc' := [some (.ref 14), some (fI n), some (fI i)]) (st' := []) (h' := h_88) (cl' := 0) (sl' := 0) rfl ?_
          have zin0 := mx_sd_in (W := (fun x => mx_w cn go ch s x)) (pl := pl) (k := ka) (c := pa) (fr := fa) (m := m + 1) (x := x) (d := d) q5 (by omega) (by omega) (by omega)
          have zlo0 := mx_sd_lo (W := (fun x => mx_w cn go ch s x)) (pl := pl) (k := ka) (c := pa) (fr := fa) (m := m + 1) (x := x) (d := d) q5 (by omega) (by omega) (by omega) (by omega)
          refine ik_Wk 2 (pc' := 31) (loc' := [some (.ref 14), some (fI n), some (fI i)]) (st' := [fI 1, .ref 14]) (h' := h_88) (cl' := 0) (sl' := 0) rfl ?_
          refine fw_call 26 2 0 [.ref 14, fI 1] [] rfl rfl rfl (by decide) rfl rfl (fw_rec k_88 rfl g_88_14 rfl (by decide)) (cs_pass1 (pl := pl) (mi := (m + 1)) (sd := (mx_sd (fun x => mx_w cn go ch s x) (pl - 1) ka pa fa (m + 1) x d).2) (ka := ka) (pa := pa) (fa := fa) (kb := kb) (pb := pb) (fb := fb) (xa := (mx_sd (fun x => mx_w cn go ch s x) (pl - 1) ka pa fa (m + 1) x d).1) (xb := y) (s := s) (lo := lo) (wg := wg) (wc := wc) (we := we) (by omega) (by omega) (by omega) (by omega) q4 q5 (by omega) (by omega) (by omega) g_88_7 g_88_11 n11 g_88_12 n12 g_88_13 n13 g_88_14 g_88_15 g_88_16 k_88) ?_
          rintro _ h_89 ⟨rfl, e_89_14, e_89_16, F_89⟩
          have k_89 := F_89.1.trans k_88
          have fr_89 := hfr_c fr_88 F_89 (by decide)
          have g_89_7 := (F_89.2 7 (by decide +kernel)).trans g_88_7
          have g_89_11 := (F_89.2 11 (by decide +kernel)).trans g_88_11
          have g_89_12 := (F_89.2 12 (by decide +kernel)).trans g_88_12
          have g_89_13 := (F_89.2 13 (by decide +kernel)).trans g_88_13
          have g_89_15 := (F_89.2 15 (by decide +kernel)).trans g_88_15
          have g_89_14 : cE h_89 14 (.inr (1, [.ref 7, .ref 15, .ref 16, fI (m + 1), fJ ((mx_sd (fun x => mx_w cn go ch s x) (pl - 1) kb pb fb (m + 1) y ((mx_sd (fun x => mx_w cn go ch s x) (pl - 1) ka pa fa (m + 1) x d).2)).2)])) := e_89_14
          have g_89_16 : cE h_89 16 (.inl (.int, fA [((mx_sd (fun x => mx_w cn go ch s x) (pl - 1) ka pa fa (m + 1) x d).1), (mx_sd (fun x => mx_w cn go ch s x) (pl - 1) kb pb fb (m + 1) y ((mx_sd (fun x => mx_w cn go ch s x) (pl - 1) ka pa fa (m + 1) x d).2)).1])) := e_89_16
          refine ik_Wk 0 (pc' := 34) (loc' := [some (.ref 14), some (fI n), some (fI i)]) (st' := []) (h' := h_89) (cl' := 0) (sl' := 0) rfl ?_
          have zin1 := mx_sd_in (W := (fun x => mx_w cn go ch s x)) (pl := pl) (k := kb) (c := pb) (fr := fb) (m := m + 1) (x := y) (d := (mx_sd (fun x => mx_w cn go ch s x) (pl - 1) ka pa fa (m + 1) x d).2) q5 (by omega) (by omega) (by omega)
          have zlo1 := mx_sd_lo (W := (fun x => mx_w cn go ch s x)) (pl := pl) (k := kb) (c := pb) (fr := fb) (m := m + 1) (x := y) (d := (mx_sd (fun x => mx_w cn go ch s x) (pl - 1) ka pa fa (m + 1) x d).2) q5 (by omega) (by omega) (by omega) (by omega)
          refine fw_inc (a := i) (loc' := [some (.ref 14), some (fI n), some (fI (i + 1))]) rfl rfl (Nat.le_of_ble_eq_true rfl) rfl ?_
          refine ik_Wk 1 (pc' := 2) (loc' := [some (.ref 14), some (fI n), some (fI (i + 1))]) (st' := []) (h' := h_89) (cl' := 0) (sl' := 0) rfl ?_
          exact ih  (i + 1) ((mx_sd (fun x => mx_w cn go ch s x) (pl - 1) ka pa fa (m + 1) x d).1) ((mx_sd (fun x => mx_w cn go ch s x) (pl - 1) kb pb fb (m + 1) y ((mx_sd (fun x => mx_w cn go ch s x) (pl - 1) ka pa fa (m + 1) x d).2)).1) (m + 1) ((mx_sd (fun x => mx_w cn go ch s x) (pl - 1) kb pb fb (m + 1) y ((mx_sd (fun x => mx_w cn go ch s x) (pl - 1) ka pa fa (m + 1) x d).2)).2) h_89 g_89_7 g_89_11 n11 g_89_12 n12 g_89_13 n13 g_89_14 g_89_15 g_89_16 k_89 fr_89 (by omega) (by omega) (by omega) (by omega) (by omega) (by omega) (by omega) (by rw [he, show (n - i).toNat = (n - (i + 1)).toNat + 1 by omega, mx_dr_n (by omega)]) (by omega)

theorem cs_drift {h : List ik_E} {pl : Int} {mi : Int} {sd : Int} {ka : Int} {pa : Int} {fa : Int} {kb : Int} {pb : Int} {fb : Int} {xa : Int} {xb : Int} {s : Nat} {cn : List Int} {go : List Int} {ch : List Int} {n : Int} {lo : Int} {wg : List Int} {wc : List Int} {we : List Int} (q0 : 2 ≤ pl ∧ pl ≤ 12) (q1 : s < 4096) (q2 : 0 ≤ sd ∧ sd < 2147483648) (q3 : 0 ≤ mi ∧ mi < 2000000000) (q4 : ∀ x : Int, 0 ≤ x → x < pl - 1 → mx_wy wg wc we x (mx_w cn go ch s x)) (q5 : ∀ x : Int, 0 ≤ x → x < pl - 1 → mx_ok pl (mx_w cn go ch s x)) (q6 : 0 ≤ ka ∧ ka ≤ 2) (q7 : 0 ≤ kb ∧ kb ≤ 2) (q8 : 0 ≤ fa ∧ fa ≤ 30) (q9 : 0 ≤ fb ∧ fb ≤ 30) (q10 : 0 ≤ pa ∧ pa < pl) (q11 : 0 ≤ pb ∧ pb < pl) (q12 : fa ≤ mi → 0 ≤ xa) (q13 : fb ≤ mi → 0 ≤ xb) (q14 : -1 ≤ xa ∧ xa < pl) (q15 : -1 ≤ xb ∧ xb < pl) (q16 : 0 ≤ n ∧ n ≤ 200) (q17 : mi < 1999999000) (h7 : cE h 7 (.inr (0, [fI pl, fI ((s : Nat) : Int), fI lo, .ref 8, .ref 9, .ref 10, .ref 11, .ref 12, .ref 13]))) (h11 : cE h 11 (.inl (.int, fA wg))) (n11 : wg.length = 60) (h12 : cE h 12 (.inl (.int, fA wc))) (n12 : wc.length = 60) (h13 : cE h 13 (.inl (.int, fA we))) (n13 : we.length = 12) (h14 : cE h 14 (.inr (1, [.ref 7, .ref 15, .ref 16, fI mi, fJ sd]))) (h15 : cE h 15 (.inl (.int, fA [ka, pa, fa, kb, pb, fb]))) (h16 : cE h 16 (.inl (.int, fA [xa, xb]))) (hl : h.length = 94) : ik_F 25 [.ref 14, fI n] h (fun rv h' => rv = [] ∧ cE h' 14 (.inr (1, [.ref 7, .ref 15, .ref 16, fI ((mx_dr (fun x => mx_w cn go ch s x) (pl - 1) ka pa fa kb pb fb n.toNat xa xb mi sd).2.2.1), fJ ((mx_dr (fun x => mx_w cn go ch s x) (pl - 1) ka pa fa kb pb fb n.toNat xa xb mi sd).2.2.2)])) ∧ cE h' 16 (.inl (.int, fA [(mx_dr (fun x => mx_w cn go ch s x) (pl - 1) ka pa fa kb pb fb n.toNat xa xb mi sd).1, (mx_dr (fun x => mx_w cn go ch s x) (pl - 1) ka pa fa kb pb fb n.toNat xa xb mi sd).2.1])) ∧ hfr [14, 16] h h') := by
  refine ik_Wk 2 (pc' := 2) (loc' := [some (.ref 14), some (fI n), some (fI 0)]) (st' := []) (h' := h) (cl' := 0) (sl' := 0) rfl ?_
  exact cs_driftL (pl := pl) (mi := mi) (sd := sd) (ka := ka) (pa := pa) (fa := fa) (kb := kb) (pb := pb) (fb := fb) (xa := xa) (xb := xb) (s := s) (cn := cn) (go := go) (ch := ch) (n := n) (lo := lo) (wg := wg) (wc := wc) (we := we) q0 q1 q2 q3 q4 q5 q6 q7 q8 q9 q10 q11 q12 q13 q14 q15 q16 q17  (n.toNat + 1) 0 xa xb mi sd h h7 h11 n11 h12 n12 h13 n13 h14 h15 h16 hl (hfr_refl [14, 16] h) (by omega) (by omega) (by omega) (by omega) (by omega) (by omega) (by omega) (by rw [show n - 0 = n by omega]) (by omega)

end