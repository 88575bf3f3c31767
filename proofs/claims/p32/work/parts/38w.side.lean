noncomputable section
/-! a minute of a side; n minutes; suits by draws (written by wip/fx/u3.py) -/
theorem cr_side0 {h : List ik_E} {pl : Int} {mi : Int} {sd : Int} {ka : Int} {pa : Int} {fa : Int} {kb : Int} {pb : Int} {fb : Int} {xa : Int} {xb : Int} {s : Nat} {cn : List Int} {go : List Int} {ch : List Int} {f : Nat → Int} {gt : List Int} {gd : List Int} (q0 : 2 ≤ pl ∧ pl ≤ 12) (q1 : s < 4096) (q2 : 0 ≤ sd ∧ sd < 2147483648) (q3 : 0 ≤ mi ∧ mi < 2000000000) (q4 : ∀ x : Int, 0 ≤ x → x < pl - 1 → 1 ≤ cn.getD x.toNat 0 ∧ ∀ j : Int, 4 * x ≤ j → j < 4 * x + cn.getD x.toNat 0 → 0 ≤ ch.getD j.toNat 0 ∧ ch.getD j.toNat 0 ≤ 100) (q5 : ∀ x : Int, 0 ≤ x → x < pl → 0 ≤ cn.getD x.toNat 0 ∧ cn.getD x.toNat 0 ≤ 4) (q6 : ∀ x : Int, 0 ≤ x → x < pl - 1 → mx_ok pl (mx_w cn go ch s x)) (q7 : 0 ≤ ka ∧ ka ≤ 2) (q8 : 0 ≤ fa ∧ fa ≤ 30) (q9 : fa < mi → 0 ≤ xa ∧ xa < pl) (h66 : cE h 66 (.inr (10, [fI pl, .ref 67, .ref 68, .ref 69, fI ((s : Nat) : Int), .ref 70, .ref 71, fI mi, fI sd, .ref 72, fI (f 10), fI (f 11), fI (f 12), fJ (f 13), fI (f 14), fI (f 15), fI (f 16), fI (f 17), .ref 73, .ref 74, .ref 75, .ref 76, .ref 77, .ref 78, fI (f 24), .ref 79, .ref 80, .ref 81, .ref 82, .ref 83, .ref 84, .ref 85, fJ (f 32), fJ (f 33), .ref 86, .ref 87, fI (f 36), .ref 88, .ref 89, .ref 90, .ref 91, .ref 92, .ref 93]))) (h67 : cE h 67 (.inl (.int, fA cn))) (n67 : cn.length = 12) (h68 : cE h 68 (.inl (.int, fA go))) (n68 : go.length = 48) (h69 : cE h 69 (.inl (.int, fA ch))) (n69 : ch.length = 48) (h70 : cE h 70 (.inl (.int, fA [ka, pa, fa, kb, pb, fb]))) (h71 : cE h 71 (.inl (.int, fA [xa, xb]))) (h77 : cE h 77 (.inl (.int, fA gt))) (n77 : gt.length = 5) (h78 : cE h 78 (.inl (.int, fA gd))) (n78 : gd.length = 5) (hl : h.length = 94) : ik_F 196 [.ref 66, fI 0] h (fun rv h' => ∃ (w' : Int) (gt' : List Int) (gd' : List Int), rv = [] ∧ cE h' 66 (.inr (10, [fI pl, .ref 67, .ref 68, .ref 69, fI ((s : Nat) : Int), .ref 70, .ref 71, fI mi, fI ((mx_sd (fun x => mx_w cn go ch s x) (pl - 1) ka pa fa mi xa sd).2), .ref 72, fI (f 10), fI (f 11), fI (f 12), fJ (f 13), fI (f 14), fI (f 15), fI (f 16), fI (f 17), .ref 73, .ref 74, .ref 75, .ref 76, .ref 77, .ref 78, fI w', .ref 79, .ref 80, .ref 81, .ref 82, .ref 83, .ref 84, .ref 85, fJ (f 32), fJ (f 33), .ref 86, .ref 87, fI (f 36), .ref 88, .ref 89, .ref 90, .ref 91, .ref 92, .ref 93])) ∧ cE h' 71 (.inl (.int, fA [(mx_sd (fun x => mx_w cn go ch s x) (pl - 1) ka pa fa mi xa sd).1, xb])) ∧ cE h' 77 (.inl (.int, fA gt')) ∧ gt'.length = 5 ∧ cE h' 78 (.inl (.int, fA gd')) ∧ gd'.length = 5 ∧ hfr [66, 71, 77, 78] h h') := by
  refine ik_Wk 1 (pc' := 1) (loc' := [some (.ref 66), some (fI 0), none, none, none]) (st' := [.ref 66]) (h' := h) (cl' := 0) (sl' := 0) rfl ?_
  refine fw_gf rfl rfl h66 rfl ?_
  refine ik_Wk 2 (pc' := 6) (loc' := [some (.ref 66), some (fI 0), none, none, none]) (st' := [fI 0, fI 3, .ref 70]) (h' := h) (cl' := 0) (sl' := 0) rfl ?_
  refine fw_mul rfl ?_
  refine ik_Wk 1 (pc' := 8) (loc' := [some (.ref 66), some (fI 0), none, none, none]) (st' := [fI 2, fI 0, .ref 70]) (h' := h) (cl' := 0) (sl' := 0) rfl ?_
  refine fw_add rfl ?_
  refine fw_ial (z := 2) rfl h70 (by decide) (Nat.le_of_ble_eq_true rfl) (by decide) ?_
  refine ik_Wk 0 (pc' := 10) (loc' := [some (.ref 66), some (fI 0), none, none, none]) (st' := [fI fa]) (h' := h) (cl' := 0) (sl' := 0) rfl ?_
  refine ik_Wk 2 (pc' := 12) (loc' := [some (.ref 66), some (fI 0), some (fI fa), none, none]) (st' := [.ref 66]) (h' := h) (cl' := 0) (sl' := 0) rfl ?_
  refine fw_gf rfl rfl h66 rfl ?_
  refine ik_Wk 1 (pc' := 16) (loc' := [some (.ref 66), some (fI 0), some (fI fa), none, none]) (st' := [fI fa, fI mi]) (h' := h) (cl' := 0) (sl' := 0) rfl ?_
  refine fw_ic_ne rfl rfl (by omega) (by omega) (by omega) (by omega) (fun hc1 => ?_) (fun hc1 => ?_)
  · refine ik_Wk 1 (pc' := 20) (loc' := [some (.ref 66), some (fI 0), some (fI fa), none, none]) (st' := [.ref 66]) (h' := h) (cl' := 0) (sl' := 0) rfl ?_
    refine fw_gf rfl rfl h66 rfl ?_
    refine ik_Wk 2 (pc' := 25) (loc' := [some (.ref 66), some (fI 0), some (fI fa), none, none]) (st' := [.ref 66, fI 0, .ref 71]) (h' := h) (cl' := 0) (sl' := 0) rfl ?_
    refine fw_gf rfl rfl h66 rfl ?_
    refine ik_Wk 2 (pc' := 30) (loc' := [some (.ref 66), some (fI 0), some (fI fa), none, none]) (st' := [fI 0, fI 3, .ref 70, fI 0, .ref 71]) (h' := h) (cl' := 0) (sl' := 0) rfl ?_
    refine fw_mul rfl ?_
    refine ik_Wk 1 (pc' := 32) (loc' := [some (.ref 66), some (fI 0), some (fI fa), none, none]) (st' := [fI 1, fI 0, .ref 70, fI 0, .ref 71]) (h' := h) (cl' := 0) (sl' := 0) rfl ?_
    refine fw_add rfl ?_
    refine fw_ial (z := 1) rfl h70 (by decide) (Nat.le_of_ble_eq_true rfl) (by decide) ?_
    refine ik_Wk 0 (pc' := 34) (loc' := [some (.ref 66), some (fI 0), some (fI fa), none, none]) (st' := [fI pa, fI 0, .ref 71]) (h' := h) (cl' := 0) (sl' := 0) rfl ?_
    refine fx_ias (z := 0) rfl h71 (by decide) (Nat.le_of_ble_eq_true rfl) (by decide) ?_
    intro h_26 e_26 f_26 l_26
    have k_26 := l_26.trans hl
    have fr_26 := hfr_w (hfr_refl [66, 71, 77, 78] h) f_26 l_26 (by decide)
    have g_26_66 := (f_26 66 (by decide)).trans h66
    have g_26_67 := (f_26 67 (by decide)).trans h67
    have g_26_68 := (f_26 68 (by decide)).trans h68
    have g_26_69 := (f_26 69 (by decide)).trans h69
    have g_26_70 := (f_26 70 (by decide)).trans h70
    have g_26_77 := (f_26 77 (by decide)).trans h77
    have g_26_78 := (f_26 78 (by decide)).trans h78
    have g_26_71 : cE h_26 71 (.inl (.int, fA [pa, xb])) := e_26
    refine ik_Wk 1 (pc' := 138) (loc' := [some (.ref 66), some (fI 0), some (fI fa), none, none]) (st' := []) (h' := h_26) (cl' := 0) (sl' := 0) rfl ?_
    have ez : (mx_sd (fun x => mx_w cn go ch s x) (pl - 1) ka pa fa mi xa sd) = (pa, sd) := by
      unfold mx_sd
      rw [if_pos (by omega)]
    rw [ez]
    exact ik_Wret rfl rfl ⟨_, _, rfl, rfl, rfl, rfl, ⟨(f 24), gt, gd, rfl, g_26_66, g_26_71, g_26_77, n77, g_26_78, n78, fr_26⟩⟩
  · refine ik_Wk 1 (pc' := 39) (loc' := [some (.ref 66), some (fI 0), some (fI fa), none, none]) (st' := [.ref 66]) (h' := h) (cl' := 0) (sl' := 0) rfl ?_
    refine fw_gf rfl rfl h66 rfl ?_
    refine ik_Wk 1 (pc' := 43) (loc' := [some (.ref 66), some (fI 0), some (fI fa), none, none]) (st' := [fI fa, fI mi]) (h' := h) (cl' := 0) (sl' := 0) rfl ?_
    refine fw_ic_le rfl rfl (by omega) (by omega) (by omega) (by omega) (fun hc2 => ?_) (fun hc2 => ?_)
    · have ez : (mx_sd (fun x => mx_w cn go ch s x) (pl - 1) ka pa fa mi xa sd) = (xa, sd) := by
        unfold mx_sd
        rw [if_neg (by omega), if_neg (by omega)]
      rw [ez]
      exact ik_Wret rfl rfl ⟨_, _, rfl, rfl, rfl, rfl, ⟨(f 24), gt, gd, rfl, h66, h71, h77, n77, h78, n78, (hfr_refl [66, 71, 77, 78] h)⟩⟩
    · refine ik_Wk 1 (pc' := 47) (loc' := [some (.ref 66), some (fI 0), some (fI fa), none, none]) (st' := [.ref 66]) (h' := h) (cl' := 0) (sl' := 0) rfl ?_
      refine fw_gf rfl rfl h66 rfl ?_
      refine ik_Wk 2 (pc' := 52) (loc' := [some (.ref 66), some (fI 0), some (fI fa), none, none]) (st' := [fI 0, fI 3, .ref 70]) (h' := h) (cl' := 0) (sl' := 0) rfl ?_
      refine fw_mul rfl ?_
      refine fw_ial (z := 0) rfl h70 (by decide) (Nat.le_of_ble_eq_true rfl) (by decide) ?_
      refine ik_Wk 0 (pc' := 54) (loc' := [some (.ref 66), some (fI 0), some (fI fa), none, none]) (st' := [fI ka]) (h' := h) (cl' := 0) (sl' := 0) rfl ?_
      refine fw_if_ne rfl rfl (by omega) (by omega) (fun hc3 => ?_) (fun hc3 => ?_)
      · refine ik_Wk 7 (pc' := 100) (loc' := [some (.ref 66), some (fI 0), some (fI fa), some (fI 1), some (fI 0)]) (st' := [fI 1, fI 0]) (h' := h) (cl' := 0) (sl' := 0) rfl ?_
        refine fw_ic_ge rfl rfl (by omega) (by omega) (by omega) (by omega) (fun hc4 => absurd hc4 (by omega)) (fun hc4 => ?_)
        refine ik_Wk 1 (pc' := 104) (loc' := [some (.ref 66), some (fI 0), some (fI fa), some (fI 1), some (fI 0)]) (st' := [.ref 66]) (h' := h) (cl' := 0) (sl' := 0) rfl ?_
        refine fw_gf rfl rfl h66 rfl ?_
        refine ik_Wk 1 (pc' := 108) (loc' := [some (.ref 66), some (fI 0), some (fI fa), some (fI 1), some (fI 0)]) (st' := [fI 0, .ref 71]) (h' := h) (cl' := 0) (sl' := 0) rfl ?_
        refine fw_ial (z := 0) rfl h71 (by decide) (Nat.le_of_ble_eq_true rfl) (by decide) ?_
        refine ik_Wk 0 (pc' := 109) (loc' := [some (.ref 66), some (fI 0), some (fI fa), some (fI 1), some (fI 0)]) (st' := [fI xa]) (h' := h) (cl' := 0) (sl' := 0) rfl ?_
        refine ik_Wk 1 (pc' := 110) (loc' := [some (.ref 66), some (fI 0), some (fI fa), some (fI 1), some (fI 0)]) (st' := [.ref 66, fI xa]) (h' := h) (cl' := 0) (sl' := 0) rfl ?_
        refine ik_Wc 130 1 0 [.ref 66] [fI xa] rfl rfl rfl (by decide) rfl rfl (fw_rec hl rfl h66 rfl (by decide)) ?_
        refine ik_Wk 0 (pc' := 0) (loc' := [some (.ref 66)]) (st' := []) (h' := h) (cl' := 0) (sl' := 0) rfl ?_
        refine ik_Wk 1 (pc' := 1) (loc' := [some (.ref 66)]) (st' := [.ref 66]) (h' := h) (cl' := 0) (sl' := 0) rfl ?_
        refine fw_gf rfl rfl h66 rfl ?_
        refine ik_Wk 1 (pc' := 5) (loc' := [some (.ref 66)]) (st' := [fI 1, fI pl]) (h' := h) (cl' := 0) (sl' := 0) rfl ?_
        refine fw_sub rfl ?_
        refine ik_Wret rfl rfl ⟨_, _, rfl, rfl, ?_⟩
        refine ik_Wk 0 (pc' := 113) (loc' := [some (.ref 66), some (fI 0), some (fI fa), some (fI 1), some (fI 0)]) (st' := [fI (pl - 1), fI xa]) (h' := h) (cl' := 0) (sl' := 0) rfl ?_
        refine fw_ic_eq rfl rfl (by omega) (by omega) (by omega) (by omega) (fun hc5 => ?_) (fun hc5 => ?_)
        · have et : mx_tm ka (mi - fa) = 1 := by unfold mx_tm; (repeat' split) <;> omega
          have ez : (mx_sd (fun x => mx_w cn go ch s x) (pl - 1) ka pa fa mi xa sd) = (xa, sd) := by
            unfold mx_sd
            rw [if_neg (by omega), if_pos (by omega)]
            rw [et]
            exact mx_go_b (by omega)
          rw [ez]
          exact ik_Wret rfl rfl ⟨_, _, rfl, rfl, rfl, rfl, ⟨(f 24), gt, gd, rfl, h66, h71, h77, n77, h78, n78, (hfr_refl [66, 71, 77, 78] h)⟩⟩
        · refine ik_Wk 1 (pc' := 117) (loc' := [some (.ref 66), some (fI 0), some (fI fa), some (fI 1), some (fI 0)]) (st' := [.ref 66]) (h' := h) (cl' := 0) (sl' := 0) rfl ?_
          refine fw_gf rfl rfl h66 rfl ?_
          refine ik_Wk 3 (pc' := 123) (loc' := [some (.ref 66), some (fI 0), some (fI fa), some (fI 1), some (fI 0)]) (st' := [.ref 66, .ref 66, fI 0, .ref 71]) (h' := h) (cl' := 0) (sl' := 0) rfl ?_
          refine fw_gf rfl rfl h66 rfl ?_
          refine ik_Wk 1 (pc' := 127) (loc' := [some (.ref 66), some (fI 0), some (fI fa), some (fI 1), some (fI 0)]) (st' := [fI 0, .ref 71, .ref 66, fI 0, .ref 71]) (h' := h) (cl' := 0) (sl' := 0) rfl ?_
          refine fw_ial (z := 0) rfl h71 (by decide) (Nat.le_of_ble_eq_true rfl) (by decide) ?_
          refine ik_Wk 0 (pc' := 128) (loc' := [some (.ref 66), some (fI 0), some (fI fa), some (fI 1), some (fI 0)]) (st' := [fI xa, .ref 66, fI 0, .ref 71]) (h' := h) (cl' := 0) (sl' := 0) rfl ?_
          refine fw_call 195 2 0 [.ref 66, fI xa] [fI 0, .ref 71] rfl rfl rfl (by decide) rfl rfl (fw_rec hl rfl h66 rfl (by decide)) (cr_gone (p := xa) (f := fun j => ([pl, 0, 0, 0, 0, 0, 0, mi, 0, 0, f 10, f 11, f 12, f 13, f 14, f 15, f 16, f 17, 0, 0, 0, 0, 0, 0, f 24, 0, 0, 0, 0, 0, 0, 0, f 32, f 33, 0, 0, f 36, 0, 0, 0, 0, 0, 0] : List Int).getD j 0) (s := s) (cn := cn) (go := go) (ch := ch) (gt := gt) (gd := gd) (sd := sd) (by omega) (by omega) (by omega) (q5 _ (by omega) (by omega)) (q4 _ (by omega) (by omega)).2 (q4 _ (by omega) (by omega)).1 (by omega) (q6 _ (by omega) (by omega)) h66 h67 n67 h68 n68 h69 n69 h77 n77 h78 n78 hl) ?_
          rintro _ h_27 ⟨gt'_27, gd'_27, rfl, e_27_66, e_27_77, m_27_77, e_27_78, m_27_78, F_27⟩
          have k_27 := F_27.1.trans hl
          have fr_27 := hfr_c (hfr_refl [66, 71, 77, 78] h) F_27 (by decide)
          have g_27_67 := (F_27.2 67 (by decide +kernel)).trans h67
          have g_27_68 := (F_27.2 68 (by decide +kernel)).trans h68
          have g_27_69 := (F_27.2 69 (by decide +kernel)).trans h69
          have g_27_70 := (F_27.2 70 (by decide +kernel)).trans h70
          have g_27_71 := (F_27.2 71 (by decide +kernel)).trans h71
          have g_27_66 : cE h_27 66 (.inr (10, [fI pl, .ref 67, .ref 68, .ref 69, fI ((s : Nat) : Int), .ref 70, .ref 71, fI mi, fI (mx_d sd), .ref 72, fI (f 10), fI (f 11), fI (f 12), fJ (f 13), fI (f 14), fI (f 15), fI (f 16), fI (f 17), .ref 73, .ref 74, .ref 75, .ref 76, .ref 77, .ref 78, fI ((mx_w cn go ch s xa).length : Int), .ref 79, .ref 80, .ref 81, .ref 82, .ref 83, .ref 84, .ref 85, fJ (f 32), fJ (f 33), .ref 86, .ref 87, fI (f 36), .ref 88, .ref 89, .ref 90, .ref 91, .ref 92, .ref 93])) := e_27_66
          have g_27_77 : cE h_27 77 (.inl (.int, fA gt'_27)) := e_27_77
          have g_27_78 : cE h_27 78 (.inl (.int, fA gd'_27)) := e_27_78
          refine ik_Wk 0 (pc' := 131) (loc' := [some (.ref 66), some (fI 0), some (fI fa), some (fI 1), some (fI 0)]) (st' := [fI (mx_pk (mx_w cn go ch s xa) (mx_v sd) xa), fI 0, .ref 71]) (h' := h_27) (cl' := 0) (sl' := 0) rfl ?_
          have hp27 := mx_pk_in (f := xa) (q6 xa (by omega) (by omega)) (mx_v_b sd).1 (mx_v_b sd).2
          have hz27 := mx_d_b sd
          refine fx_ias (z := 0) rfl g_27_71 (by decide) (Nat.le_of_ble_eq_true rfl) (by decide) ?_
          intro h_28 e_28 f_28 l_28
          have k_28 := l_28.trans k_27
          have fr_28 := hfr_w fr_27 f_28 l_28 (by decide)
          have g_28_66 := (f_28 66 (by decide)).trans g_27_66
          have g_28_67 := (f_28 67 (by decide)).trans g_27_67
          have g_28_68 := (f_28 68 (by decide)).trans g_27_68
          have g_28_69 := (f_28 69 (by decide)).trans g_27_69
          have g_28_70 := (f_28 70 (by decide)).trans g_27_70
          have g_28_77 := (f_28 77 (by decide)).trans g_27_77
          have g_28_78 := (f_28 78 (by decide)).trans g_27_78
          have g_28_71 : cE h_28 71 (.inl (.int, fA [mx_pk (mx_w cn go ch s xa) (mx_v sd) xa, xb])) := e_28
          refine fw_inc (a := 0) (loc' := [some (.ref 66), some (fI 0), some (fI fa), some (fI 1), some (fI 1)]) rfl rfl (Nat.le_of_ble_eq_true rfl) rfl ?_
          refine ik_Wk 3 (pc' := 100) (loc' := [some (.ref 66), some (fI 0), some (fI fa), some (fI 1), some (fI 1)]) (st' := [fI 1, fI 1]) (h' := h_28) (cl' := 0) (sl' := 0) rfl ?_
          refine fw_ic_ge rfl rfl (by omega) (by omega) (by omega) (by omega) (fun hc6 => ?_) (fun hc6 => absurd hc6 (by omega))
          have et : mx_tm ka (mi - fa) = 1 := by unfold mx_tm; (repeat' split) <;> omega
          have ez : (mx_sd (fun x => mx_w cn go ch s x) (pl - 1) ka pa fa mi xa sd) = (mx_pk (mx_w cn go ch s xa) (mx_v sd) xa, mx_d sd) := by
            unfold mx_sd
            rw [if_neg (by omega), if_pos (by omega)]
            rw [et]
            rw [mx_go_n (by omega)]
            rfl
          rw [ez]
          exact ik_Wret rfl rfl ⟨_, _, rfl, rfl, rfl, rfl, ⟨((mx_w cn go ch s xa).length : Int), gt'_27, gd'_27, rfl, g_28_66, g_28_71, g_28_77, m_27_77, g_28_78, m_27_78, fr_28⟩⟩
      · refine ik_Wk 1 (pc' := 62) (loc' := [some (.ref 66), some (fI 0), some (fI fa), none, none]) (st' := [.ref 66]) (h' := h) (cl' := 0) (sl' := 0) rfl ?_
        refine fw_gf rfl rfl h66 rfl ?_
        refine ik_Wk 2 (pc' := 67) (loc' := [some (.ref 66), some (fI 0), some (fI fa), none, none]) (st' := [fI 0, fI 3, .ref 70]) (h' := h) (cl' := 0) (sl' := 0) rfl ?_
        refine fw_mul rfl ?_
        refine fw_ial (z := 0) rfl h70 (by decide) (Nat.le_of_ble_eq_true rfl) (by decide) ?_
        refine ik_Wk 0 (pc' := 69) (loc' := [some (.ref 66), some (fI 0), some (fI fa), none, none]) (st' := [fI ka]) (h' := h) (cl' := 0) (sl' := 0) rfl ?_
        refine ik_Wk 1 (pc' := 70) (loc' := [some (.ref 66), some (fI 0), some (fI fa), none, none]) (st' := [fI 1, fI ka]) (h' := h) (cl' := 0) (sl' := 0) rfl ?_
        refine fw_ic_ne rfl rfl (by omega) (by omega) (by omega) (by omega) (fun hc7 => ?_) (fun hc7 => ?_)
        · refine ik_Wk 7 (pc' := 100) (loc' := [some (.ref 66), some (fI 0), some (fI fa), some (fI 2), some (fI 0)]) (st' := [fI 2, fI 0]) (h' := h) (cl' := 0) (sl' := 0) rfl ?_
          refine fw_ic_ge rfl rfl (by omega) (by omega) (by omega) (by omega) (fun hc8 => absurd hc8 (by omega)) (fun hc8 => ?_)
          refine ik_Wk 1 (pc' := 104) (loc' := [some (.ref 66), some (fI 0), some (fI fa), some (fI 2), some (fI 0)]) (st' := [.ref 66]) (h' := h) (cl' := 0) (sl' := 0) rfl ?_
          refine fw_gf rfl rfl h66 rfl ?_
          refine ik_Wk 1 (pc' := 108) (loc' := [some (.ref 66), some (fI 0), some (fI fa), some (fI 2), some (fI 0)]) (st' := [fI 0, .ref 71]) (h' := h) (cl' := 0) (sl' := 0) rfl ?_
          refine fw_ial (z := 0) rfl h71 (by decide) (Nat.le_of_ble_eq_true rfl) (by decide) ?_
          refine ik_Wk 0 (pc' := 109) (loc' := [some (.ref 66), some (fI 0), some (fI fa), some (fI 2), some (fI 0)]) (st' := [fI xa]) (h' := h) (cl' := 0) (sl' := 0) rfl ?_
          refine ik_Wk 1 (pc' := 110) (loc' := [some (.ref 66), some (fI 0), some (fI fa), some (fI 2), some (fI 0)]) (st' := [.ref 66, fI xa]) (h' := h) (cl' := 0) (sl' := 0) rfl ?_
          refine ik_Wc 130 1 0 [.ref 66] [fI xa] rfl rfl rfl (by decide) rfl rfl (fw_rec hl rfl h66 rfl (by decide)) ?_
          refine ik_Wk 0 (pc' := 0) (loc' := [some (.ref 66)]) (st' := []) (h' := h) (cl' := 0) (sl' := 0) rfl ?_
          refine ik_Wk 1 (pc' := 1) (loc' := [some (.ref 66)]) (st' := [.ref 66]) (h' := h) (cl' := 0) (sl' := 0) rfl ?_
          refine fw_gf rfl rfl h66 rfl ?_
          refine ik_Wk 1 (pc' := 5) (loc' := [some (.ref 66)]) (st' := [fI 1, fI pl]) (h' := h) (cl' := 0) (sl' := 0) rfl ?_
          refine fw_sub rfl ?_
          refine ik_Wret rfl rfl ⟨_, _, rfl, rfl, ?_⟩
          refine ik_Wk 0 (pc' := 113) (loc' := [some (.ref 66), some (fI 0), some (fI fa), some (fI 2), some (fI 0)]) (st' := [fI (pl - 1), fI xa]) (h' := h) (cl' := 0) (sl' := 0) rfl ?_
          refine fw_ic_eq rfl rfl (by omega) (by omega) (by omega) (by omega) (fun hc9 => ?_) (fun hc9 => ?_)
          · have et : mx_tm ka (mi - fa) = 2 := by unfold mx_tm; (repeat' split) <;> omega
            have ez : (mx_sd (fun x => mx_w cn go ch s x) (pl - 1) ka pa fa mi xa sd) = (xa, sd) := by
              unfold mx_sd
              rw [if_neg (by omega), if_pos (by omega)]
              rw [et]
              exact mx_go_b (by omega)
            rw [ez]
            exact ik_Wret rfl rfl ⟨_, _, rfl, rfl, rfl, rfl, ⟨(f 24), gt, gd, rfl, h66, h71, h77, n77, h78, n78, (hfr_refl [66, 71, 77, 78] h)⟩⟩
          · refine ik_Wk 1 (pc' := 117) (loc' := [some (.ref 66), some (fI 0), some (fI fa), some (fI 2), some (fI 0)]) (st' := [.ref 66]) (h' := h) (cl' := 0) (sl' := 0) rfl ?_
            refine fw_gf rfl rfl h66 rfl ?_
            refine ik_Wk 3 (pc' := 123) (loc' := [some (.ref 66), some (fI 0), some (fI fa), some (fI 2), some (fI 0)]) (st' := [.ref 66, .ref 66, fI 0, .ref 71]) (h' := h) (cl' := 0) (sl' := 0) rfl ?_
            refine fw_gf rfl rfl h66 rfl ?_
            refine ik_Wk 1 (pc' := 127) (loc' := [some (.ref 66), some (fI 0), some (fI fa), some (fI 2), some (fI 0)]) (st' := [fI 0, .ref 71, .ref 66, fI 0, .ref 71]) (h' := h) (cl' := 0) (sl' := 0) rfl ?_
            refine fw_ial (z := 0) rfl h71 (by decide) (Nat.le_of_ble_eq_true rfl) (by decide) ?_
            refine ik_Wk 0 (pc' := 128) (loc' := [some (.ref 66), some (fI 0), some (fI fa), some (fI 2), some (fI 0)]) (st' := [fI xa, .ref 66, fI 0, .ref 71]) (h' := h) (cl' := 0) (sl' := 0) rfl ?_
            refine fw_call 195 2 0 [.ref 66, fI xa] [fI 0, .ref 71] rfl rfl rfl (by decide) rfl rfl (fw_rec hl rfl h66 rfl (by decide)) (cr_gone (p := xa) (f := fun j => ([pl, 0, 0, 0, 0, 0, 0, mi, 0, 0, f 10, f 11, f 12, f 13, f 14, f 15, f 16, f 17, 0, 0, 0, 0, 0, 0, f 24, 0, 0, 0, 0, 0, 0, 0, f 32, f 33, 0, 0, f 36, 0, 0, 0, 0, 0, 0] : List Int).getD j 0) (s := s) (cn := cn) (go := go) (ch := ch) (gt := gt) (gd := gd) (sd := sd) (by omega) (by omega) (by omega) (q5 _ (by omega) (by omega)) (q4 _ (by omega) (by omega)).2 (q4 _ (by omega) (by omega)).1 (by omega) (q6 _ (by omega) (by omega)) h66 h67 n67 h68 n68 h69 n69 h77 n77 h78 n78 hl) ?_
            rintro _ h_29 ⟨gt'_29, gd'_29, rfl, e_29_66, e_29_77, m_29_77, e_29_78, m_29_78, F_29⟩
            have k_29 := F_29.1.trans hl
            have fr_29 := hfr_c (hfr_refl [66, 71, 77, 78] h) F_29 (by decide)
            have g_29_67 := (F_29.2 67 (by decide +kernel)).trans h67
            have g_29_68 := (F_29.2 68 (by decide +kernel)).trans h68
            have g_29_69 := (F_29.2 69 (by decide +kernel)).trans h69
            have g_29_70 := (F_29.2 70 (by decide +kernel)).trans h70
            have g_29_71 := (F_29.2 71 (by decide +kernel)).trans h71
            have g_29_66 : cE h_29 66 (.inr (10, [fI pl, .ref 67, .ref 68, .ref 69, fI ((s : Nat) : Int), .ref 70, .ref 71, fI mi, fI (mx_d sd), .ref 72, fI (f 10), fI (f 11), fI (f 12), fJ (f 13), fI (f 14), fI (f 15), fI (f 16), fI (f 17), .ref 73, .ref 74, .ref 75, .ref 76, .ref 77, .ref 78, fI ((mx_w cn go ch s xa).length : Int), .ref 79, .ref 80, .ref 81, .ref 82, .ref 83, .ref 84, .ref 85, fJ (f 32), fJ (f 33), .ref 86, .ref 87, fI (f 36), .ref 88, .ref 89, .ref 90, .ref 91, .ref 92, .ref 93])) := e_29_66
            have g_29_77 : cE h_29 77 (.inl (.int, fA gt'_29)) := e_29_77
            have g_29_78 : cE h_29 78 (.inl (.int, fA gd'_29)) := e_29_78
            refine ik_Wk 0 (pc' := 131) (loc' := [some (.ref 66), some (fI 0), some (fI fa), some (fI 2), some (fI 0)]) (st' := [fI (mx_pk (mx_w cn go ch s xa) (mx_v sd) xa), fI 0, .ref 71]) (h' := h_29) (cl' := 0) (sl' := 0) rfl ?_
            have hp29 := mx_pk_in (f := xa) (q6 xa (by omega) (by omega)) (mx_v_b sd).1 (mx_v_b sd).2
            have hz29 := mx_d_b sd
            refine fx_ias (z := 0) rfl g_29_71 (by decide) (Nat.le_of_ble_eq_true rfl) (by decide) ?_
            intro h_30 e_30 f_30 l_30
            have k_30 := l_30.trans k_29
            have fr_30 := hfr_w fr_29 f_30 l_30 (by decide)
            have g_30_66 := (f_30 66 (by decide)).trans g_29_66
            have g_30_67 := (f_30 67 (by decide)).trans g_29_67
            have g_30_68 := (f_30 68 (by decide)).trans g_29_68
            have g_30_69 := (f_30 69 (by decide)).trans g_29_69
            have g_30_70 := (f_30 70 (by decide)).trans g_29_70
            have g_30_77 := (f_30 77 (by decide)).trans g_29_77
            have g_30_78 := (f_30 78 (by decide)).trans g_29_78
            have g_30_71 : cE h_30 71 (.inl (.int, fA [mx_pk (mx_w cn go ch s xa) (mx_v sd) xa, xb])) := e_30
            refine fw_inc (a := 0) (loc' := [some (.ref 66), some (fI 0), some (fI fa), some (fI 2), some (fI 1)]) rfl rfl (Nat.le_of_ble_eq_true rfl) rfl ?_
            refine ik_Wk 3 (pc' := 100) (loc' := [some (.ref 66), some (fI 0), some (fI fa), some (fI 2), some (fI 1)]) (st' := [fI 2, fI 1]) (h' := h_30) (cl' := 0) (sl' := 0) rfl ?_
            refine fw_ic_ge rfl rfl (by omega) (by omega) (by omega) (by omega) (fun hc10 => absurd hc10 (by omega)) (fun hc10 => ?_)
            refine ik_Wk 1 (pc' := 104) (loc' := [some (.ref 66), some (fI 0), some (fI fa), some (fI 2), some (fI 1)]) (st' := [.ref 66]) (h' := h_30) (cl' := 0) (sl' := 0) rfl ?_
            refine fw_gf rfl rfl g_30_66 rfl ?_
            refine ik_Wk 1 (pc' := 108) (loc' := [some (.ref 66), some (fI 0), some (fI fa), some (fI 2), some (fI 1)]) (st' := [fI 0, .ref 71]) (h' := h_30) (cl' := 0) (sl' := 0) rfl ?_
            refine fw_ial (z := 0) rfl g_30_71 (by decide) (Nat.le_of_ble_eq_true rfl) (by decide) ?_
            refine ik_Wk 0 (pc' := 109) (loc' := [some (.ref 66), some (fI 0), some (fI fa), some (fI 2), some (fI 1)]) (st' := [fI (mx_pk (mx_w cn go ch s xa) (mx_v sd) xa)]) (h' := h_30) (cl' := 0) (sl' := 0) rfl ?_
            refine ik_Wk 1 (pc' := 110) (loc' := [some (.ref 66), some (fI 0), some (fI fa), some (fI 2), some (fI 1)]) (st' := [.ref 66, fI (mx_pk (mx_w cn go ch s xa) (mx_v sd) xa)]) (h' := h_30) (cl' := 0) (sl' := 0) rfl ?_
            refine ik_Wc 130 1 0 [.ref 66] [fI (mx_pk (mx_w cn go ch s xa) (mx_v sd) xa)] rfl rfl rfl (by decide) rfl rfl (fw_rec k_30 rfl g_30_66 rfl (by decide)) ?_
            refine ik_Wk 0 (pc' := 0) (loc' := [some (.ref 66)]) (st' := []) (h' := h_30) (cl' := 0) (sl' := 0) rfl ?_
            refine ik_Wk 1 (pc' := 1) (loc' := [some (.ref 66)]) (st' := [.ref 66]) (h' := h_30) (cl' := 0) (sl' := 0) rfl ?_
            refine fw_gf rfl rfl g_30_66 rfl ?_
            refine ik_Wk 1 (pc' := 5) (loc' := [some (.ref 66)]) (st' := [fI 1, fI pl]) (h' := h_30) (cl' := 0) (sl' := 0) rfl ?_
            refine fw_sub rfl ?_
            refine ik_Wret rfl rfl ⟨_, _, rfl, rfl, ?_⟩
            refine ik_Wk 0 (pc' := 113) (loc' := [some (.ref 66), some (fI 0), some (fI fa), some (fI 2), some (fI 1)]) (st' := [fI (pl - 1), fI (mx_pk (mx_w cn go ch s xa) (mx_v sd) xa)]) (h' := h_30) (cl' := 0) (sl' := 0) rfl ?_
            refine fw_ic_eq rfl rfl (by omega) (by omega) (by omega) (by omega) (fun hc11 => ?_) (fun hc11 => ?_)
            · have et : mx_tm ka (mi - fa) = 2 := by unfold mx_tm; (repeat' split) <;> omega
              have ez : (mx_sd (fun x => mx_w cn go ch s x) (pl - 1) ka pa fa mi xa sd) = (mx_pk (mx_w cn go ch s xa) (mx_v sd) xa, mx_d sd) := by
                unfold mx_sd
                rw [if_neg (by omega), if_pos (by omega)]
                rw [et]
                rw [mx_go_n (by omega)]
                exact mx_go_b (by omega)
              rw [ez]
              exact ik_Wret rfl rfl ⟨_, _, rfl, rfl, rfl, rfl, ⟨((mx_w cn go ch s xa).length : Int), gt'_29, gd'_29, rfl, g_30_66, g_30_71, g_30_77, m_29_77, g_30_78, m_29_78, fr_30⟩⟩
            · refine ik_Wk 1 (pc' := 117) (loc' := [some (.ref 66), some (fI 0), some (fI fa), some (fI 2), some (fI 1)]) (st' := [.ref 66]) (h' := h_30) (cl' := 0) (sl' := 0) rfl ?_
              refine fw_gf rfl rfl g_30_66 rfl ?_
              refine ik_Wk 3 (pc' := 123) (loc' := [some (.ref 66), some (fI 0), some (fI fa), some (fI 2), some (fI 1)]) (st' := [.ref 66, .ref 66, fI 0, .ref 71]) (h' := h_30) (cl' := 0) (sl' := 0) rfl ?_
              refine fw_gf rfl rfl g_30_66 rfl ?_
              refine ik_Wk 1 (pc' := 127) (loc' := [some (.ref 66), some (fI 0), some (fI fa), some (fI 2), some (fI 1)]) (st' := [fI 0, .ref 71, .ref 66, fI 0, .ref 71]) (h' := h_30) (cl' := 0) (sl' := 0) rfl ?_
              refine fw_ial (z := 0) rfl g_30_71 (by decide) (Nat.le_of_ble_eq_true rfl) (by decide) ?_
              refine ik_Wk 0 (pc' := 128) (loc' := [some (.ref 66), some (fI 0), some (fI fa), some (fI 2), some (fI 1)]) (st' := [fI (mx_pk (mx_w cn go ch s xa) (mx_v sd) xa), .ref 66, fI 0, .ref 71]) (h' := h_30) (cl' := 0) (sl' := 0) rfl ?_
              refine fw_call 195 2 0 [.ref 66, fI (mx_pk (mx_w cn go ch s xa) (mx_v sd) xa)] [fI 0, .ref 71] rfl rfl rfl (by decide) rfl rfl (fw_rec k_30 rfl g_30_66 rfl (by decide)) (cr_gone (p := mx_pk (mx_w cn go ch s xa) (mx_v sd) xa) (f := fun j => ([pl, 0, 0, 0, 0, 0, 0, mi, 0, 0, (f 10), (f 11), (f 12), (f 13), (f 14), (f 15), (f 16), (f 17), 0, 0, 0, 0, 0, 0, ((mx_w cn go ch s xa).length : Int), 0, 0, 0, 0, 0, 0, 0, (f 32), (f 33), 0, 0, (f 36), 0, 0, 0, 0, 0, 0] : List Int).getD j 0) (s := s) (cn := cn) (go := go) (ch := ch) (gt := gt'_29) (gd := gd'_29) (sd := mx_d sd) (by omega) (by omega) (by omega) (q5 _ (by omega) (by omega)) (q4 _ (by omega) (by omega)).2 (q4 _ (by omega) (by omega)).1 (by omega) (q6 _ (by omega) (by omega)) g_30_66 g_30_67 n67 g_30_68 n68 g_30_69 n69 g_30_77 m_29_77 g_30_78 m_29_78 k_30) ?_
              rintro _ h_31 ⟨gt'_31, gd'_31, rfl, e_31_66, e_31_77, m_31_77, e_31_78, m_31_78, F_31⟩
              have k_31 := F_31.1.trans k_30
              have fr_31 := hfr_c fr_30 F_31 (by decide)
              have g_31_67 := (F_31.2 67 (by decide +kernel)).trans g_30_67
              have g_31_68 := (F_31.2 68 (by decide +kernel)).trans g_30_68
              have g_31_69 := (F_31.2 69 (by decide +kernel)).trans g_30_69
              have g_31_70 := (F_31.2 70 (by decide +kernel)).trans g_30_70
              have g_31_71 := (F_31.2 71 (by decide +kernel)).trans g_30_71
              have g_31_66 : cE h_31 66 (.inr (10, [fI pl, .ref 67, .ref 68, .ref 69, fI ((s : Nat) : Int), .ref 70, .ref 71, fI mi, fI (mx_d (mx_d sd)), .ref 72, fI (f 10), fI (f 11), fI (f 12), fJ (f 13), fI (f 14), fI (f 15), fI (f 16), fI (f 17), .ref 73, .ref 74, .ref 75, .ref 76, .ref 77, .ref 78, fI ((mx_w cn go ch s (mx_pk (mx_w cn go ch s xa) (mx_v sd) xa)).length : Int), .ref 79, .ref 80, .ref 81, .ref 82, .ref 83, .ref 84, .ref 85, fJ (f 32), fJ (f 33), .ref 86, .ref 87, fI (f 36), .ref 88, .ref 89, .ref 90, .ref 91, .ref 92, .ref 93])) := e_31_66
              have g_31_77 : cE h_31 77 (.inl (.int, fA gt'_31)) := e_31_77
              have g_31_78 : cE h_31 78 (.inl (.int, fA gd'_31)) := e_31_78
              refine ik_Wk 0 (pc' := 131) (loc' := [some (.ref 66), some (fI 0), some (fI fa), some (fI 2), some (fI 1)]) (st' := [fI (mx_pk (mx_w cn go ch s (mx_pk (mx_w cn go ch s xa) (mx_v sd) xa)) (mx_v (mx_d sd)) (mx_pk (mx_w cn go ch s xa) (mx_v sd) xa)), fI 0, .ref 71]) (h' := h_31) (cl' := 0) (sl' := 0) rfl ?_
              have hp31 := mx_pk_in (f := mx_pk (mx_w cn go ch s xa) (mx_v sd) xa) (q6 (mx_pk (mx_w cn go ch s xa) (mx_v sd) xa) (by omega) (by omega)) (mx_v_b (mx_d sd)).1 (mx_v_b (mx_d sd)).2
              have hz31 := mx_d_b (mx_d sd)
              refine fx_ias (z := 0) rfl g_31_71 (by decide) (Nat.le_of_ble_eq_true rfl) (by decide) ?_
              intro h_32 e_32 f_32 l_32
              have k_32 := l_32.trans k_31
              have fr_32 := hfr_w fr_31 f_32 l_32 (by decide)
              have g_32_66 := (f_32 66 (by decide)).trans g_31_66
              have g_32_67 := (f_32 67 (by decide)).trans g_31_67
              have g_32_68 := (f_32 68 (by decide)).trans g_31_68
              have g_32_69 := (f_32 69 (by decide)).trans g_31_69
              have g_32_70 := (f_32 70 (by decide)).trans g_31_70
              have g_32_77 := (f_32 77 (by decide)).trans g_31_77
              have g_32_78 := (f_32 78 (by decide)).trans g_31_78
              have g_32_71 : cE h_32 71 (.inl (.int, fA [mx_pk (mx_w cn go ch s (mx_pk (mx_w cn go ch s xa) (mx_v sd) xa)) (mx_v (mx_d sd)) (mx_pk (mx_w cn go ch s xa) (mx_v sd) xa), xb])) := e_32
              refine fw_inc (a := 1) (loc' := [some (.ref 66), some (fI 0), some (fI fa), some (fI 2), some (fI 2)]) rfl rfl (Nat.le_of_ble_eq_true rfl) rfl ?_
              refine ik_Wk 3 (pc' := 100) (loc' := [some (.ref 66), some (fI 0), some (fI fa), some (fI 2), some (fI 2)]) (st' := [fI 2, fI 2]) (h' := h_32) (cl' := 0) (sl' := 0) rfl ?_
              refine fw_ic_ge rfl rfl (by omega) (by omega) (by omega) (by omega) (fun hc12 => ?_) (fun hc12 => absurd hc12 (by omega))
              have et : mx_tm ka (mi - fa) = 2 := by unfold mx_tm; (repeat' split) <;> omega
              have ez : (mx_sd (fun x => mx_w cn go ch s x) (pl - 1) ka pa fa mi xa sd) = (mx_pk (mx_w cn go ch s (mx_pk (mx_w cn go ch s xa) (mx_v sd) xa)) (mx_v (mx_d sd)) (mx_pk (mx_w cn go ch s xa) (mx_v sd) xa), mx_d (mx_d sd)) := by
                unfold mx_sd
                rw [if_neg (by omega), if_pos (by omega)]
                rw [et]
                rw [mx_go_n (by omega)]
                rw [mx_go_n (by omega)]
                rfl
              rw [ez]
              exact ik_Wret rfl rfl ⟨_, _, rfl, rfl, rfl, rfl, ⟨((mx_w cn go ch s (mx_pk (mx_w cn go ch s xa) (mx_v sd) xa)).length : Int), gt'_31, gd'_31, rfl, g_32_66, g_32_71, g_32_77, m_31_77, g_32_78, m_31_78, fr_32⟩⟩
        · refine ik_Wk 1 (pc' := 78) (loc' := [some (.ref 66), some (fI 0), some (fI fa), none, none]) (st' := [.ref 66]) (h' := h) (cl' := 0) (sl' := 0) rfl ?_
          refine fw_gf rfl rfl h66 rfl ?_
          refine ik_Wk 1 (pc' := 82) (loc' := [some (.ref 66), some (fI 0), some (fI fa), none, none]) (st' := [fI fa, fI mi]) (h' := h) (cl' := 0) (sl' := 0) rfl ?_
          refine fw_sub rfl ?_
          refine ik_Wk 1 (pc' := 84) (loc' := [some (.ref 66), some (fI 0), some (fI fa), none, none]) (st' := [fI 2, fI (mi - fa)]) (h' := h) (cl' := 0) (sl' := 0) rfl ?_
          refine fx_irem rfl (by omega) (by omega) (by omega) (by omega) ?_
          refine fw_if_ne rfl rfl (by omega) (by omega) (fun hc13 => ?_) (fun hc13 => ?_)
          · refine ik_Wk 7 (pc' := 100) (loc' := [some (.ref 66), some (fI 0), some (fI fa), some (fI 1), some (fI 0)]) (st' := [fI 1, fI 0]) (h' := h) (cl' := 0) (sl' := 0) rfl ?_
            refine fw_ic_ge rfl rfl (by omega) (by omega) (by omega) (by omega) (fun hc14 => absurd hc14 (by omega)) (fun hc14 => ?_)
            refine ik_Wk 1 (pc' := 104) (loc' := [some (.ref 66), some (fI 0), some (fI fa), some (fI 1), some (fI 0)]) (st' := [.ref 66]) (h' := h) (cl' := 0) (sl' := 0) rfl ?_
            refine fw_gf rfl rfl h66 rfl ?_
            refine ik_Wk 1 (pc' := 108) (loc' := [some (.ref 66), some (fI 0), some (fI fa), some (fI 1), some (fI 0)]) (st' := [fI 0, .ref 71]) (h' := h) (cl' := 0) (sl' := 0) rfl ?_
            refine fw_ial (z := 0) rfl h71 (by decide) (Nat.le_of_ble_eq_true rfl) (by decide) ?_
            refine ik_Wk 0 (pc' := 109) (loc' := [some (.ref 66), some (fI 0), some (fI fa), some (fI 1), some (fI 0)]) (st' := [fI xa]) (h' := h) (cl' := 0) (sl' := 0) rfl ?_
            refine ik_Wk 1 (pc' := 110) (loc' := [some (.ref 66), some (fI 0), some (fI fa), some (fI 1), some (fI 0)]) (st' := [.ref 66, fI xa]) (h' := h) (cl' := 0) (sl' := 0) rfl ?_
            refine ik_Wc 130 1 0 [.ref 66] [fI xa] rfl rfl rfl (by decide) rfl rfl (fw_rec hl rfl h66 rfl (by decide)) ?_
            refine ik_Wk 0 (pc' := 0) (loc' := [some (.ref 66)]) (st' := []) (h' := h) (cl' := 0) (sl' := 0) rfl ?_
            refine ik_Wk 1 (pc' := 1) (loc' := [some (.ref 66)]) (st' := [.ref 66]) (h' := h) (cl' := 0) (sl' := 0) rfl ?_
            refine fw_gf rfl rfl h66 rfl ?_
            refine ik_Wk 1 (pc' := 5) (loc' := [some (.ref 66)]) (st' := [fI 1, fI pl]) (h' := h) (cl' := 0) (sl' := 0) rfl ?_
            refine fw_sub rfl ?_
            refine ik_Wret rfl rfl ⟨_, _, rfl, rfl, ?_⟩
            refine ik_Wk 0 (pc' := 113) (loc' := [some (.ref 66), some (fI 0), some (fI fa), some (fI 1), some (fI 0)]) (st' := [fI (pl - 1), fI xa]) (h' := h) (cl' := 0) (sl' := 0) rfl ?_
            refine fw_ic_eq rfl rfl (by omega) (by omega) (by omega) (by omega) (fun hc15 => ?_) (fun hc15 => ?_)
            · have et : mx_tm ka (mi - fa) = 1 := by unfold mx_tm; (repeat' split) <;> omega
              have ez : (mx_sd (fun x => mx_w cn go ch s x) (pl - 1) ka pa fa mi xa sd) = (xa, sd) := by
                unfold mx_sd
                rw [if_neg (by omega), if_pos (by omega)]
                rw [et]
                exact mx_go_b (by omega)
              rw [ez]
              exact ik_Wret rfl rfl ⟨_, _, rfl, rfl, rfl, rfl, ⟨(f 24), gt, gd, rfl, h66, h71, h77, n77, h78, n78, (hfr_refl [66, 71, 77, 78] h)⟩⟩
            · refine ik_Wk 1 (pc' := 117) (loc' := [some (.ref 66), some (fI 0), some (fI fa), some (fI 1), some (fI 0)]) (st' := [.ref 66]) (h' := h) (cl' := 0) (sl' := 0) rfl ?_
              refine fw_gf rfl rfl h66 rfl ?_
              refine ik_Wk 3 (pc' := 123) (loc' := [some (.ref 66), some (fI 0), some (fI fa), some (fI 1), some (fI 0)]) (st' := [.ref 66, .ref 66, fI 0, .ref 71]) (h' := h) (cl' := 0) (sl' := 0) rfl ?_
              refine fw_gf rfl rfl h66 rfl ?_
              refine ik_Wk 1 (pc' := 127) (loc' := [some (.ref 66), some (fI 0), some (fI fa), some (fI 1), some (fI 0)]) (st' := [fI 0, .ref 71, .ref 66, fI 0, .ref 71]) (h' := h) (cl' := 0) (sl' := 0) rfl ?_
              refine fw_ial (z := 0) rfl h71 (by decide) (Nat.le_of_ble_eq_true rfl) (by decide) ?_
              refine ik_Wk 0 (pc' := 128) (loc' := [some (.ref 66), some (fI 0), some (fI fa), some (fI 1), some (fI 0)]) (st' := [fI xa, .ref 66, fI 0, .ref 71]) (h' := h) (cl' := 0) (sl' := 0) rfl ?_
              refine fw_call 195 2 0 [.ref 66, fI xa] [fI 0, .ref 71] rfl rfl rfl (by decide) rfl rfl (fw_rec hl rfl h66 rfl (by decide)) (cr_gone (p := xa) (f := fun j => ([pl, 0, 0, 0, 0, 0, 0, mi, 0, 0, f 10, f 11, f 12, f 13, f 14, f 15, f 16, f 17, 0, 0, 0, 0, 0, 0, f 24, 0, 0, 0, 0, 0, 0, 0, f 32, f 33, 0, 0, f 36, 0, 0, 0, 0, 0, 0] : List Int).getD j 0) (s := s) (cn := cn) (go := go) (ch := ch) (gt := gt) (gd := gd) (sd := sd) (by omega) (by omega) (by omega) (q5 _ (by omega) (by omega)) (q4 _ (by omega) (by omega)).2 (q4 _ (by omega) (by omega)).1 (by omega) (q6 _ (by omega) (by omega)) h66 h67 n67 h68 n68 h69 n69 h77 n77 h78 n78 hl) ?_
              rintro _ h_33 ⟨gt'_33, gd'_33, rfl, e_33_66, e_33_77, m_33_77, e_33_78, m_33_78, F_33⟩
              have k_33 := F_33.1.trans hl
              have fr_33 := hfr_c (hfr_refl [66, 71, 77, 78] h) F_33 (by decide)
              have g_33_67 := (F_33.2 67 (by decide +kernel)).trans h67
              have g_33_68 := (F_33.2 68 (by decide +kernel)).trans h68
              have g_33_69 := (F_33.2 69 (by decide +kernel)).trans h69
              have g_33_70 := (F_33.2 70 (by decide +kernel)).trans h70
              have g_33_71 := (F_33.2 71 (by decide +kernel)).trans h71
              have g_33_66 : cE h_33 66 (.inr (10, [fI pl, .ref 67, .ref 68, .ref 69, fI ((s : Nat) : Int), .ref 70, .ref 71, fI mi, fI (mx_d sd), .ref 72, fI (f 10), fI (f 11), fI (f 12), fJ (f 13), fI (f 14), fI (f 15), fI (f 16), fI (f 17), .ref 73, .ref 74, .ref 75, .ref 76, .ref 77, .ref 78, fI ((mx_w cn go ch s xa).length : Int), .ref 79, .ref 80, .ref 81, .ref 82, .ref 83, .ref 84, .ref 85, fJ (f 32), fJ (f 33), .ref 86, .ref 87, fI (f 36), .ref 88, .ref 89, .ref 90, .ref 91, .ref 92, .ref 93])) := e_33_66
              have g_33_77 : cE h_33 77 (.inl (.int, fA gt'_33)) := e_33_77
              have g_33_78 : cE h_33 78 (.inl (.int, fA gd'_33)) := e_33_78
              refine ik_Wk 0 (pc' := 131) (loc' := [some (.ref 66), some (fI 0), some (fI fa), some (fI 1), some (fI 0)]) (st' := [fI (mx_pk (mx_w cn go ch s xa) (mx_v sd) xa), fI 0, .ref 71]) (h' := h_33) (cl' := 0) (sl' := 0) rfl ?_
              have hp33 := mx_pk_in (f := xa) (q6 xa (by omega) (by omega)) (mx_v_b sd).1 (mx_v_b sd).2
              have hz33 := mx_d_b sd
              refine fx_ias (z := 0) rfl g_33_71 (by decide) (Nat.le_of_ble_eq_true rfl) (by decide) ?_
              intro h_34 e_34 f_34 l_34
              have k_34 := l_34.trans k_33
              have fr_34 := hfr_w fr_33 f_34 l_34 (by decide)
              have g_34_66 := (f_34 66 (by decide)).trans g_33_66
              have g_34_67 := (f_34 67 (by decide)).trans g_33_67
              have g_34_68 := (f_34 68 (by decide)).trans g_33_68
              have g_34_69 := (f_34 69 (by decide)).trans g_33_69
              have g_34_70 := (f_34 70 (by decide)).trans g_33_70
              have g_34_77 := (f_34 77 (by decide)).trans g_33_77
              have g_34_78 := (f_34 78 (by decide)).trans g_33_78
              have g_34_71 : cE h_34 71 (.inl (.int, fA [mx_pk (mx_w cn go ch s xa) (mx_v sd) xa, xb])) := e_34
              refine fw_inc (a := 0) (loc' := [some (.ref 66), some (fI 0), some (fI fa), some (fI 1), some (fI 1)]) rfl rfl (Nat.le_of_ble_eq_true rfl) rfl ?_
              refine ik_Wk 3 (pc' := 100) (loc' := [some (.ref 66), some (fI 0), some (fI fa), some (fI 1), some (fI 1)]) (st' := [fI 1, fI 1]) (h' := h_34) (cl' := 0) (sl' := 0) rfl ?_
              refine fw_ic_ge rfl rfl (by omega) (by omega) (by omega) (by omega) (fun hc16 => ?_) (fun hc16 => absurd hc16 (by omega))
              have et : mx_tm ka (mi - fa) = 1 := by unfold mx_tm; (repeat' split) <;> omega
              have ez : (mx_sd (fun x => mx_w cn go ch s x) (pl - 1) ka pa fa mi xa sd) = (mx_pk (mx_w cn go ch s xa) (mx_v sd) xa, mx_d sd) := by
                unfold mx_sd
                rw [if_neg (by omega), if_pos (by omega)]
                rw [et]
                rw [mx_go_n (by omega)]
                rfl
              rw [ez]
              exact ik_Wret rfl rfl ⟨_, _, rfl, rfl, rfl, rfl, ⟨((mx_w cn go ch s xa).length : Int), gt'_33, gd'_33, rfl, g_34_66, g_34_71, g_34_77, m_33_77, g_34_78, m_33_78, fr_34⟩⟩
          · refine ik_Wk 6 (pc' := 100) (loc' := [some (.ref 66), some (fI 0), some (fI fa), some (fI 0), some (fI 0)]) (st' := [fI 0, fI 0]) (h' := h) (cl' := 0) (sl' := 0) rfl ?_
            refine fw_ic_ge rfl rfl (by omega) (by omega) (by omega) (by omega) (fun hc17 => ?_) (fun hc17 => absurd hc17 (by omega))
            have et : mx_tm ka (mi - fa) = 0 := by unfold mx_tm; (repeat' split) <;> omega
            have ez : (mx_sd (fun x => mx_w cn go ch s x) (pl - 1) ka pa fa mi xa sd) = (xa, sd) := by
              unfold mx_sd
              rw [if_neg (by omega), if_pos (by omega)]
              rw [et]
              rfl
            rw [ez]
            exact ik_Wret rfl rfl ⟨_, _, rfl, rfl, rfl, rfl, ⟨(f 24), gt, gd, rfl, h66, h71, h77, n77, h78, n78, (hfr_refl [66, 71, 77, 78] h)⟩⟩

theorem cr_side1 {h : List ik_E} {pl : Int} {mi : Int} {sd : Int} {ka : Int} {pa : Int} {fa : Int} {kb : Int} {pb : Int} {fb : Int} {xa : Int} {xb : Int} {s : Nat} {cn : List Int} {go : List Int} {ch : List Int} {f : Nat → Int} {gt : List Int} {gd : List Int} (q0 : 2 ≤ pl ∧ pl ≤ 12) (q1 : s < 4096) (q2 : 0 ≤ sd ∧ sd < 2147483648) (q3 : 0 ≤ mi ∧ mi < 2000000000) (q4 : ∀ x : Int, 0 ≤ x → x < pl - 1 → 1 ≤ cn.getD x.toNat 0 ∧ ∀ j : Int, 4 * x ≤ j → j < 4 * x + cn.getD x.toNat 0 → 0 ≤ ch.getD j.toNat 0 ∧ ch.getD j.toNat 0 ≤ 100) (q5 : ∀ x : Int, 0 ≤ x → x < pl → 0 ≤ cn.getD x.toNat 0 ∧ cn.getD x.toNat 0 ≤ 4) (q6 : ∀ x : Int, 0 ≤ x → x < pl - 1 → mx_ok pl (mx_w cn go ch s x)) (q7 : 0 ≤ kb ∧ kb ≤ 2) (q8 : 0 ≤ fb ∧ fb ≤ 30) (q9 : fb < mi → 0 ≤ xb ∧ xb < pl) (h66 : cE h 66 (.inr (10, [fI pl, .ref 67, .ref 68, .ref 69, fI ((s : Nat) : Int), .ref 70, .ref 71, fI mi, fI sd, .ref 72, fI (f 10), fI (f 11), fI (f 12), fJ (f 13), fI (f 14), fI (f 15), fI (f 16), fI (f 17), .ref 73, .ref 74, .ref 75, .ref 76, .ref 77, .ref 78, fI (f 24), .ref 79, .ref 80, .ref 81, .ref 82, .ref 83, .ref 84, .ref 85, fJ (f 32), fJ (f 33), .ref 86, .ref 87, fI (f 36), .ref 88, .ref 89, .ref 90, .ref 91, .ref 92, .ref 93]))) (h67 : cE h 67 (.inl (.int, fA cn))) (n67 : cn.length = 12) (h68 : cE h 68 (.inl (.int, fA go))) (n68 : go.length = 48) (h69 : cE h 69 (.inl (.int, fA ch))) (n69 : ch.length = 48) (h70 : cE h 70 (.inl (.int, fA [ka, pa, fa, kb, pb, fb]))) (h71 : cE h 71 (.inl (.int, fA [xa, xb]))) (h77 : cE h 77 (.inl (.int, fA gt))) (n77 : gt.length = 5) (h78 : cE h 78 (.inl (.int, fA gd))) (n78 : gd.length = 5) (hl : h.length = 94) : ik_F 196 [.ref 66, fI 1] h (fun rv h' => ∃ (w' : Int) (gt' : List Int) (gd' : List Int), rv = [] ∧ cE h' 66 (.inr (10, [fI pl, .ref 67, .ref 68, .ref 69, fI ((s : Nat) : Int), .ref 70, .ref 71, fI mi, fI ((mx_sd (fun x => mx_w cn go ch s x) (pl - 1) kb pb fb mi xb sd).2), .ref 72, fI (f 10), fI (f 11), fI (f 12), fJ (f 13), fI (f 14), fI (f 15), fI (f 16), fI (f 17), .ref 73, .ref 74, .ref 75, .ref 76, .ref 77, .ref 78, fI w', .ref 79, .ref 80, .ref 81, .ref 82, .ref 83, .ref 84, .ref 85, fJ (f 32), fJ (f 33), .ref 86, .ref 87, fI (f 36), .ref 88, .ref 89, .ref 90, .ref 91, .ref 92, .ref 93])) ∧ cE h' 71 (.inl (.int, fA [xa, (mx_sd (fun x => mx_w cn go ch s x) (pl - 1) kb pb fb mi xb sd).1])) ∧ cE h' 77 (.inl (.int, fA gt')) ∧ gt'.length = 5 ∧ cE h' 78 (.inl (.int, fA gd')) ∧ gd'.length = 5 ∧ hfr [66, 71, 77, 78] h h') := by
  refine ik_Wk 1 (pc' := 1) (loc' := [some (.ref 66), some (fI 1), none, none, none]) (st' := [.ref 66]) (h' := h) (cl' := 0) (sl' := 0) rfl ?_
  refine fw_gf rfl rfl h66 rfl ?_
  refine ik_Wk 2 (pc' := 6) (loc' := [some (.ref 66), some (fI 1), none, none, none]) (st' := [fI 1, fI 3, .ref 70]) (h' := h) (cl' := 0) (sl' := 0) rfl ?_
  refine fw_mul rfl ?_
  refine ik_Wk 1 (pc' := 8) (loc' := [some (.ref 66), some (fI 1), none, none, none]) (st' := [fI 2, fI 3, .ref 70]) (h' := h) (cl' := 0) (sl' := 0) rfl ?_
  refine fw_add rfl ?_
  refine fw_ial (z := 5) rfl h70 (by decide) (Nat.le_of_ble_eq_true rfl) (by decide) ?_
  refine ik_Wk 0 (pc' := 10) (loc' := [some (.ref 66), some (fI 1), none, none, none]) (st' := [fI fb]) (h' := h) (cl' := 0) (sl' := 0) rfl ?_
  refine ik_Wk 2 (pc' := 12) (loc' := [some (.ref 66), some (fI 1), some (fI fb), none, none]) (st' := [.ref 66]) (h' := h) (cl' := 0) (sl' := 0) rfl ?_
  refine fw_gf rfl rfl h66 rfl ?_
  refine ik_Wk 1 (pc' := 16) (loc' := [some (.ref 66), some (fI 1), some (fI fb), none, none]) (st' := [fI fb, fI mi]) (h' := h) (cl' := 0) (sl' := 0) rfl ?_
  refine fw_ic_ne rfl rfl (by omega) (by omega) (by omega) (by omega) (fun hc1 => ?_) (fun hc1 => ?_)
  · refine ik_Wk 1 (pc' := 20) (loc' := [some (.ref 66), some (fI 1), some (fI fb), none, none]) (st' := [.ref 66]) (h' := h) (cl' := 0) (sl' := 0) rfl ?_
    refine fw_gf rfl rfl h66 rfl ?_
    refine ik_Wk 2 (pc' := 25) (loc' := [some (.ref 66), some (fI 1), some (fI fb), none, none]) (st' := [.ref 66, fI 1, .ref 71]) (h' := h) (cl' := 0) (sl' := 0) rfl ?_
    refine fw_gf rfl rfl h66 rfl ?_
    refine ik_Wk 2 (pc' := 30) (loc' := [some (.ref 66), some (fI 1), some (fI fb), none, none]) (st' := [fI 1, fI 3, .ref 70, fI 1, .ref 71]) (h' := h) (cl' := 0) (sl' := 0) rfl ?_
    refine fw_mul rfl ?_
    refine ik_Wk 1 (pc' := 32) (loc' := [some (.ref 66), some (fI 1), some (fI fb), none, none]) (st' := [fI 1, fI 3, .ref 70, fI 1, .ref 71]) (h' := h) (cl' := 0) (sl' := 0) rfl ?_
    refine fw_add rfl ?_
    refine fw_ial (z := 4) rfl h70 (by decide) (Nat.le_of_ble_eq_true rfl) (by decide) ?_
    refine ik_Wk 0 (pc' := 34) (loc' := [some (.ref 66), some (fI 1), some (fI fb), none, none]) (st' := [fI pb, fI 1, .ref 71]) (h' := h) (cl' := 0) (sl' := 0) rfl ?_
    refine fx_ias (z := 1) rfl h71 (by decide) (Nat.le_of_ble_eq_true rfl) (by decide) ?_
    intro h_35 e_35 f_35 l_35
    have k_35 := l_35.trans hl
    have fr_35 := hfr_w (hfr_refl [66, 71, 77, 78] h) f_35 l_35 (by decide)
    have g_35_66 := (f_35 66 (by decide)).trans h66
    have g_35_67 := (f_35 67 (by decide)).trans h67
    have g_35_68 := (f_35 68 (by decide)).trans h68
    have g_35_69 := (f_35 69 (by decide)).trans h69
    have g_35_70 := (f_35 70 (by decide)).trans h70
    have g_35_77 := (f_35 77 (by decide)).trans h77
    have g_35_78 := (f_35 78 (by decide)).trans h78
    have g_35_71 : cE h_35 71 (.inl (.int, fA [xa, pb])) := e_35
    refine ik_Wk 1 (pc' := 138) (loc' := [some (.ref 66), some (fI 1), some (fI fb), none, none]) (st' := []) (h' := h_35) (cl' := 0) (sl' := 0) rfl ?_
    have ez : (mx_sd (fun x => mx_w cn go ch s x) (pl - 1) kb pb fb mi xb sd) = (pb, sd) := by
      unfold mx_sd
      rw [if_pos (by omega)]
    rw [ez]
    exact ik_Wret rfl rfl ⟨_, _, rfl, rfl, rfl, rfl, ⟨(f 24), gt, gd, rfl, g_35_66, g_35_71, g_35_77, n77, g_35_78, n78, fr_35⟩⟩
  · refine ik_Wk 1 (pc' := 39) (loc' := [some (.ref 66), some (fI 1), some (fI fb), none, none]) (st' := [.ref 66]) (h' := h) (cl' := 0) (sl' := 0) rfl ?_
    refine fw_gf rfl rfl h66 rfl ?_
    refine ik_Wk 1 (pc' := 43) (loc' := [some (.ref 66), some (fI 1), some (fI fb), none, none]) (st' := [fI fb, fI mi]) (h' := h) (cl' := 0) (sl' := 0) rfl ?_
    refine fw_ic_le rfl rfl (by omega) (by omega) (by omega) (by omega) (fun hc2 => ?_) (fun hc2 => ?_)
    · have ez : (mx_sd (fun x => mx_w cn go ch s x) (pl - 1) kb pb fb mi xb sd) = (xb, sd) := by
        unfold mx_sd
        rw [if_neg (by omega), if_neg (by omega)]
      rw [ez]
      exact ik_Wret rfl rfl ⟨_, _, rfl, rfl, rfl, rfl, ⟨(f 24), gt, gd, rfl, h66, h71, h77, n77, h78, n78, (hfr_refl [66, 71, 77, 78] h)⟩⟩
    · refine ik_Wk 1 (pc' := 47) (loc' := [some (.ref 66), some (fI 1), some (fI fb), none, none]) (st' := [.ref 66]) (h' := h) (cl' := 0) (sl' := 0) rfl ?_
      refine fw_gf rfl rfl h66 rfl ?_
      refine ik_Wk 2 (pc' := 52) (loc' := [some (.ref 66), some (fI 1), some (fI fb), none, none]) (st' := [fI 1, fI 3, .ref 70]) (h' := h) (cl' := 0) (sl' := 0) rfl ?_
      refine fw_mul rfl ?_
      refine fw_ial (z := 3) rfl h70 (by decide) (Nat.le_of_ble_eq_true rfl) (by decide) ?_
      refine ik_Wk 0 (pc' := 54) (loc' := [some (.ref 66), some (fI 1), some (fI fb), none, none]) (st' := [fI kb]) (h' := h) (cl' := 0) (sl' := 0) rfl ?_
      refine fw_if_ne rfl rfl (by omega) (by omega) (fun hc3 => ?_) (fun hc3 => ?_)
      · refine ik_Wk 7 (pc' := 100) (loc' := [some (.ref 66), some (fI 1), some (fI fb), some (fI 1), some (fI 0)]) (st' := [fI 1, fI 0]) (h' := h) (cl' := 0) (sl' := 0) rfl ?_
        refine fw_ic_ge rfl rfl (by omega) (by omega) (by omega) (by omega) (fun hc4 => absurd hc4 (by omega)) (fun hc4 => ?_)
        refine ik_Wk 1 (pc' := 104) (loc' := [some (.ref 66), some (fI 1), some (fI fb), some (fI 1), some (fI 0)]) (st' := [.ref 66]) (h' := h) (cl' := 0) (sl' := 0) rfl ?_
        refine fw_gf rfl rfl h66 rfl ?_
        refine ik_Wk 1 (pc' := 108) (loc' := [some (.ref 66), some (fI 1), some (fI fb), some (fI 1), some (fI 0)]) (st' := [fI 1, .ref 71]) (h' := h) (cl' := 0) (sl' := 0) rfl ?_
        refine fw_ial (z := 1) rfl h71 (by decide) (Nat.le_of_ble_eq_true rfl) (by decide) ?_
        refine ik_Wk 0 (pc' := 109) (loc' := [some (.ref 66), some (fI 1), some (fI fb), some (fI 1), some (fI 0)]) (st' := [fI xb]) (h' := h) (cl' := 0) (sl' := 0) rfl ?_
        refine ik_Wk 1 (pc' := 110) (loc' := [some (.ref 66), some (fI 1), some (fI fb), some (fI 1), some (fI 0)]) (st' := [.ref 66, fI xb]) (h' := h) (cl' := 0) (sl' := 0) rfl ?_
        refine ik_Wc 130 1 0 [.ref 66] [fI xb] rfl rfl rfl (by decide) rfl rfl (fw_rec hl rfl h66 rfl (by decide)) ?_
        refine ik_Wk 0 (pc' := 0) (loc' := [some (.ref 66)]) (st' := []) (h' := h) (cl' := 0) (sl' := 0) rfl ?_
        refine ik_Wk 1 (pc' := 1) (loc' := [some (.ref 66)]) (st' := [.ref 66]) (h' := h) (cl' := 0) (sl' := 0) rfl ?_
        refine fw_gf rfl rfl h66 rfl ?_
        refine ik_Wk 1 (pc' := 5) (loc' := [some (.ref 66)]) (st' := [fI 1, fI pl]) (h' := h) (cl' := 0) (sl' := 0) rfl ?_
        refine fw_sub rfl ?_
        refine ik_Wret rfl rfl ⟨_, _, rfl, rfl, ?_⟩
        refine ik_Wk 0 (pc' := 113) (loc' := [some (.ref 66), some (fI 1), some (fI fb), some (fI 1), some (fI 0)]) (st' := [fI (pl - 1), fI xb]) (h' := h) (cl' := 0) (sl' := 0) rfl ?_
        refine fw_ic_eq rfl rfl (by omega) (by omega) (by omega) (by omega) (fun hc5 => ?_) (fun hc5 => ?_)
        · have et : mx_tm kb (mi - fb) = 1 := by unfold mx_tm; (repeat' split) <;> omega
          have ez : (mx_sd (fun x => mx_w cn go ch s x) (pl - 1) kb pb fb mi xb sd) = (xb, sd) := by
            unfold mx_sd
            rw [if_neg (by omega), if_pos (by omega)]
            rw [et]
            exact mx_go_b (by omega)
          rw [ez]
          exact ik_Wret rfl rfl ⟨_, _, rfl, rfl, rfl, rfl, ⟨(f 24), gt, gd, rfl, h66, h71, h77, n77, h78, n78, (hfr_refl [66, 71, 77, 78] h)⟩⟩
        · refine ik_Wk 1 (pc' := 117) (loc' := [some (.ref 66), some (fI 1), some (fI fb), some (fI 1), some (fI 0)]) (st' := [.ref 66]) (h' := h) (cl' := 0) (sl' := 0) rfl ?_
          refine fw_gf rfl rfl h66 rfl ?_
          refine ik_Wk 3 (pc' := 123) (loc' := [some (.ref 66), some (fI 1), some (fI fb), some (fI 1), some (fI 0)]) (st' := [.ref 66, .ref 66, fI 1, .ref 71]) (h' := h) (cl' := 0) (sl' := 0) rfl ?_
          refine fw_gf rfl rfl h66 rfl ?_
          refine ik_Wk 1 (pc' := 127) (loc' := [some (.ref 66), some (fI 1), some (fI fb), some (fI 1), some (fI 0)]) (st' := [fI 1, .ref 71, .ref 66, fI 1, .ref 71]) (h' := h) (cl' := 0) (sl' := 0) rfl ?_
          refine fw_ial (z := 1) rfl h71 (by decide) (Nat.le_of_ble_eq_true rfl) (by decide) ?_
          refine ik_Wk 0 (pc' := 128) (loc' := [some (.ref 66), some (fI 1), some (fI fb), some (fI 1), some (fI 0)]) (st' := [fI xb, .ref 66, fI 1, .ref 71]) (h' := h) (cl' := 0) (sl' := 0) rfl ?_
          refine fw_call 195 2 0 [.ref 66, fI xb] [fI 1, .ref 71] rfl rfl rfl (by decide) rfl rfl (fw_rec hl rfl h66 rfl (by decide)) (cr_gone (p := xb) (f := fun j => ([pl, 0, 0, 0, 0, 0, 0, mi, 0, 0, f 10, f 11, f 12, f 13, f 14, f 15, f 16, f 17, 0, 0, 0, 0, 0, 0, f 24, 0, 0, 0, 0, 0, 0, 0, f 32, f 33, 0, 0, f 36, 0, 0, 0, 0, 0, 0] : List Int).getD j 0) (s := s) (cn := cn) (go := go) (ch := ch) (gt := gt) (gd := gd) (sd := sd) (by omega) (by omega) (by omega) (q5 _ (by omega) (by omega)) (q4 _ (by omega) (by omega)).2 (q4 _ (by omega) (by omega)).1 (by omega) (q6 _ (by omega) (by omega)) h66 h67 n67 h68 n68 h69 n69 h77 n77 h78 n78 hl) ?_
          rintro _ h_36 ⟨gt'_36, gd'_36, rfl, e_36_66, e_36_77, m_36_77, e_36_78, m_36_78, F_36⟩
          have k_36 := F_36.1.trans hl
          have fr_36 := hfr_c (hfr_refl [66, 71, 77, 78] h) F_36 (by decide)
          have g_36_67 := (F_36.2 67 (by decide +kernel)).trans h67
          have g_36_68 := (F_36.2 68 (by decide +kernel)).trans h68
          have g_36_69 := (F_36.2 69 (by decide +kernel)).trans h69
          have g_36_70 := (F_36.2 70 (by decide +kernel)).trans h70
          have g_36_71 := (F_36.2 71 (by decide +kernel)).trans h71
          have g_36_66 : cE h_36 66 (.inr (10, [fI pl, .ref 67, .ref 68, .ref 69, fI ((s : Nat) : Int), .ref 70, .ref 71, fI mi, fI (mx_d sd), .ref 72, fI (f 10), fI (f 11), fI (f 12), fJ (f 13), fI (f 14), fI (f 15), fI (f 16), fI (f 17), .ref 73, .ref 74, .ref 75, .ref 76, .ref 77, .ref 78, fI ((mx_w cn go ch s xb).length : Int), .ref 79, .ref 80, .ref 81, .ref 82, .ref 83, .ref 84, .ref 85, fJ (f 32), fJ (f 33), .ref 86, .ref 87, fI (f 36), .ref 88, .ref 89, .ref 90, .ref 91, .ref 92, .ref 93])) := e_36_66
          have g_36_77 : cE h_36 77 (.inl (.int, fA gt'_36)) := e_36_77
          have g_36_78 : cE h_36 78 (.inl (.int, fA gd'_36)) := e_36_78
          refine ik_Wk 0 (pc' := 131) (loc' := [some (.ref 66), some (fI 1), some (fI fb), some (fI 1), some (fI 0)]) (st' := [fI (mx_pk (mx_w cn go ch s xb) (mx_v sd) xb), fI 1, .ref 71]) (h' := h_36) (cl' := 0) (sl' := 0) rfl ?_
          have hp36 := mx_pk_in (f := xb) (q6 xb (by omega) (by omega)) (mx_v_b sd).1 (mx_v_b sd).2
          have hz36 := mx_d_b sd
          refine fx_ias (z := 1) rfl g_36_71 (by decide) (Nat.le_of_ble_eq_true rfl) (by decide) ?_
          intro h_37 e_37 f_37 l_37
          have k_37 := l_37.trans k_36
          have fr_37 := hfr_w fr_36 f_37 l_37 (by decide)
          have g_37_66 := (f_37 66 (by decide)).trans g_36_66
          have g_37_67 := (f_37 67 (by decide)).trans g_36_67
          have g_37_68 := (f_37 68 (by decide)).trans g_36_68
          have g_37_69 := (f_37 69 (by decide)).trans g_36_69
          have g_37_70 := (f_37 70 (by decide)).trans g_36_70
          have g_37_77 := (f_37 77 (by decide)).trans g_36_77
          have g_37_78 := (f_37 78 (by decide)).trans g_36_78
          have g_37_71 : cE h_37 71 (.inl (.int, fA [xa, mx_pk (mx_w cn go ch s xb) (mx_v sd) xb])) := e_37
          refine fw_inc (a := 0) (loc' := [some (.ref 66), some (fI 1), some (fI fb), some (fI 1), some (fI 1)]) rfl rfl (Nat.le_of_ble_eq_true rfl) rfl ?_
          refine ik_Wk 3 (pc' := 100) (loc' := [some (.ref 66), some (fI 1), some (fI fb), some (fI 1), some (fI 1)]) (st' := [fI 1, fI 1]) (h' := h_37) (cl' := 0) (sl' := 0) rfl ?_
          refine fw_ic_ge rfl rfl (by omega) (by omega) (by omega) (by omega) (fun hc6 => ?_) (fun hc6 => absurd hc6 (by omega))
          have et : mx_tm kb (mi - fb) = 1 := by unfold mx_tm; (repeat' split) <;> omega
          have ez : (mx_sd (fun x => mx_w cn go ch s x) (pl - 1) kb pb fb mi xb sd) = (mx_pk (mx_w cn go ch s xb) (mx_v sd) xb, mx_d sd) := by
            unfold mx_sd
            rw [if_neg (by omega), if_pos (by omega)]
            rw [et]
            rw [mx_go_n (by omega)]
            rfl
          rw [ez]
          exact ik_Wret rfl rfl ⟨_, _, rfl, rfl, rfl, rfl, ⟨((mx_w cn go ch s xb).length : Int), gt'_36, gd'_36, rfl, g_37_66, g_37_71, g_37_77, m_36_77, g_37_78, m_36_78, fr_37⟩⟩
      · refine ik_Wk 1 (pc' := 62) (loc' := [some (.ref 66), some (fI 1), some (fI fb), none, none]) (st' := [.ref 66]) (h' := h) (cl' := 0) (sl' := 0) rfl ?_
        refine fw_gf rfl rfl h66 rfl ?_
        refine ik_Wk 2 (pc' := 67) (loc' := [some (.ref 66), some (fI 1), some (fI fb), none, none]) (st' := [fI 1, fI 3, .ref 70]) (h' := h) (cl' := 0) (sl' := 0) rfl ?_
        refine fw_mul rfl ?_
        refine fw_ial (z := 3) rfl h70 (by decide) (Nat.le_of_ble_eq_true rfl) (by decide) ?_
        refine ik_Wk 0 (pc' := 69) (loc' := [some (.ref 66), some (fI 1), some (fI fb), none, none]) (st' := [fI kb]) (h' := h) (cl' := 0) (sl' := 0) rfl ?_
        refine ik_Wk 1 (pc' := 70) (loc' := [some (.ref 66), some (fI 1), some (fI fb), none, none]) (st' := [fI 1, fI kb]) (h' := h) (cl' := 0) (sl' := 0) rfl ?_
        refine fw_ic_ne rfl rfl (by omega) (by omega) (by omega) (by omega) (fun hc7 => ?_) (fun hc7 => ?_)
        · refine ik_Wk 7 (pc' := 100) (loc' := [some (.ref 66), some (fI 1), some (fI fb), some (fI 2), some (fI 0)]) (st' := [fI 2, fI 0]) (h' := h) (cl' := 0) (sl' := 0) rfl ?_
          refine fw_ic_ge rfl rfl (by omega) (by omega) (by omega) (by omega) (fun hc8 => absurd hc8 (by omega)) (fun hc8 => ?_)
          refine ik_Wk 1 (pc' := 104) (loc' := [some (.ref 66), some (fI 1), some (fI fb), some (fI 2), some (fI 0)]) (st' := [.ref 66]) (h' := h) (cl' := 0) (sl' := 0) rfl ?_
          refine fw_gf rfl rfl h66 rfl ?_
          refine ik_Wk 1 (pc' := 108) (loc' := [some (.ref 66), some (fI 1), some (fI fb), some (fI 2), some (fI 0)]) (st' := [fI 1, .ref 71]) (h' := h) (cl' := 0) (sl' := 0) rfl ?_
          refine fw_ial (z := 1) rfl h71 (by decide) (Nat.le_of_ble_eq_true rfl) (by decide) ?_
          refine ik_Wk 0 (pc' := 109) (loc' := [some (.ref 66), some (fI 1), some (fI fb), some (fI 2), some (fI 0)]) (st' := [fI xb]) (h' := h) (cl' := 0) (sl' := 0) rfl ?_
          refine ik_Wk 1 (pc' := 110) (loc' := [some (.ref 66), some (fI 1), some (fI fb), some (fI 2), some (fI 0)]) (st' := [.ref 66, fI xb]) (h' := h) (cl' := 0) (sl' := 0) rfl ?_
          refine ik_Wc 130 1 0 [.ref 66] [fI xb] rfl rfl rfl (by decide) rfl rfl (fw_rec hl rfl h66 rfl (by decide)) ?_
          refine ik_Wk 0 (pc' := 0) (loc' := [some (.ref 66)]) (st' := []) (h' := h) (cl' := 0) (sl' := 0) rfl ?_
          refine ik_Wk 1 (pc' := 1) (loc' := [some (.ref 66)]) (st' := [.ref 66]) (h' := h) (cl' := 0) (sl' := 0) rfl ?_
          refine fw_gf rfl rfl h66 rfl ?_
          refine ik_Wk 1 (pc' := 5) (loc' := [some (.ref 66)]) (st' := [fI 1, fI pl]) (h' := h) (cl' := 0) (sl' := 0) rfl ?_
          refine fw_sub rfl ?_
          refine ik_Wret rfl rfl ⟨_, _, rfl, rfl, ?_⟩
          refine ik_Wk 0 (pc' := 113) (loc' := [some (.ref 66), some (fI 1), some (fI fb), some (fI 2), some (fI 0)]) (st' := [fI (pl - 1), fI xb]) (h' := h) (cl' := 0) (sl' := 0) rfl ?_
          refine fw_ic_eq rfl rfl (by omega) (by omega) (by omega) (by omega) (fun hc9 => ?_) (fun hc9 => ?_)
          · have et : mx_tm kb (mi - fb) = 2 := by unfold mx_tm; (repeat' split) <;> omega
            have ez : (mx_sd (fun x => mx_w cn go ch s x) (pl - 1) kb pb fb mi xb sd) = (xb, sd) := by
              unfold mx_sd
              rw [if_neg (by omega), if_pos (by omega)]
              rw [et]
              exact mx_go_b (by omega)
            rw [ez]
            exact ik_Wret rfl rfl ⟨_, _, rfl, rfl, rfl, rfl, ⟨(f 24), gt, gd, rfl, h66, h71, h77, n77, h78, n78, (hfr_refl [66, 71, 77, 78] h)⟩⟩
          · refine ik_Wk 1 (pc' := 117) (loc' := [some (.ref 66), some (fI 1), some (fI fb), some (fI 2), some (fI 0)]) (st' := [.ref 66]) (h' := h) (cl' := 0) (sl' := 0) rfl ?_
            refine fw_gf rfl rfl h66 rfl ?_
            refine ik_Wk 3 (pc' := 123) (loc' := [some (.ref 66), some (fI 1), some (fI fb), some (fI 2), some (fI 0)]) (st' := [.ref 66, .ref 66, fI 1, .ref 71]) (h' := h) (cl' := 0) (sl' := 0) rfl ?_
            refine fw_gf rfl rfl h66 rfl ?_
            refine ik_Wk 1 (pc' := 127) (loc' := [some (.ref 66), some (fI 1), some (fI fb), some (fI 2), some (fI 0)]) (st' := [fI 1, .ref 71, .ref 66, fI 1, .ref 71]) (h' := h) (cl' := 0) (sl' := 0) rfl ?_
            refine fw_ial (z := 1) rfl h71 (by decide) (Nat.le_of_ble_eq_true rfl) (by decide) ?_
            refine ik_Wk 0 (pc' := 128) (loc' := [some (.ref 66), some (fI 1), some (fI fb), some (fI 2), some (fI 0)]) (st' := [fI xb, .ref 66, fI 1, .ref 71]) (h' := h) (cl' := 0) (sl' := 0) rfl ?_
            refine fw_call 195 2 0 [.ref 66, fI xb] [fI 1, .ref 71] rfl rfl rfl (by decide) rfl rfl (fw_rec hl rfl h66 rfl (by decide)) (cr_gone (p := xb) (f := fun j => ([pl, 0, 0, 0, 0, 0, 0, mi, 0, 0, f 10, f 11, f 12, f 13, f 14, f 15, f 16, f 17, 0, 0, 0, 0, 0, 0, f 24, 0, 0, 0, 0, 0, 0, 0, f 32, f 33, 0, 0, f 36, 0, 0, 0, 0, 0, 0] : List Int).getD j 0) (s := s) (cn := cn) (go := go) (ch := ch) (gt := gt) (gd := gd) (sd := sd) (by omega) (by omega) (by omega) (q5 _ (by omega) (by omega)) (q4 _ (by omega) (by omega)).2 (q4 _ (by omega) (by omega)).1 (by omega) (q6 _ (by omega) (by omega)) h66 h67 n67 h68 n68 h69 n69 h77 n77 h78 n78 hl) ?_
            rintro _ h_38 ⟨gt'_38, gd'_38, rfl, e_38_66, e_38_77, m_38_77, e_38_78, m_38_78, F_38⟩
            have k_38 := F_38.1.trans hl
            have fr_38 := hfr_c (hfr_refl [66, 71, 77, 78] h) F_38 (by decide)
            have g_38_67 := (F_38.2 67 (by decide +kernel)).trans h67
            have g_38_68 := (F_38.2 68 (by decide +kernel)).trans h68
            have g_38_69 := (F_38.2 69 (by decide +kernel)).trans h69
            have g_38_70 := (F_38.2 70 (by decide +kernel)).trans h70
            have g_38_71 := (F_38.2 71 (by decide +kernel)).trans h71
            have g_38_66 : cE h_38 66 (.inr (10, [fI pl, .ref 67, .ref 68, .ref 69, fI ((s : Nat) : Int), .ref 70, .ref 71, fI mi, fI (mx_d sd), .ref 72, fI (f 10), fI (f 11), fI (f 12), fJ (f 13), fI (f 14), fI (f 15), fI (f 16), fI (f 17), .ref 73, .ref 74, .ref 75, .ref 76, .ref 77, .ref 78, fI ((mx_w cn go ch s xb).length : Int), .ref 79, .ref 80, .ref 81, .ref 82, .ref 83, .ref 84, .ref 85, fJ (f 32), fJ (f 33), .ref 86, .ref 87, fI (f 36), .ref 88, .ref 89, .ref 90, .ref 91, .ref 92, .ref 93])) := e_38_66
            have g_38_77 : cE h_38 77 (.inl (.int, fA gt'_38)) := e_38_77
            have g_38_78 : cE h_38 78 (.inl (.int, fA gd'_38)) := e_38_78
            refine ik_Wk 0 (pc' := 131) (loc' := [some (.ref 66), some (fI 1), some (fI fb), some (fI 2), some (fI 0)]) (st' := [fI (mx_pk (mx_w cn go ch s xb) (mx_v sd) xb), fI 1, .ref 71]) (h' := h_38) (cl' := 0) (sl' := 0) rfl ?_
            have hp38 := mx_pk_in (f := xb) (q6 xb (by omega) (by omega)) (mx_v_b sd).1 (mx_v_b sd).2
            have hz38 := mx_d_b sd
            refine fx_ias (z := 1) rfl g_38_71 (by decide) (Nat.le_of_ble_eq_true rfl) (by decide) ?_
            intro h_39 e_39 f_39 l_39
            have k_39 := l_39.trans k_38
            have fr_39 := hfr_w fr_38 f_39 l_39 (by decide)
            have g_39_66 := (f_39 66 (by decide)).trans g_38_66
            have g_39_67 := (f_39 67 (by decide)).trans g_38_67
            have g_39_68 := (f_39 68 (by decide)).trans g_38_68
            have g_39_69 := (f_39 69 (by decide)).trans g_38_69
            have g_39_70 := (f_39 70 (by decide)).trans g_38_70
            have g_39_77 := (f_39 77 (by decide)).trans g_38_77
            have g_39_78 := (f_39 78 (by decide)).trans g_38_78
            have g_39_71 : cE h_39 71 (.inl (.int, fA [xa, mx_pk (mx_w cn go ch s xb) (mx_v sd) xb])) := e_39
            refine fw_inc (a := 0) (loc' := [some (.ref 66), some (fI 1), some (fI fb), some (fI 2), some (fI 1)]) rfl rfl (Nat.le_of_ble_eq_true rfl) rfl ?_
            refine ik_Wk 3 (pc' := 100) (loc' := [some (.ref 66), some (fI 1), some (fI fb), some (fI 2), some (fI 1)]) (st' := [fI 2, fI 1]) (h' := h_39) (cl' := 0) (sl' := 0) rfl ?_
            refine fw_ic_ge rfl rfl (by omega) (by omega) (by omega) (by omega) (fun hc10 => absurd hc10 (by omega)) (fun hc10 => ?_)
            refine ik_Wk 1 (pc' := 104) (loc' := [some (.ref 66), some (fI 1), some (fI fb), some (fI 2), some (fI 1)]) (st' := [.ref 66]) (h' := h_39) (cl' := 0) (sl' := 0) rfl ?_
            refine fw_gf rfl rfl g_39_66 rfl ?_
            refine ik_Wk 1 (pc' := 108) (loc' := [some (.ref 66), some (fI 1), some (fI fb), some (fI 2), some (fI 1)]) (st' := [fI 1, .ref 71]) (h' := h_39) (cl' := 0) (sl' := 0) rfl ?_
            refine fw_ial (z := 1) rfl g_39_71 (by decide) (Nat.le_of_ble_eq_true rfl) (by decide) ?_
            refine ik_Wk 0 (pc' := 109) (loc' := [some (.ref 66), some (fI 1), some (fI fb), some (fI 2), some (fI 1)]) (st' := [fI (mx_pk (mx_w cn go ch s xb) (mx_v sd) xb)]) (h' := h_39) (cl' := 0) (sl' := 0) rfl ?_
            refine ik_Wk 1 (pc' := 110) (loc' := [some (.ref 66), some (fI 1), some (fI fb), some (fI 2), some (fI 1)]) (st' := [.ref 66, fI (mx_pk (mx_w cn go ch s xb) (mx_v sd) xb)]) (h' := h_39) (cl' := 0) (sl' := 0) rfl ?_
            refine ik_Wc 130 1 0 [.ref 66] [fI (mx_pk (mx_w cn go ch s xb) (mx_v sd) xb)] rfl rfl rfl (by decide) rfl rfl (fw_rec k_39 rfl g_39_66 rfl (by decide)) ?_
            refine ik_Wk 0 (pc' := 0) (loc' := [some (.ref 66)]) (st' := []) (h' := h_39) (cl' := 0) (sl' := 0) rfl ?_
            refine ik_Wk 1 (pc' := 1) (loc' := [some (.ref 66)]) (st' := [.ref 66]) (h' := h_39) (cl' := 0) (sl' := 0) rfl ?_
            refine fw_gf rfl rfl g_39_66 rfl ?_
            refine ik_Wk 1 (pc' := 5) (loc' := [some (.ref 66)]) (st' := [fI 1, fI pl]) (h' := h_39) (cl' := 0) (sl' := 0) rfl ?_
            refine fw_sub rfl ?_
            refine ik_Wret rfl rfl ⟨_, _, rfl, rfl, ?_⟩
            refine ik_Wk 0 (pc' := 113) (loc' := [some (.ref 66), some (fI 1), some (fI fb), some (fI 2), some (fI 1)]) (st' := [fI (pl - 1), fI (mx_pk (mx_w cn go ch s xb) (mx_v sd) xb)]) (h' := h_39) (cl' := 0) (sl' := 0) rfl ?_
            refine fw_ic_eq rfl rfl (by omega) (by omega) (by omega) (by omega) (fun hc11 => ?_) (fun hc11 => ?_)
            · have et : mx_tm kb (mi - fb) = 2 := by unfold mx_tm; (repeat' split) <;> omega
              have ez : (mx_sd (fun x => mx_w cn go ch s x) (pl - 1) kb pb fb mi xb sd) = (mx_pk (mx_w cn go ch s xb) (mx_v sd) xb, mx_d sd) := by
                unfold mx_sd
                rw [if_neg (by omega), if_pos (by omega)]
                rw [et]
                rw [mx_go_n (by omega)]
                exact mx_go_b (by omega)
              rw [ez]
              exact ik_Wret rfl rfl ⟨_, _, rfl, rfl, rfl, rfl, ⟨((mx_w cn go ch s xb).length : Int), gt'_38, gd'_38, rfl, g_39_66, g_39_71, g_39_77, m_38_77, g_39_78, m_38_78, fr_39⟩⟩
            · refine ik_Wk 1 (pc' := 117) (loc' := [some (.ref 66), some (fI 1), some (fI fb), some (fI 2), some (fI 1)]) (st' := [.ref 66]) (h' := h_39) (cl' := 0) (sl' := 0) rfl ?_
              refine fw_gf rfl rfl g_39_66 rfl ?_
              refine ik_Wk 3 (pc' := 123) (loc' := [some (.ref 66), some (fI 1), some (fI fb), some (fI 2), some (fI 1)]) (st' := [.ref 66, .ref 66, fI 1, .ref 71]) (h' := h_39) (cl' := 0) (sl' := 0) rfl ?_
              refine fw_gf rfl rfl g_39_66 rfl ?_
              refine ik_Wk 1 (pc' := 127) (loc' := [some (.ref 66), some (fI 1), some (fI fb), some (fI 2), some (fI 1)]) (st' := [fI 1, .ref 71, .ref 66, fI 1, .ref 71]) (h' := h_39) (cl' := 0) (sl' := 0) rfl ?_
              refine fw_ial (z := 1) rfl g_39_71 (by decide) (Nat.le_of_ble_eq_true rfl) (by decide) ?_
              refine ik_Wk 0 (pc' := 128) (loc' := [some (.ref 66), some (fI 1), some (fI fb), some (fI 2), some (fI 1)]) (st' := [fI (mx_pk (mx_w cn go ch s xb) (mx_v sd) xb), .ref 66, fI 1, .ref 71]) (h' := h_39) (cl' := 0) (sl' := 0) rfl ?_
              refine fw_call 195 2 0 [.ref 66, fI (mx_pk (mx_w cn go ch s xb) (mx_v sd) xb)] [fI 1, .ref 71] rfl rfl rfl (by decide) rfl rfl (fw_rec k_39 rfl g_39_66 rfl (by decide)) (cr_gone (p := mx_pk (mx_w cn go ch s xb) (mx_v sd) xb) (f := fun j => ([pl, 0, 0, 0, 0, 0, 0, mi, 0, 0, (f 10), (f 11), (f 12), (f 13), (f 14), (f 15), (f 16), (f 17), 0, 0, 0, 0, 0, 0, ((mx_w cn go ch s xb).length : Int), 0, 0, 0, 0, 0, 0, 0, (f 32), (f 33), 0, 0, (f 36), 0, 0, 0, 0, 0, 0] : List Int).getD j 0) (s := s) (cn := cn) (go := go) (ch := ch) (gt := gt'_38) (gd := gd'_38) (sd := mx_d sd) (by omega) (by omega) (by omega) (q5 _ (by omega) (by omega)) (q4 _ (by omega) (by omega)).2 (q4 _ (by omega) (by omega)).1 (by omega) (q6 _ (by omega) (by omega)) g_39_66 g_39_67 n67 g_39_68 n68 g_39_69 n69 g_39_77 m_38_77 g_39_78 m_38_78 k_39) ?_
              rintro _ h_40 ⟨gt'_40, gd'_40, rfl, e_40_66, e_40_77, m_40_77, e_40_78, m_40_78, F_40⟩
              have k_40 := F_40.1.trans k_39
              have fr_40 := hfr_c fr_39 F_40 (by decide)
              have g_40_67 := (F_40.2 67 (by decide +kernel)).trans g_39_67
              have g_40_68 := (F_40.2 68 (by decide +kernel)).trans g_39_68
              have g_40_69 := (F_40.2 69 (by decide +kernel)).trans g_39_69
              have g_40_70 := (F_40.2 70 (by decide +kernel)).trans g_39_70
              have g_40_71 := (F_40.2 71 (by decide +kernel)).trans g_39_71
              have g_40_66 : cE h_40 66 (.inr (10, [fI pl, .ref 67, .ref 68, .ref 69, fI ((s : Nat) : Int), .ref 70, .ref 71, fI mi, fI (mx_d (mx_d sd)), .ref 72, fI (f 10), fI (f 11), fI (f 12), fJ (f 13), fI (f 14), fI (f 15), fI (f 16), fI (f 17), .ref 73, .ref 74, .ref 75, .ref 76, .ref 77, .ref 78, fI ((mx_w cn go ch s (mx_pk (mx_w cn go ch s xb) (mx_v sd) xb)).length : Int), .ref 79, .ref 80, .ref 81, .ref 82, .ref 83, .ref 84, .ref 85, fJ (f 32), fJ (f 33), .ref 86, .ref 87, fI (f 36), .ref 88, .ref 89, .ref 90, .ref 91, .ref 92, .ref 93])) := e_40_66
              have g_40_77 : cE h_40 77 (.inl (.int, fA gt'_40)) := e_40_77
              have g_40_78 : cE h_40 78 (.inl (.int, fA gd'_40)) := e_40_78
              refine ik_Wk 0 (pc' := 131) (loc' := [some (.ref 66), some (fI 1), some (fI fb), some (fI 2), some (fI 1)]) (st' := [fI (mx_pk (mx_w cn go ch s (mx_pk (mx_w cn go ch s xb) (mx_v sd) xb)) (mx_v (mx_d sd)) (mx_pk (mx_w cn go ch s xb) (mx_v sd) xb)), fI 1, .ref 71]) (h' := h_40) (cl' := 0) (sl' := 0) rfl ?_
              have hp40 := mx_pk_in (f := mx_pk (mx_w cn go ch s xb) (mx_v sd) xb) (q6 (mx_pk (mx_w cn go ch s xb) (mx_v sd) xb) (by omega) (by omega)) (mx_v_b (mx_d sd)).1 (mx_v_b (mx_d sd)).2
              have hz40 := mx_d_b (mx_d sd)
              refine fx_ias (z := 1) rfl g_40_71 (by decide) (Nat.le_of_ble_eq_true rfl) (by decide) ?_
              intro h_41 e_41 f_41 l_41
              have k_41 := l_41.trans k_40
              have fr_41 := hfr_w fr_40 f_41 l_41 (by decide)
              have g_41_66 := (f_41 66 (by decide)).trans g_40_66
              have g_41_67 := (f_41 67 (by decide)).trans g_40_67
              have g_41_68 := (f_41 68 (by decide)).trans g_40_68
              have g_41_69 := (f_41 69 (by decide)).trans g_40_69
              have g_41_70 := (f_41 70 (by decide)).trans g_40_70
              have g_41_77 := (f_41 77 (by decide)).trans g_40_77
              have g_41_78 := (f_41 78 (by decide)).trans g_40_78
              have g_41_71 : cE h_41 71 (.inl (.int, fA [xa, mx_pk (mx_w cn go ch s (mx_pk (mx_w cn go ch s xb) (mx_v sd) xb)) (mx_v (mx_d sd)) (mx_pk (mx_w cn go ch s xb) (mx_v sd) xb)])) := e_41
              refine fw_inc (a := 1) (loc' := [some (.ref 66), some (fI 1), some (fI fb), some (fI 2), some (fI 2)]) rfl rfl (Nat.le_of_ble_eq_true rfl) rfl ?_
              refine ik_Wk 3 (pc' := 100) (loc' := [some (.ref 66), some (fI 1), some (fI fb), some (fI 2), some (fI 2)]) (st' := [fI 2, fI 2]) (h' := h_41) (cl' := 0) (sl' := 0) rfl ?_
              refine fw_ic_ge rfl rfl (by omega) (by omega) (by omega) (by omega) (fun hc12 => ?_) (fun hc12 => absurd hc12 (by omega))
              have et : mx_tm kb (mi - fb) = 2 := by unfold mx_tm; (repeat' split) <;> omega
              have ez : (mx_sd (fun x => mx_w cn go ch s x) (pl - 1) kb pb fb mi xb sd) = (mx_pk (mx_w cn go ch s (mx_pk (mx_w cn go ch s xb) (mx_v sd) xb)) (mx_v (mx_d sd)) (mx_pk (mx_w cn go ch s xb) (mx_v sd) xb), mx_d (mx_d sd)) := by
                unfold mx_sd
                rw [if_neg (by omega), if_pos (by omega)]
                rw [et]
                rw [mx_go_n (by omega)]
                rw [mx_go_n (by omega)]
                rfl
              rw [ez]
              exact ik_Wret rfl rfl ⟨_, _, rfl, rfl, rfl, rfl, ⟨((mx_w cn go ch s (mx_pk (mx_w cn go ch s xb) (mx_v sd) xb)).length : Int), gt'_40, gd'_40, rfl, g_41_66, g_41_71, g_41_77, m_40_77, g_41_78, m_40_78, fr_41⟩⟩
        · refine ik_Wk 1 (pc' := 78) (loc' := [some (.ref 66), some (fI 1), some (fI fb), none, none]) (st' := [.ref 66]) (h' := h) (cl' := 0) (sl' := 0) rfl ?_
          refine fw_gf rfl rfl h66 rfl ?_
          refine ik_Wk 1 (pc' := 82) (loc' := [some (.ref 66), some (fI 1), some (fI fb), none, none]) (st' := [fI fb, fI mi]) (h' := h) (cl' := 0) (sl' := 0) rfl ?_
          refine fw_sub rfl ?_
          refine ik_Wk 1 (pc' := 84) (loc' := [some (.ref 66), some (fI 1), some (fI fb), none, none]) (st' := [fI 2, fI (mi - fb)]) (h' := h) (cl' := 0) (sl' := 0) rfl ?_
          refine fx_irem rfl (by omega) (by omega) (by omega) (by omega) ?_
          refine fw_if_ne rfl rfl (by omega) (by omega) (fun hc13 => ?_) (fun hc13 => ?_)
          · refine ik_Wk 7 (pc' := 100) (loc' := [some (.ref 66), some (fI 1), some (fI fb), some (fI 1), some (fI 0)]) (st' := [fI 1, fI 0]) (h' := h) (cl' := 0) (sl' := 0) rfl ?_
            refine fw_ic_ge rfl rfl (by omega) (by omega) (by omega) (by omega) (fun hc14 => absurd hc14 (by omega)) (fun hc14 => ?_)
            refine ik_Wk 1 (pc' := 104) (loc' := [some (.ref 66), some (fI 1), some (fI fb), some (fI 1), some (fI 0)]) (st' := [.ref 66]) (h' := h) (cl' := 0) (sl' := 0) rfl ?_
            refine fw_gf rfl rfl h66 rfl ?_
            refine ik_Wk 1 (pc' := 108) (loc' := [some (.ref 66), some (fI 1), some (fI fb), some (fI 1), some (fI 0)]) (st' := [fI 1, .ref 71]) (h' := h) (cl' := 0) (sl' := 0) rfl ?_
            refine fw_ial (z := 1) rfl h71 (by decide) (Nat.le_of_ble_eq_true rfl) (by decide) ?_
            refine ik_Wk 0 (pc' := 109) (loc' := [some (.ref 66), some (fI 1), some (fI fb), some (fI 1), some (fI 0)]) (st' := [fI xb]) (h' := h) (cl' := 0) (sl' := 0) rfl ?_
            refine ik_Wk 1 (pc' := 110) (loc' := [some (.ref 66), some (fI 1), some (fI fb), some (fI 1), some (fI 0)]) (st' := [.ref 66, fI xb]) (h' := h) (cl' := 0) (sl' := 0) rfl ?_
            refine ik_Wc 130 1 0 [.ref 66] [fI xb] rfl rfl rfl (by decide) rfl rfl (fw_rec hl rfl h66 rfl (by decide)) ?_
            refine ik_Wk 0 (pc' := 0) (loc' := [some (.ref 66)]) (st' := []) (h' := h) (cl' := 0) (sl' := 0) rfl ?_
            refine ik_Wk 1 (pc' := 1) (loc' := [some (.ref 66)]) (st' := [.ref 66]) (h' := h) (cl' := 0) (sl' := 0) rfl ?_
            refine fw_gf rfl rfl h66 rfl ?_
            refine ik_Wk 1 (pc' := 5) (loc' := [some (.ref 66)]) (st' := [fI 1, fI pl]) (h' := h) (cl' := 0) (sl' := 0) rfl ?_
            refine fw_sub rfl ?_
            refine ik_Wret rfl rfl ⟨_, _, rfl, rfl, ?_⟩
            refine ik_Wk 0 (pc' := 113) (loc' := [some (.ref 66), some (fI 1), some (fI fb), some (fI 1), some (fI 0)]) (st' := [fI (pl - 1), fI xb]) (h' := h) (cl' := 0) (sl' := 0) rfl ?_
            refine fw_ic_eq rfl rfl (by omega) (by omega) (by omega) (by omega) (fun hc15 => ?_) (fun hc15 => ?_)
            · have et : mx_tm kb (mi - fb) = 1 := by unfold mx_tm; (repeat' split) <;> omega
              have ez : (mx_sd (fun x => mx_w cn go ch s x) (pl - 1) kb pb fb mi xb sd) = (xb, sd) := by
                unfold mx_sd
                rw [if_neg (by omega), if_pos (by omega)]
                rw [et]
                exact mx_go_b (by omega)
              rw [ez]
              exact ik_Wret rfl rfl ⟨_, _, rfl, rfl, rfl, rfl, ⟨(f 24), gt, gd, rfl, h66, h71, h77, n77, h78, n78, (hfr_refl [66, 71, 77, 78] h)⟩⟩
            · refine ik_Wk 1 (pc' := 117) (loc' := [some (.ref 66), some (fI 1), some (fI fb), some (fI 1), some (fI 0)]) (st' := [.ref 66]) (h' := h) (cl' := 0) (sl' := 0) rfl ?_
              refine fw_gf rfl rfl h66 rfl ?_
              refine ik_Wk 3 (pc' := 123) (loc' := [some (.ref 66), some (fI 1), some (fI fb), some (fI 1), some (fI 0)]) (st' := [.ref 66, .ref 66, fI 1, .ref 71]) (h' := h) (cl' := 0) (sl' := 0) rfl ?_
              refine fw_gf rfl rfl h66 rfl ?_
              refine ik_Wk 1 (pc' := 127) (loc' := [some (.ref 66), some (fI 1), some (fI fb), some (fI 1), some (fI 0)]) (st' := [fI 1, .ref 71, .ref 66, fI 1, .ref 71]) (h' := h) (cl' := 0) (sl' := 0) rfl ?_
              refine fw_ial (z := 1) rfl h71 (by decide) (Nat.le_of_ble_eq_true rfl) (by decide) ?_
              refine ik_Wk 0 (pc' := 128) (loc' := [some (.ref 66), some (fI 1), some (fI fb), some (fI 1), some (fI 0)]) (st' := [fI xb, .ref 66, fI 1, .ref 71]) (h' := h) (cl' := 0) (sl' := 0) rfl ?_
              refine fw_call 195 2 0 [.ref 66, fI xb] [fI 1, .ref 71] rfl rfl rfl (by decide) rfl rfl (fw_rec hl rfl h66 rfl (by decide)) (cr_gone (p := xb) (f := fun j => ([pl, 0, 0, 0, 0, 0, 0, mi, 0, 0, f 10, f 11, f 12, f 13, f 14, f 15, f 16, f 17, 0, 0, 0, 0, 0, 0, f 24, 0, 0, 0, 0, 0, 0, 0, f 32, f 33, 0, 0, f 36, 0, 0, 0, 0, 0, 0] : List Int).getD j 0) (s := s) (cn := cn) (go := go) (ch := ch) (gt := gt) (gd := gd) (sd := sd) (by omega) (by omega) (by omega) (q5 _ (by omega) (by omega)) (q4 _ (by omega) (by omega)).2 (q4 _ (by omega) (by omega)).1 (by omega) (q6 _ (by omega) (by omega)) h66 h67 n67 h68 n68 h69 n69 h77 n77 h78 n78 hl) ?_
              rintro _ h_42 ⟨gt'_42, gd'_42, rfl, e_42_66, e_42_77, m_42_77, e_42_78, m_42_78, F_42⟩
              have k_42 := F_42.1.trans hl
              have fr_42 := hfr_c (hfr_refl [66, 71, 77, 78] h) F_42 (by decide)
              have g_42_67 := (F_42.2 67 (by decide +kernel)).trans h67
              have g_42_68 := (F_42.2 68 (by decide +kernel)).trans h68
              have g_42_69 := (F_42.2 69 (by decide +kernel)).trans h69
              have g_42_70 := (F_42.2 70 (by decide +kernel)).trans h70
              have g_42_71 := (F_42.2 71 (by decide +kernel)).trans h71
              have g_42_66 : cE h_42 66 (.inr (10, [fI pl, .ref 67, .ref 68, .ref 69, fI ((s : Nat) : Int), .ref 70, .ref 71, fI mi, fI (mx_d sd), .ref 72, fI (f 10), fI (f 11), fI (f 12), fJ (f 13), fI (f 14), fI (f 15), fI (f 16), fI (f 17), .ref 73, .ref 74, .ref 75, .ref 76, .ref 77, .ref 78, fI ((mx_w cn go ch s xb).length : Int), .ref 79, .ref 80, .ref 81, .ref 82, .ref 83, .ref 84, .ref 85, fJ (f 32), fJ (f 33), .ref 86, .ref 87, fI (f 36), .ref 88, .ref 89, .ref 90, .ref 91, .ref 92, .ref 93])) := e_42_66
              have g_42_77 : cE h_42 77 (.inl (.int, fA gt'_42)) := e_42_77
              have g_42_78 : cE h_42 78 (.inl (.int, fA gd'_42)) := e_42_78
              refine ik_Wk 0 (pc' := 131) (loc' := [some (.ref 66), some (fI 1), some (fI fb), some (fI 1), some (fI 0)]) (st' := [fI (mx_pk (mx_w cn go ch s xb) (mx_v sd) xb), fI 1, .ref 71]) (h' := h_42) (cl' := 0) (sl' := 0) rfl ?_
              have hp42 := mx_pk_in (f := xb) (q6 xb (by omega) (by omega)) (mx_v_b sd).1 (mx_v_b sd).2
              have hz42 := mx_d_b sd
              refine fx_ias (z := 1) rfl g_42_71 (by decide) (Nat.le_of_ble_eq_true rfl) (by decide) ?_
              intro h_43 e_43 f_43 l_43
              have k_43 := l_43.trans k_42
              have fr_43 := hfr_w fr_42 f_43 l_43 (by decide)
              have g_43_66 := (f_43 66 (by decide)).trans g_42_66
              have g_43_67 := (f_43 67 (by decide)).trans g_42_67
              have g_43_68 := (f_43 68 (by decide)).trans g_42_68
              have g_43_69 := (f_43 69 (by decide)).trans g_42_69
              have g_43_70 := (f_43 70 (by decide)).trans g_42_70
              have g_43_77 := (f_43 77 (by decide)).trans g_42_77
              have g_43_78 := (f_43 78 (by decide)).trans g_42_78
              have g_43_71 : cE h_43 71 (.inl (.int, fA [xa, mx_pk (mx_w cn go ch s xb) (mx_v sd) xb])) := e_43
              refine fw_inc (a := 0) (loc' := [some (.ref 66), some (fI 1), some (fI fb), some (fI 1), some (fI 1)]) rfl rfl (Nat.le_of_ble_eq_true rfl) rfl ?_
              refine ik_Wk 3 (pc' := 100) (loc' := [some (.ref 66), some (fI 1), some (fI fb), some (fI 1), some (fI 1)]) (st' := [fI 1, fI 1]) (h' := h_43) (cl' := 0) (sl' := 0) rfl ?_
              refine fw_ic_ge rfl rfl (by omega) (by omega) (by omega) (by omega) (fun hc16 => ?_) (fun hc16 => absurd hc16 (by omega))
              have et : mx_tm kb (mi - fb) = 1 := by unfold mx_tm; (repeat' split) <;> omega
              have ez : (mx_sd (fun x => mx_w cn go ch s x) (pl - 1) kb pb fb mi xb sd) = (mx_pk (mx_w cn go ch s xb) (mx_v sd) xb, mx_d sd) := by
                unfold mx_sd
                rw [if_neg (by omega), if_pos (by omega)]
                rw [et]
                rw [mx_go_n (by omega)]
                rfl
              rw [ez]
              exact ik_Wret rfl rfl ⟨_, _, rfl, rfl, rfl, rfl, ⟨((mx_w cn go ch s xb).length : Int), gt'_42, gd'_42, rfl, g_43_66, g_43_71, g_43_77, m_42_77, g_43_78, m_42_78, fr_43⟩⟩
          · refine ik_Wk 6 (pc' := 100) (loc' := [some (.ref 66), some (fI 1), some (fI fb), some (fI 0), some (fI 0)]) (st' := [fI 0, fI 0]) (h' := h) (cl' := 0) (sl' := 0) rfl ?_
            refine fw_ic_ge rfl rfl (by omega) (by omega) (by omega) (by omega) (fun hc17 => ?_) (fun hc17 => absurd hc17 (by omega))
            have et : mx_tm kb (mi - fb) = 0 := by unfold mx_tm; (repeat' split) <;> omega
            have ez : (mx_sd (fun x => mx_w cn go ch s x) (pl - 1) kb pb fb mi xb sd) = (xb, sd) := by
              unfold mx_sd
              rw [if_neg (by omega), if_pos (by omega)]
              rw [et]
              rfl
            rw [ez]
            exact ik_Wret rfl rfl ⟨_, _, rfl, rfl, rfl, rfl, ⟨(f 24), gt, gd, rfl, h66, h71, h77, n77, h78, n78, (hfr_refl [66, 71, 77, 78] h)⟩⟩

theorem cs_pass0 {h : List ik_E} {pl : Int} {mi : Int} {sd : Int} {ka : Int} {pa : Int} {fa : Int} {kb : Int} {pb : Int} {fb : Int} {xa : Int} {xb : Int} {s : Nat} {cn : List Int} {go : List Int} {ch : List Int} {lo : Int} {wg : List Int} {wc : List Int} {we : List Int} (q0 : 2 ≤ pl ∧ pl ≤ 12) (q1 : s < 4096) (q2 : 0 ≤ sd ∧ sd < 2147483648) (q3 : 0 ≤ mi ∧ mi < 2000000000) (q4 : ∀ x : Int, 0 ≤ x → x < pl - 1 → mx_wy wg wc we x (mx_w cn go ch s x)) (q5 : ∀ x : Int, 0 ≤ x → x < pl - 1 → mx_ok pl (mx_w cn go ch s x)) (q6 : 0 ≤ ka ∧ ka ≤ 2) (q7 : 0 ≤ fa ∧ fa ≤ 30) (q8 : fa < mi → 0 ≤ xa ∧ xa < pl) (h7 : cE h 7 (.inr (0, [fI pl, fI ((s : Nat) : Int), fI lo, .ref 8, .ref 9, .ref 10, .ref 11, .ref 12, .ref 13]))) (h11 : cE h 11 (.inl (.int, fA wg))) (n11 : wg.length = 60) (h12 : cE h 12 (.inl (.int, fA wc))) (n12 : wc.length = 60) (h13 : cE h 13 (.inl (.int, fA we))) (n13 : we.length = 12) (h14 : cE h 14 (.inr (1, [.ref 7, .ref 15, .ref 16, fI mi, fJ sd]))) (h15 : cE h 15 (.inl (.int, fA [ka, pa, fa, kb, pb, fb]))) (h16 : cE h 16 (.inl (.int, fA [xa, xb]))) (hl : h.length = 94) : ik_F 26 [.ref 14, fI 0] h (fun rv h' => rv = [] ∧ cE h' 14 (.inr (1, [.ref 7, .ref 15, .ref 16, fI mi, fJ ((mx_sd (fun x => mx_w cn go ch s x) (pl - 1) ka pa fa mi xa sd).2)])) ∧ cE h' 16 (.inl (.int, fA [(mx_sd (fun x => mx_w cn go ch s x) (pl - 1) ka pa fa mi xa sd).1, xb])) ∧ hfr [14, 16] h h') := by
  refine ik_Wk 1 (pc' := 1) (loc' := [some (.ref 14), some (fI 0), none, none, none]) (st' := [.ref 14]) (h' := h) (cl' := 0) (sl' := 0) rfl ?_
  refine fw_gf rfl rfl h14 rfl ?_
  refine ik_Wk 1 (pc' := 5) (loc' := [some (.ref 14), some (fI 0), none, none, none]) (st' := [.ref 14, fI mi]) (h' := h) (cl' := 0) (sl' := 0) rfl ?_
  refine fw_gf rfl rfl h14 rfl ?_
  refine ik_Wk 2 (pc' := 10) (loc' := [some (.ref 14), some (fI 0), none, none, none]) (st' := [fI 3, fI 0, .ref 15, fI mi]) (h' := h) (cl' := 0) (sl' := 0) rfl ?_
  refine fw_mul rfl ?_
  refine ik_Wk 1 (pc' := 12) (loc' := [some (.ref 14), some (fI 0), none, none, none]) (st' := [fI 2, fI 0, .ref 15, fI mi]) (h' := h) (cl' := 0) (sl' := 0) rfl ?_
  refine fw_add rfl ?_
  refine fw_ial (z := 2) rfl h15 (by decide) (Nat.le_of_ble_eq_true rfl) (by decide) ?_
  refine ik_Wk 0 (pc' := 14) (loc' := [some (.ref 14), some (fI 0), none, none, none]) (st' := [fI fa, fI mi]) (h' := h) (cl' := 0) (sl' := 0) rfl ?_
  refine fw_sub rfl ?_
  refine ik_Wk 2 (pc' := 17) (loc' := [some (.ref 14), some (fI 0), some (fI (mi - fa)), none, none]) (st' := [fI (mi - fa)]) (h' := h) (cl' := 0) (sl' := 0) rfl ?_
  refine fw_if_ne rfl rfl (by omega) (by omega) (fun hc1 => ?_) (fun hc1 => ?_)
  · refine ik_Wk 1 (pc' := 21) (loc' := [some (.ref 14), some (fI 0), some (fI (mi - fa)), none, none]) (st' := [.ref 14]) (h' := h) (cl' := 0) (sl' := 0) rfl ?_
    refine fw_gf rfl rfl h14 rfl ?_
    refine ik_Wk 2 (pc' := 26) (loc' := [some (.ref 14), some (fI 0), some (fI (mi - fa)), none, none]) (st' := [.ref 14, fI 0, .ref 16]) (h' := h) (cl' := 0) (sl' := 0) rfl ?_
    refine fw_gf rfl rfl h14 rfl ?_
    refine ik_Wk 2 (pc' := 31) (loc' := [some (.ref 14), some (fI 0), some (fI (mi - fa)), none, none]) (st' := [fI 3, fI 0, .ref 15, fI 0, .ref 16]) (h' := h) (cl' := 0) (sl' := 0) rfl ?_
    refine fw_mul rfl ?_
    refine ik_Wk 1 (pc' := 33) (loc' := [some (.ref 14), some (fI 0), some (fI (mi - fa)), none, none]) (st' := [fI 1, fI 0, .ref 15, fI 0, .ref 16]) (h' := h) (cl' := 0) (sl' := 0) rfl ?_
    refine fw_add rfl ?_
    refine fw_ial (z := 1) rfl h15 (by decide) (Nat.le_of_ble_eq_true rfl) (by decide) ?_
    refine ik_Wk 0 (pc' := 35) (loc' := [some (.ref 14), some (fI 0), some (fI (mi - fa)), none, none]) (st' := [fI pa, fI 0, .ref 16]) (h' := h) (cl' := 0) (sl' := 0) rfl ?_
    refine fx_ias (z := 0) rfl h16 (by decide) (Nat.le_of_ble_eq_true rfl) (by decide) ?_
    intro h_44 e_44 f_44 l_44
    have k_44 := l_44.trans hl
    have fr_44 := hfr_w (hfr_refl [14, 16] h) f_44 l_44 (by decide)
    have g_44_7 := (f_44 7 (by decide)).trans h7
    have g_44_11 := (f_44 11 (by decide)).trans h11
    have g_44_12 := (f_44 12 (by decide)).trans h12
    have g_44_13 := (f_44 13 (by decide)).trans h13
    have g_44_14 := (f_44 14 (by decide)).trans h14
    have g_44_15 := (f_44 15 (by decide)).trans h15
    have g_44_16 : cE h_44 16 (.inl (.int, fA [pa, xb])) := e_44
    refine ik_Wk 1 (pc' := 37) (loc' := [some (.ref 14), some (fI 0), some (fI (mi - fa)), none, none]) (st' := [fI (mi - fa)]) (h' := h_44) (cl' := 0) (sl' := 0) rfl ?_
    refine fw_if_gt rfl rfl (by omega) (by omega) (fun hc2 => absurd hc2 (by omega)) (fun hc2 => ?_)
    have ez : (mx_sd (fun x => mx_w cn go ch s x) (pl - 1) ka pa fa mi xa sd) = (pa, sd) := by
      unfold mx_sd
      rw [if_pos (by omega)]
    rw [ez]
    exact ik_Wret rfl rfl ⟨_, _, rfl, rfl, rfl, rfl, ⟨rfl, g_44_14, g_44_16, fr_44⟩⟩
  · refine ik_Wk 1 (pc' := 37) (loc' := [some (.ref 14), some (fI 0), some (fI (mi - fa)), none, none]) (st' := [fI (mi - fa)]) (h' := h) (cl' := 0) (sl' := 0) rfl ?_
    refine fw_if_gt rfl rfl (by omega) (by omega) (fun hc3 => ?_) (fun hc3 => ?_)
    · refine ik_Wk 1 (pc' := 42) (loc' := [some (.ref 14), some (fI 0), some (fI (mi - fa)), none, none]) (st' := [.ref 14]) (h' := h) (cl' := 0) (sl' := 0) rfl ?_
      refine fw_gf rfl rfl h14 rfl ?_
      refine ik_Wk 2 (pc' := 47) (loc' := [some (.ref 14), some (fI 0), some (fI (mi - fa)), none, none]) (st' := [fI 3, fI 0, .ref 15]) (h' := h) (cl' := 0) (sl' := 0) rfl ?_
      refine fw_mul rfl ?_
      refine ik_Wk 1 (pc' := 49) (loc' := [some (.ref 14), some (fI 0), some (fI (mi - fa)), none, none]) (st' := [fI 0, fI 0, .ref 15]) (h' := h) (cl' := 0) (sl' := 0) rfl ?_
      refine fw_add rfl ?_
      refine fw_ial (z := 0) rfl h15 (by decide) (Nat.le_of_ble_eq_true rfl) (by decide) ?_
      refine ik_Wk 0 (pc' := 51) (loc' := [some (.ref 14), some (fI 0), some (fI (mi - fa)), none, none]) (st' := [fI ka]) (h' := h) (cl' := 0) (sl' := 0) rfl ?_
      refine ik_Wk 1 (pc' := 52) (loc' := [some (.ref 14), some (fI 0), some (fI (mi - fa)), none, none]) (st' := [fI (mi - fa), fI ka]) (h' := h) (cl' := 0) (sl' := 0) rfl ?_
      refine ik_Wc 125 2 4 [fI ka, fI (mi - fa)] [] rfl rfl rfl (by decide) rfl rfl (fw_sta hl rfl (by decide)) ?_
      refine ik_Wk 0 (pc' := 0) (loc' := [some (fI ka), some (fI (mi - fa))]) (st' := []) (h' := h) (cl' := 0) (sl' := 0) rfl ?_
      refine ik_Wk 2 (pc' := 2) (loc' := [some (fI ka), some (fI (mi - fa))]) (st' := [fI 1, fI ka]) (h' := h) (cl' := 0) (sl' := 0) rfl ?_
      refine fw_ic_ne rfl rfl (by omega) (by omega) (by omega) (by omega) (fun hc4 => ?_) (fun hc4 => ?_)
      · refine ik_Wk 1 (pc' := 6) (loc' := [some (fI ka), some (fI (mi - fa))]) (st' := [fI 2]) (h' := h) (cl' := 0) (sl' := 0) rfl ?_
        refine ik_Wret rfl rfl ⟨_, _, rfl, rfl, ?_⟩
        refine ik_Wk 0 (pc' := 55) (loc' := [some (.ref 14), some (fI 0), some (fI (mi - fa)), none, none]) (st' := [fI 2]) (h' := h) (cl' := 0) (sl' := 0) rfl ?_
        refine ik_Wk 5 (pc' := 62) (loc' := [some (.ref 14), some (fI 0), some (fI (mi - fa)), some (fI 2), some (fI 0)]) (st' := [fI 2, fI 0]) (h' := h) (cl' := 0) (sl' := 0) rfl ?_
        refine fw_ic_ge rfl rfl (by omega) (by omega) (by omega) (by omega) (fun hc5 => absurd hc5 (by omega)) (fun hc5 => ?_)
        refine ik_Wk 1 (pc' := 66) (loc' := [some (.ref 14), some (fI 0), some (fI (mi - fa)), some (fI 2), some (fI 0)]) (st' := [.ref 14]) (h' := h) (cl' := 0) (sl' := 0) rfl ?_
        refine fw_gf rfl rfl h14 rfl ?_
        refine ik_Wk 1 (pc' := 70) (loc' := [some (.ref 14), some (fI 0), some (fI (mi - fa)), some (fI 2), some (fI 0)]) (st' := [.ref 14, .ref 7]) (h' := h) (cl' := 0) (sl' := 0) rfl ?_
        refine fw_gf rfl rfl h14 rfl ?_
        refine ik_Wk 1 (pc' := 74) (loc' := [some (.ref 14), some (fI 0), some (fI (mi - fa)), some (fI 2), some (fI 0)]) (st' := [fI 0, .ref 16, .ref 7]) (h' := h) (cl' := 0) (sl' := 0) rfl ?_
        refine fw_ial (z := 0) rfl h16 (by decide) (Nat.le_of_ble_eq_true rfl) (by decide) ?_
        refine ik_Wk 0 (pc' := 75) (loc' := [some (.ref 14), some (fI 0), some (fI (mi - fa)), some (fI 2), some (fI 0)]) (st' := [fI xa, .ref 7]) (h' := h) (cl' := 0) (sl' := 0) rfl ?_
        refine ik_Wc 4 2 0 [.ref 7, fI xa] [] rfl rfl rfl (by decide) rfl rfl (fw_rec hl rfl h7 rfl (by decide)) ?_
        refine ik_Wk 0 (pc' := 0) (loc' := [some (.ref 7), some (fI xa)]) (st' := []) (h' := h) (cl' := 0) (sl' := 0) rfl ?_
        refine ik_Wk 1 (pc' := 1) (loc' := [some (.ref 7), some (fI xa)]) (st' := [fI xa]) (h' := h) (cl' := 0) (sl' := 0) rfl ?_
        refine fw_if_lt rfl rfl (by omega) (by omega) (fun hc6 => ?_) (fun hc6 => ?_)
        · refine ik_Wk 1 (pc' := 19) (loc' := [some (.ref 7), some (fI xa)]) (st' := [fI 0]) (h' := h) (cl' := 0) (sl' := 0) rfl ?_
          refine ik_Wret rfl rfl ⟨_, _, rfl, rfl, ?_⟩
          refine ik_Wk 0 (pc' := 78) (loc' := [some (.ref 14), some (fI 0), some (fI (mi - fa)), some (fI 2), some (fI 0)]) (st' := [fI 0]) (h' := h) (cl' := 0) (sl' := 0) rfl ?_
          refine fw_if_eq rfl rfl (by omega) (by omega) (fun hc7 => ?_) (fun hc7 => absurd hc7 (by omega))
          have et : mx_tm ka (mi - fa) = 2 := by unfold mx_tm; (repeat' split) <;> omega
          have ez : (mx_sd (fun x => mx_w cn go ch s x) (pl - 1) ka pa fa mi xa sd) = (xa, sd) := by
            unfold mx_sd
            rw [if_neg (by omega), if_pos (by omega)]
            rw [et]
            exact mx_go_b (by omega)
          rw [ez]
          exact ik_Wret rfl rfl ⟨_, _, rfl, rfl, rfl, rfl, ⟨rfl, h14, h16, (hfr_refl [14, 16] h)⟩⟩
        · refine ik_Wk 2 (pc' := 6) (loc' := [some (.ref 7), some (fI xa)]) (st' := [.ref 7, fI xa]) (h' := h) (cl' := 0) (sl' := 0) rfl ?_
          refine fw_gf rfl rfl h7 rfl ?_
          refine ik_Wk 1 (pc' := 10) (loc' := [some (.ref 7), some (fI xa)]) (st' := [fI 1, fI pl, fI xa]) (h' := h) (cl' := 0) (sl' := 0) rfl ?_
          refine fw_sub rfl ?_
          refine fw_ic_ge rfl rfl (by omega) (by omega) (by omega) (by omega) (fun hc8 => ?_) (fun hc8 => ?_)
          · refine ik_Wk 1 (pc' := 19) (loc' := [some (.ref 7), some (fI xa)]) (st' := [fI 0]) (h' := h) (cl' := 0) (sl' := 0) rfl ?_
            refine ik_Wret rfl rfl ⟨_, _, rfl, rfl, ?_⟩
            refine ik_Wk 0 (pc' := 78) (loc' := [some (.ref 14), some (fI 0), some (fI (mi - fa)), some (fI 2), some (fI 0)]) (st' := [fI 0]) (h' := h) (cl' := 0) (sl' := 0) rfl ?_
            refine fw_if_eq rfl rfl (by omega) (by omega) (fun hc9 => ?_) (fun hc9 => absurd hc9 (by omega))
            have et : mx_tm ka (mi - fa) = 2 := by unfold mx_tm; (repeat' split) <;> omega
            have ez : (mx_sd (fun x => mx_w cn go ch s x) (pl - 1) ka pa fa mi xa sd) = (xa, sd) := by
              unfold mx_sd
              rw [if_neg (by omega), if_pos (by omega)]
              rw [et]
              exact mx_go_b (by omega)
            rw [ez]
            exact ik_Wret rfl rfl ⟨_, _, rfl, rfl, rfl, rfl, ⟨rfl, h14, h16, (hfr_refl [14, 16] h)⟩⟩
          · refine ik_Wk 2 (pc' := 19) (loc' := [some (.ref 7), some (fI xa)]) (st' := [fI 1]) (h' := h) (cl' := 0) (sl' := 0) rfl ?_
            refine ik_Wret rfl rfl ⟨_, _, rfl, rfl, ?_⟩
            refine ik_Wk 0 (pc' := 78) (loc' := [some (.ref 14), some (fI 0), some (fI (mi - fa)), some (fI 2), some (fI 0)]) (st' := [fI 1]) (h' := h) (cl' := 0) (sl' := 0) rfl ?_
            refine fw_if_eq rfl rfl (by omega) (by omega) (fun hc10 => absurd hc10 (by omega)) (fun hc10 => ?_)
            refine ik_Wk 1 (pc' := 82) (loc' := [some (.ref 14), some (fI 0), some (fI (mi - fa)), some (fI 2), some (fI 0)]) (st' := [.ref 14]) (h' := h) (cl' := 0) (sl' := 0) rfl ?_
            refine fw_gf rfl rfl h14 rfl ?_
            refine ik_Wk 2 (pc' := 87) (loc' := [some (.ref 14), some (fI 0), some (fI (mi - fa)), some (fI 2), some (fI 0)]) (st' := [.ref 14, fI 0, .ref 16]) (h' := h) (cl' := 0) (sl' := 0) rfl ?_
            refine fw_gf rfl rfl h14 rfl ?_
            refine ik_Wk 1 (pc' := 91) (loc' := [some (.ref 14), some (fI 0), some (fI (mi - fa)), some (fI 2), some (fI 0)]) (st' := [.ref 14, .ref 7, fI 0, .ref 16]) (h' := h) (cl' := 0) (sl' := 0) rfl ?_
            refine fw_gf rfl rfl h14 rfl ?_
            refine ik_Wk 1 (pc' := 95) (loc' := [some (.ref 14), some (fI 0), some (fI (mi - fa)), some (fI 2), some (fI 0)]) (st' := [fI 0, .ref 16, .ref 7, fI 0, .ref 16]) (h' := h) (cl' := 0) (sl' := 0) rfl ?_
            refine fw_ial (z := 0) rfl h16 (by decide) (Nat.le_of_ble_eq_true rfl) (by decide) ?_
            refine ik_Wk 0 (pc' := 96) (loc' := [some (.ref 14), some (fI 0), some (fI (mi - fa)), some (fI 2), some (fI 0)]) (st' := [fI xa, .ref 7, fI 0, .ref 16]) (h' := h) (cl' := 0) (sl' := 0) rfl ?_
            refine ik_Wk 1 (pc' := 97) (loc' := [some (.ref 14), some (fI 0), some (fI (mi - fa)), some (fI 2), some (fI 0)]) (st' := [.ref 14, fI xa, .ref 7, fI 0, .ref 16]) (h' := h) (cl' := 0) (sl' := 0) rfl ?_
            refine fw_call 27 1 0 [.ref 14] [fI xa, .ref 7, fI 0, .ref 16] rfl rfl rfl (by decide) rfl rfl (fw_rec hl rfl h14 rfl (by decide)) (cs_draw (mi := mi) (sd := sd) (by omega) h14 hl) ?_
            rintro _ h_45 ⟨rfl, e_45_14, F_45⟩
            have k_45 := F_45.1.trans hl
            have fr_45 := hfr_c (hfr_refl [14, 16] h) F_45 (by decide)
            have g_45_7 := (F_45.2 7 (by decide +kernel)).trans h7
            have g_45_11 := (F_45.2 11 (by decide +kernel)).trans h11
            have g_45_12 := (F_45.2 12 (by decide +kernel)).trans h12
            have g_45_13 := (F_45.2 13 (by decide +kernel)).trans h13
            have g_45_15 := (F_45.2 15 (by decide +kernel)).trans h15
            have g_45_16 := (F_45.2 16 (by decide +kernel)).trans h16
            have g_45_14 : cE h_45 14 (.inr (1, [.ref 7, .ref 15, .ref 16, fI mi, fJ (mx_d sd)])) := e_45_14
            refine ik_Wk 0 (pc' := 100) (loc' := [some (.ref 14), some (fI 0), some (fI (mi - fa)), some (fI 2), some (fI 0)]) (st' := [fI (mx_v sd), fI xa, .ref 7, fI 0, .ref 16]) (h' := h_45) (cl' := 0) (sl' := 0) rfl ?_
            refine fw_call 18 3 0 [.ref 7, fI xa, fI (mx_v sd)] [fI 0, .ref 16] rfl rfl rfl (by decide) rfl rfl (fw_rec k_45 rfl g_45_7 rfl (by decide)) (cs_goalBy (p := xa) (d := mx_v sd) (pl := pl) (lo := lo) (s := s) (wg := wg) (wc := wc) (we := we) (L := (mx_w cn go ch s xa)) (by omega) (by omega) (mx_v_b _).1 (mx_v_b _).2 (q4 _ (by omega) (by omega)) (q5 _ (by omega) (by omega)) g_45_7 g_45_11 n11 g_45_12 n12 g_45_13 n13 k_45) ?_
            rintro _ h_46 ⟨rfl, F_46⟩
            have k_46 := F_46.1.trans k_45
            have fr_46 := hfr_c fr_45 F_46 (by decide)
            have g_46_7 := (F_46.2 7 (by decide +kernel)).trans g_45_7
            have g_46_11 := (F_46.2 11 (by decide +kernel)).trans g_45_11
            have g_46_12 := (F_46.2 12 (by decide +kernel)).trans g_45_12
            have g_46_13 := (F_46.2 13 (by decide +kernel)).trans g_45_13
            have g_46_14 := (F_46.2 14 (by decide +kernel)).trans g_45_14
            have g_46_15 := (F_46.2 15 (by decide +kernel)).trans g_45_15
            have g_46_16 := (F_46.2 16 (by decide +kernel)).trans g_45_16
            refine ik_Wk 0 (pc' := 103) (loc' := [some (.ref 14), some (fI 0), some (fI (mi - fa)), some (fI 2), some (fI 0)]) (st' := [fI (mx_pk (mx_w cn go ch s xa) (mx_v sd) xa), fI 0, .ref 16]) (h' := h_46) (cl' := 0) (sl' := 0) rfl ?_
            have hp46 := mx_pk_in (f := xa) (q5 xa (by omega) (by omega)) (mx_v_b sd).1 (mx_v_b sd).2
            have hz46 := mx_d_b sd
            refine fx_ias (z := 0) rfl g_46_16 (by decide) (Nat.le_of_ble_eq_true rfl) (by decide) ?_
            intro h_47 e_47 f_47 l_47
            have k_47 := l_47.trans k_46
            have fr_47 := hfr_w fr_46 f_47 l_47 (by decide)
            have g_47_7 := (f_47 7 (by decide)).trans g_46_7
            have g_47_11 := (f_47 11 (by decide)).trans g_46_11
            have g_47_12 := (f_47 12 (by decide)).trans g_46_12
            have g_47_13 := (f_47 13 (by decide)).trans g_46_13
            have g_47_14 := (f_47 14 (by decide)).trans g_46_14
            have g_47_15 := (f_47 15 (by decide)).trans g_46_15
            have g_47_16 : cE h_47 16 (.inl (.int, fA [mx_pk (mx_w cn go ch s xa) (mx_v sd) xa, xb])) := e_47
            refine fw_inc (a := 0) (loc' := [some (.ref 14), some (fI 0), some (fI (mi - fa)), some (fI 2), some (fI 1)]) rfl rfl (Nat.le_of_ble_eq_true rfl) rfl ?_
            refine ik_Wk 3 (pc' := 62) (loc' := [some (.ref 14), some (fI 0), some (fI (mi - fa)), some (fI 2), some (fI 1)]) (st' := [fI 2, fI 1]) (h' := h_47) (cl' := 0) (sl' := 0) rfl ?_
            refine fw_ic_ge rfl rfl (by omega) (by omega) (by omega) (by omega) (fun hc11 => absurd hc11 (by omega)) (fun hc11 => ?_)
            refine ik_Wk 1 (pc' := 66) (loc' := [some (.ref 14), some (fI 0), some (fI (mi - fa)), some (fI 2), some (fI 1)]) (st' := [.ref 14]) (h' := h_47) (cl' := 0) (sl' := 0) rfl ?_
            refine fw_gf rfl rfl g_47_14 rfl ?_
            refine ik_Wk 1 (pc' := 70) (loc' := [some (.ref 14), some (fI 0), some (fI (mi - fa)), some (fI 2), some (fI 1)]) (st' := [.ref 14, .ref 7]) (h' := h_47) (cl' := 0) (sl' := 0) rfl ?_
            refine fw_gf rfl rfl g_47_14 rfl ?_
            refine ik_Wk 1 (pc' := 74) (loc' := [some (.ref 14), some (fI 0), some (fI (mi - fa)), some (fI 2), some (fI 1)]) (st' := [fI 0, .ref 16, .ref 7]) (h' := h_47) (cl' := 0) (sl' := 0) rfl ?_
            refine fw_ial (z := 0) rfl g_47_16 (by decide) (Nat.le_of_ble_eq_true rfl) (by decide) ?_
            refine ik_Wk 0 (pc' := 75) (loc' := [some (.ref 14), some (fI 0), some (fI (mi - fa)), some (fI 2), some (fI 1)]) (st' := [fI (mx_pk (mx_w cn go ch s xa) (mx_v sd) xa), .ref 7]) (h' := h_47) (cl' := 0) (sl' := 0) rfl ?_
            refine ik_Wc 4 2 0 [.ref 7, fI (mx_pk (mx_w cn go ch s xa) (mx_v sd) xa)] [] rfl rfl rfl (by decide) rfl rfl (fw_rec k_47 rfl g_47_7 rfl (by decide)) ?_
            refine ik_Wk 0 (pc' := 0) (loc' := [some (.ref 7), some (fI (mx_pk (mx_w cn go ch s xa) (mx_v sd) xa))]) (st' := []) (h' := h_47) (cl' := 0) (sl' := 0) rfl ?_
            refine ik_Wk 1 (pc' := 1) (loc' := [some (.ref 7), some (fI (mx_pk (mx_w cn go ch s xa) (mx_v sd) xa))]) (st' := [fI (mx_pk (mx_w cn go ch s xa) (mx_v sd) xa)]) (h' := h_47) (cl' := 0) (sl' := 0) rfl ?_
            refine fw_if_lt rfl rfl (by omega) (by omega) (fun hc12 => ?_) (fun hc12 => ?_)
            · refine ik_Wk 1 (pc' := 19) (loc' := [some (.ref 7), some (fI (mx_pk (mx_w cn go ch s xa) (mx_v sd) xa))]) (st' := [fI 0]) (h' := h_47) (cl' := 0) (sl' := 0) rfl ?_
              refine ik_Wret rfl rfl ⟨_, _, rfl, rfl, ?_⟩
              refine ik_Wk 0 (pc' := 78) (loc' := [some (.ref 14), some (fI 0), some (fI (mi - fa)), some (fI 2), some (fI 1)]) (st' := [fI 0]) (h' := h_47) (cl' := 0) (sl' := 0) rfl ?_
              refine fw_if_eq rfl rfl (by omega) (by omega) (fun hc13 => ?_) (fun hc13 => absurd hc13 (by omega))
              have et : mx_tm ka (mi - fa) = 2 := by unfold mx_tm; (repeat' split) <;> omega
              have ez : (mx_sd (fun x => mx_w cn go ch s x) (pl - 1) ka pa fa mi xa sd) = (mx_pk (mx_w cn go ch s xa) (mx_v sd) xa, mx_d sd) := by
                unfold mx_sd
                rw [if_neg (by omega), if_pos (by omega)]
                rw [et]
                rw [mx_go_n (by omega)]
                exact mx_go_b (by omega)
              rw [ez]
              exact ik_Wret rfl rfl ⟨_, _, rfl, rfl, rfl, rfl, ⟨rfl, g_47_14, g_47_16, fr_47⟩⟩
            · refine ik_Wk 2 (pc' := 6) (loc' := [some (.ref 7), some (fI (mx_pk (mx_w cn go ch s xa) (mx_v sd) xa))]) (st' := [.ref 7, fI (mx_pk (mx_w cn go ch s xa) (mx_v sd) xa)]) (h' := h_47) (cl' := 0) (sl' := 0) rfl ?_
              refine fw_gf rfl rfl g_47_7 rfl ?_
              refine ik_Wk 1 (pc' := 10) (loc' := [some (.ref 7), some (fI (mx_pk (mx_w cn go ch s xa) (mx_v sd) xa))]) (st' := [fI 1, fI pl, fI (mx_pk (mx_w cn go ch s xa) (mx_v sd) xa)]) (h' := h_47) (cl' := 0) (sl' := 0) rfl ?_
              refine fw_sub rfl ?_
              refine fw_ic_ge rfl rfl (by omega) (by omega) (by omega) (by omega) (fun hc14 => ?_) (fun hc14 => ?_)
              · refine ik_Wk 1 (pc' := 19) (loc' := [some (.ref 7), some (fI (mx_pk (mx_w cn go ch s xa) (mx_v sd) xa))]) (st' := [fI 0]) (h' := h_47) (cl' := 0) (sl' := 0) rfl ?_
                refine ik_Wret rfl rfl ⟨_, _, rfl, rfl, ?_⟩
                refine ik_Wk 0 (pc' := 78) (loc' := [some (.ref 14), some (fI 0), some (fI (mi - fa)), some (fI 2), some (fI 1)]) (st' := [fI 0]) (h' := h_47) (cl' := 0) (sl' := 0) rfl ?_
                refine fw_if_eq rfl rfl (by omega) (by omega) (fun hc15 => ?_) (fun hc15 => absurd hc15 (by omega))
                have et : mx_tm ka (mi - fa) = 2 := by unfold mx_tm; (repeat' split) <;> omega
                have ez : (mx_sd (fun x => mx_w cn go ch s x) (pl - 1) ka pa fa mi xa sd) = (mx_pk (mx_w cn go ch s xa) (mx_v sd) xa, mx_d sd) := by
                  unfold mx_sd
                  rw [if_neg (by omega), if_pos (by omega)]
                  rw [et]
                  rw [mx_go_n (by omega)]
                  exact mx_go_b (by omega)
                rw [ez]
                exact ik_Wret rfl rfl ⟨_, _, rfl, rfl, rfl, rfl, ⟨rfl, g_47_14, g_47_16, fr_47⟩⟩
              · refine ik_Wk 2 (pc' := 19) (loc' := [some (.ref 7), some (fI (mx_pk (mx_w cn go ch s xa) (mx_v sd) xa))]) (st' := [fI 1]) (h' := h_47) (cl' := 0) (sl' := 0) rfl ?_
                refine ik_Wret rfl rfl ⟨_, _, rfl, rfl, ?_⟩
                refine ik_Wk 0 (pc' := 78) (loc' := [some (.ref 14), some (fI 0), some (fI (mi - fa)), some (fI 2), some (fI 1)]) (st' := [fI 1]) (h' := h_47) (cl' := 0) (sl' := 0) rfl ?_
                refine fw_if_eq rfl rfl (by omega) (by omega) (fun hc16 => absurd hc16 (by omega)) (fun hc16 => ?_)
                refine ik_Wk 1 (pc' := 82) (loc' := [some (.ref 14), some (fI 0), some (fI (mi - fa)), some (fI 2), some (fI 1)]) (st' := [.ref 14]) (h' := h_47) (cl' := 0) (sl' := 0) rfl ?_
                refine fw_gf rfl rfl g_47_14 rfl ?_
                refine ik_Wk 2 (pc' := 87) (loc' := [some (.ref 14), some (fI 0), some (fI (mi - fa)), some (fI 2), some (fI 1)]) (st' := [.ref 14, fI 0, .ref 16]) (h' := h_47) (cl' := 0) (sl' := 0) rfl ?_
                refine fw_gf rfl rfl g_47_14 rfl ?_
                refine ik_Wk 1 (pc' := 91) (loc' := [some (.ref 14), some (fI 0), some (fI (mi - fa)), some (fI 2), some (fI 1)]) (st' := [.ref 14, .ref 7, fI 0, .ref 16]) (h' := h_47) (cl' := 0) (sl' := 0) rfl ?_
                refine fw_gf rfl rfl g_47_14 rfl ?_
                refine ik_Wk 1 (pc' := 95) (loc' := [some (.ref 14), some (fI 0), some (fI (mi - fa)), some (fI 2), some (fI 1)]) (st' := [fI 0, .ref 16, .ref 7, fI 0, .ref 16]) (h' := h_47) (cl' := 0) (sl' := 0) rfl ?_
                refine fw_ial (z := 0) rfl g_47_16 (by decide) (Nat.le_of_ble_eq_true rfl) (by decide) ?_
                refine ik_Wk 0 (pc' := 96) (loc' := [some (.ref 14), some (fI 0), some (fI (mi - fa)), some (fI 2), some (fI 1)]) (st' := [fI (mx_pk (mx_w cn go ch s xa) (mx_v sd) xa), .ref 7, fI 0, .ref 16]) (h' := h_47) (cl' := 0) (sl' := 0) rfl ?_
                refine ik_Wk 1 (pc' := 97) (loc' := [some (.ref 14), some (fI 0), some (fI (mi - fa)), some (fI 2), some (fI 1)]) (st' := [.ref 14, fI (mx_pk (mx_w cn go ch s xa) (mx_v sd) xa), .ref 7, fI 0, .ref 16]) (h' := h_47) (cl' := 0) (sl' := 0) rfl ?_
                refine fw_call 27 1 0 [.ref 14] [fI (mx_pk (mx_w cn go ch s xa) (mx_v sd) xa), .ref 7, fI 0, .ref 16] rfl rfl rfl (by decide) rfl rfl (fw_rec k_47 rfl g_47_14 rfl (by decide)) (cs_draw (mi := mi) (sd := mx_d sd) (by omega) g_47_14 k_47) ?_
                rintro _ h_48 ⟨rfl, e_48_14, F_48⟩
                have k_48 := F_48.1.trans k_47
                have fr_48 := hfr_c fr_47 F_48 (by decide)
                have g_48_7 := (F_48.2 7 (by decide +kernel)).trans g_47_7
                have g_48_11 := (F_48.2 11 (by decide +kernel)).trans g_47_11
                have g_48_12 := (F_48.2 12 (by decide +kernel)).trans g_47_12
                have g_48_13 := (F_48.2 13 (by decide +kernel)).trans g_47_13
                have g_48_15 := (F_48.2 15 (by decide +kernel)).trans g_47_15
                have g_48_16 := (F_48.2 16 (by decide +kernel)).trans g_47_16
                have g_48_14 : cE h_48 14 (.inr (1, [.ref 7, .ref 15, .ref 16, fI mi, fJ (mx_d (mx_d sd))])) := e_48_14
                refine ik_Wk 0 (pc' := 100) (loc' := [some (.ref 14), some (fI 0), some (fI (mi - fa)), some (fI 2), some (fI 1)]) (st' := [fI (mx_v (mx_d sd)), fI (mx_pk (mx_w cn go ch s xa) (mx_v sd) xa), .ref 7, fI 0, .ref 16]) (h' := h_48) (cl' := 0) (sl' := 0) rfl ?_
                refine fw_call 18 3 0 [.ref 7, fI (mx_pk (mx_w cn go ch s xa) (mx_v sd) xa), fI (mx_v (mx_d sd))] [fI 0, .ref 16] rfl rfl rfl (by decide) rfl rfl (fw_rec k_48 rfl g_48_7 rfl (by decide)) (cs_goalBy (p := mx_pk (mx_w cn go ch s xa) (mx_v sd) xa) (d := mx_v (mx_d sd)) (pl := pl) (lo := lo) (s := s) (wg := wg) (wc := wc) (we := we) (L := (mx_w cn go ch s (mx_pk (mx_w cn go ch s xa) (mx_v sd) xa))) (by omega) (by omega) (mx_v_b _).1 (mx_v_b _).2 (q4 _ (by omega) (by omega)) (q5 _ (by omega) (by omega)) g_48_7 g_48_11 n11 g_48_12 n12 g_48_13 n13 k_48) ?_
                rintro _ h_49 ⟨rfl, F_49⟩
                have k_49 := F_49.1.trans k_48
                have fr_49 := hfr_c fr_48 F_49 (by decide)
                have g_49_7 := (F_49.2 7 (by decide +kernel)).trans g_48_7
                have g_49_11 := (F_49.2 11 (by decide +kernel)).trans g_48_11
                have g_49_12 := (F_49.2 12 (by decide +kernel)).trans g_48_12
                have g_49_13 := (F_49.2 13 (by decide +kernel)).trans g_48_13
                have g_49_14 := (F_49.2 14 (by decide +kernel)).trans g_48_14
                have g_49_15 := (F_49.2 15 (by decide +kernel)).trans g_48_15
                have g_49_16 := (F_49.2 16 (by decide +kernel)).trans g_48_16
                refine ik_Wk 0 (pc' := 103) (loc' := [some (.ref 14), some (fI 0), some (fI (mi - fa)), some (fI 2), some (fI 1)]) (st' := [fI (mx_pk (mx_w cn go ch s (mx_pk (mx_w cn go ch s xa) (mx_v sd) xa)) (mx_v (mx_d sd)) (mx_pk (mx_w cn go ch s xa) (mx_v sd) xa)), fI 0, .ref 16]) (h' := h_49) (cl' := 0) (sl' := 0) rfl ?_
                have hp49 := mx_pk_in (f := mx_pk (mx_w cn go ch s xa) (mx_v sd) xa) (q5 (mx_pk (mx_w cn go ch s xa) (mx_v sd) xa) (by omega) (by omega)) (mx_v_b (mx_d sd)).1 (mx_v_b (mx_d sd)).2
                have hz49 := mx_d_b (mx_d sd)
                refine fx_ias (z := 0) rfl g_49_16 (by decide) (Nat.le_of_ble_eq_true rfl) (by decide) ?_
                intro h_50 e_50 f_50 l_50
                have k_50 := l_50.trans k_49
                have fr_50 := hfr_w fr_49 f_50 l_50 (by decide)
                have g_50_7 := (f_50 7 (by decide)).trans g_49_7
                have g_50_11 := (f_50 11 (by decide)).trans g_49_11
                have g_50_12 := (f_50 12 (by decide)).trans g_49_12
                have g_50_13 := (f_50 13 (by decide)).trans g_49_13
                have g_50_14 := (f_50 14 (by decide)).trans g_49_14
                have g_50_15 := (f_50 15 (by decide)).trans g_49_15
                have g_50_16 : cE h_50 16 (.inl (.int, fA [mx_pk (mx_w cn go ch s (mx_pk (mx_w cn go ch s xa) (mx_v sd) xa)) (mx_v (mx_d sd)) (mx_pk (mx_w cn go ch s xa) (mx_v sd) xa), xb])) := e_50
                refine fw_inc (a := 1) (loc' := [some (.ref 14), some (fI 0), some (fI (mi - fa)), some (fI 2), some (fI 2)]) rfl rfl (Nat.le_of_ble_eq_true rfl) rfl ?_
                refine ik_Wk 3 (pc' := 62) (loc' := [some (.ref 14), some (fI 0), some (fI (mi - fa)), some (fI 2), some (fI 2)]) (st' := [fI 2, fI 2]) (h' := h_50) (cl' := 0) (sl' := 0) rfl ?_
                refine fw_ic_ge rfl rfl (by omega) (by omega) (by omega) (by omega) (fun hc17 => ?_) (fun hc17 => absurd hc17 (by omega))
                have et : mx_tm ka (mi - fa) = 2 := by unfold mx_tm; (repeat' split) <;> omega
                have ez : (mx_sd (fun x => mx_w cn go ch s x) (pl - 1) ka pa fa mi xa sd) = (mx_pk (mx_w cn go ch s (mx_pk (mx_w cn go ch s xa) (mx_v sd) xa)) (mx_v (mx_d sd)) (mx_pk (mx_w cn go ch s xa) (mx_v sd) xa), mx_d (mx_d sd)) := by
                  unfold mx_sd
                  rw [if_neg (by omega), if_pos (by omega)]
                  rw [et]
                  rw [mx_go_n (by omega)]
                  rw [mx_go_n (by omega)]
                  rfl
                rw [ez]
                exact ik_Wret rfl rfl ⟨_, _, rfl, rfl, rfl, rfl, ⟨rfl, g_50_14, g_50_16, fr_50⟩⟩
      · refine ik_Wk 2 (pc' := 9) (loc' := [some (fI ka), some (fI (mi - fa))]) (st' := [fI 2, fI ka]) (h' := h) (cl' := 0) (sl' := 0) rfl ?_
        refine fw_ic_ne rfl rfl (by omega) (by omega) (by omega) (by omega) (fun hc18 => ?_) (fun hc18 => ?_)
        · refine ik_Wk 2 (pc' := 14) (loc' := [some (fI ka), some (fI (mi - fa))]) (st' := [fI 2, fI (mi - fa)]) (h' := h) (cl' := 0) (sl' := 0) rfl ?_
          refine fx_irem rfl (by omega) (by omega) (by omega) (by omega) ?_
          refine fw_if_eq rfl rfl (by omega) (by omega) (fun hc19 => ?_) (fun hc19 => ?_)
          · refine ik_Wk 1 (pc' := 23) (loc' := [some (fI ka), some (fI (mi - fa))]) (st' := [fI 1]) (h' := h) (cl' := 0) (sl' := 0) rfl ?_
            refine ik_Wret rfl rfl ⟨_, _, rfl, rfl, ?_⟩
            refine ik_Wk 0 (pc' := 55) (loc' := [some (.ref 14), some (fI 0), some (fI (mi - fa)), none, none]) (st' := [fI 1]) (h' := h) (cl' := 0) (sl' := 0) rfl ?_
            refine ik_Wk 5 (pc' := 62) (loc' := [some (.ref 14), some (fI 0), some (fI (mi - fa)), some (fI 1), some (fI 0)]) (st' := [fI 1, fI 0]) (h' := h) (cl' := 0) (sl' := 0) rfl ?_
            refine fw_ic_ge rfl rfl (by omega) (by omega) (by omega) (by omega) (fun hc20 => absurd hc20 (by omega)) (fun hc20 => ?_)
            refine ik_Wk 1 (pc' := 66) (loc' := [some (.ref 14), some (fI 0), some (fI (mi - fa)), some (fI 1), some (fI 0)]) (st' := [.ref 14]) (h' := h) (cl' := 0) (sl' := 0) rfl ?_
            refine fw_gf rfl rfl h14 rfl ?_
            refine ik_Wk 1 (pc' := 70) (loc' := [some (.ref 14), some (fI 0), some (fI (mi - fa)), some (fI 1), some (fI 0)]) (st' := [.ref 14, .ref 7]) (h' := h) (cl' := 0) (sl' := 0) rfl ?_
            refine fw_gf rfl rfl h14 rfl ?_
            refine ik_Wk 1 (pc' := 74) (loc' := [some (.ref 14), some (fI 0), some (fI (mi - fa)), some (fI 1), some (fI 0)]) (st' := [fI 0, .ref 16, .ref 7]) (h' := h) (cl' := 0) (sl' := 0) rfl ?_
            refine fw_ial (z := 0) rfl h16 (by decide) (Nat.le_of_ble_eq_true rfl) (by decide) ?_
            refine ik_Wk 0 (pc' := 75) (loc' := [some (.ref 14), some (fI 0), some (fI (mi - fa)), some (fI 1), some (fI 0)]) (st' := [fI xa, .ref 7]) (h' := h) (cl' := 0) (sl' := 0) rfl ?_
            refine ik_Wc 4 2 0 [.ref 7, fI xa] [] rfl rfl rfl (by decide) rfl rfl (fw_rec hl rfl h7 rfl (by decide)) ?_
            refine ik_Wk 0 (pc' := 0) (loc' := [some (.ref 7), some (fI xa)]) (st' := []) (h' := h) (cl' := 0) (sl' := 0) rfl ?_
            refine ik_Wk 1 (pc' := 1) (loc' := [some (.ref 7), some (fI xa)]) (st' := [fI xa]) (h' := h) (cl' := 0) (sl' := 0) rfl ?_
            refine fw_if_lt rfl rfl (by omega) (by omega) (fun hc21 => ?_) (fun hc21 => ?_)
            · refine ik_Wk 1 (pc' := 19) (loc' := [some (.ref 7), some (fI xa)]) (st' := [fI 0]) (h' := h) (cl' := 0) (sl' := 0) rfl ?_
              refine ik_Wret rfl rfl ⟨_, _, rfl, rfl, ?_⟩
              refine ik_Wk 0 (pc' := 78) (loc' := [some (.ref 14), some (fI 0), some (fI (mi - fa)), some (fI 1), some (fI 0)]) (st' := [fI 0]) (h' := h) (cl' := 0) (sl' := 0) rfl ?_
              refine fw_if_eq rfl rfl (by omega) (by omega) (fun hc22 => ?_) (fun hc22 => absurd hc22 (by omega))
              have et : mx_tm ka (mi - fa) = 1 := by unfold mx_tm; (repeat' split) <;> omega
              have ez : (mx_sd (fun x => mx_w cn go ch s x) (pl - 1) ka pa fa mi xa sd) = (xa, sd) := by
                unfold mx_sd
                rw [if_neg (by omega), if_pos (by omega)]
                rw [et]
                exact mx_go_b (by omega)
              rw [ez]
              exact ik_Wret rfl rfl ⟨_, _, rfl, rfl, rfl, rfl, ⟨rfl, h14, h16, (hfr_refl [14, 16] h)⟩⟩
            · refine ik_Wk 2 (pc' := 6) (loc' := [some (.ref 7), some (fI xa)]) (st' := [.ref 7, fI xa]) (h' := h) (cl' := 0) (sl' := 0) rfl ?_
              refine fw_gf rfl rfl h7 rfl ?_
              refine ik_Wk 1 (pc' := 10) (loc' := [some (.ref 7), some (fI xa)]) (st' := [fI 1, fI pl, fI xa]) (h' := h) (cl' := 0) (sl' := 0) rfl ?_
              refine fw_sub rfl ?_
              refine fw_ic_ge rfl rfl (by omega) (by omega) (by omega) (by omega) (fun hc23 => ?_) (fun hc23 => ?_)
              · refine ik_Wk 1 (pc' := 19) (loc' := [some (.ref 7), some (fI xa)]) (st' := [fI 0]) (h' := h) (cl' := 0) (sl' := 0) rfl ?_
                refine ik_Wret rfl rfl ⟨_, _, rfl, rfl, ?_⟩
                refine ik_Wk 0 (pc' := 78) (loc' := [some (.ref 14), some (fI 0), some (fI (mi - fa)), some (fI 1), some (fI 0)]) (st' := [fI 0]) (h' := h) (cl' := 0) (sl' := 0) rfl ?_
                refine fw_if_eq rfl rfl (by omega) (by omega) (fun hc24 => ?_) (fun hc24 => absurd hc24 (by omega))
                have et : mx_tm ka (mi - fa) = 1 := by unfold mx_tm; (repeat' split) <;> omega
                have ez : (mx_sd (fun x => mx_w cn go ch s x) (pl - 1) ka pa fa mi xa sd) = (xa, sd) := by
                  unfold mx_sd
                  rw [if_neg (by omega), if_pos (by omega)]
                  rw [et]
                  exact mx_go_b (by omega)
                rw [ez]
                exact ik_Wret rfl rfl ⟨_, _, rfl, rfl, rfl, rfl, ⟨rfl, h14, h16, (hfr_refl [14, 16] h)⟩⟩
              · refine ik_Wk 2 (pc' := 19) (loc' := [some (.ref 7), some (fI xa)]) (st' := [fI 1]) (h' := h) (cl' := 0) (sl' := 0) rfl ?_
                refine ik_Wret rfl rfl ⟨_, _, rfl, rfl, ?_⟩
                refine ik_Wk 0 (pc' := 78) (loc' := [some (.ref 14), some (fI 0), some (fI (mi - fa)), some (fI 1), some (fI 0)]) (st' := [fI 1]) (h' := h) (cl' := 0) (sl' := 0) rfl ?_
                refine fw_if_eq rfl rfl (by omega) (by omega) (fun hc25 => absurd hc25 (by omega)) (fun hc25 => ?_)
                refine ik_Wk 1 (pc' := 82) (loc' := [some (.ref 14), some (fI 0), some (fI (mi - fa)), some (fI 1), some (fI 0)]) (st' := [.ref 14]) (h' := h) (cl' := 0) (sl' := 0) rfl ?_
                refine fw_gf rfl rfl h14 rfl ?_
                refine ik_Wk 2 (pc' := 87) (loc' := [some (.ref 14), some (fI 0), some (fI (mi - fa)), some (fI 1), some (fI 0)]) (st' := [.ref 14, fI 0, .ref 16]) (h' := h) (cl' := 0) (sl' := 0) rfl ?_
                refine fw_gf rfl rfl h14 rfl ?_
                refine ik_Wk 1 (pc' := 91) (loc' := [some (.ref 14), some (fI 0), some (fI (mi - fa)), some (fI 1), some (fI 0)]) (st' := [.ref 14, .ref 7, fI 0, .ref 16]) (h' := h) (cl' := 0) (sl' := 0) rfl ?_
                refine fw_gf rfl rfl h14 rfl ?_
                refine ik_Wk 1 (pc' := 95) (loc' := [some (.ref 14), some (fI 0), some (fI (mi - fa)), some (fI 1), some (fI 0)]) (st' := [fI 0, .ref 16, .ref 7, fI 0, .ref 16]) (h' := h) (cl' := 0) (sl' := 0) rfl ?_
                refine fw_ial (z := 0) rfl h16 (by decide) (Nat.le_of_ble_eq_true rfl) (by decide) ?_
                refine ik_Wk 0 (pc' := 96) (loc' := [some (.ref 14), some (fI 0), some (fI (mi - fa)), some (fI 1), some (fI 0)]) (st' := [fI xa, .ref 7, fI 0, .ref 16]) (h' := h) (cl' := 0) (sl' := 0) rfl ?_
                refine ik_Wk 1 (pc' := 97) (loc' := [some (.ref 14), some (fI 0), some (fI (mi - fa)), some (fI 1), some (fI 0)]) (st' := [.ref 14, fI xa, .ref 7, fI 0, .ref 16]) (h' := h) (cl' := 0) (sl' := 0) rfl ?_
                refine fw_call 27 1 0 [.ref 14] [fI xa, .ref 7, fI 0, .ref 16] rfl rfl rfl (by decide) rfl rfl (fw_rec hl rfl h14 rfl (by decide)) (cs_draw (mi := mi) (sd := sd) (by omega) h14 hl) ?_
                rintro _ h_51 ⟨rfl, e_51_14, F_51⟩
                have k_51 := F_51.1.trans hl
                have fr_51 := hfr_c (hfr_refl [14, 16] h) F_51 (by decide)
                have g_51_7 := (F_51.2 7 (by decide +kernel)).trans h7
                have g_51_11 := (F_51.2 11 (by decide +kernel)).trans h11
                have g_51_12 := (F_51.2 12 (by decide +kernel)).trans h12
                have g_51_13 := (F_51.2 13 (by decide +kernel)).trans h13
                have g_51_15 := (F_51.2 15 (by decide +kernel)).trans h15
                have g_51_16 := (F_51.2 16 (by decide +kernel)).trans h16
                have g_51_14 : cE h_51 14 (.inr (1, [.ref 7, .ref 15, .ref 16, fI mi, fJ (mx_d sd)])) := e_51_14
                refine ik_Wk 0 (pc' := 100) (loc' := [some (.ref 14), some (fI 0), some (fI (mi - fa)), some (fI 1), some (fI 0)]) (st' := [fI (mx_v sd), fI xa, .ref 7, fI 0, .ref 16]) (h' := h_51) (cl' := 0) (sl' := 0) rfl ?_
                refine fw_call 18 3 0 [.ref 7, fI xa, fI (mx_v sd)] [fI 0, .ref 16] rfl rfl rfl (by decide) rfl rfl (fw_rec k_51 rfl g_51_7 rfl (by decide)) (cs_goalBy (p := xa) (d := mx_v sd) (pl := pl) (lo := lo) (s := s) (wg := wg) (wc := wc) (we := we) (L := (mx_w cn go ch s xa)) (by omega) (by omega) (mx_v_b _).1 (mx_v_b _).2 (q4 _ (by omega) (by omega)) (q5 _ (by omega) (by omega)) g_51_7 g_51_11 n11 g_51_12 n12 g_51_13 n13 k_51) ?_
                rintro _ h_52 ⟨rfl, F_52⟩
                have k_52 := F_52.1.trans k_51
                have fr_52 := hfr_c fr_51 F_52 (by decide)
                have g_52_7 := (F_52.2 7 (by decide +kernel)).trans g_51_7
                have g_52_11 := (F_52.2 11 (by decide +kernel)).trans g_51_11
                have g_52_12 := (F_52.2 12 (by decide +kernel)).trans g_51_12
                have g_52_13 := (F_52.2 13 (by decide +kernel)).trans g_51_13
                have g_52_14 := (F_52.2 14 (by decide +kernel)).trans g_51_14
                have g_52_15 := (F_52.2 15 (by decide +kernel)).trans g_51_15
                have g_52_16 := (F_52.2 16 (by decide +kernel)).trans g_51_16
                refine ik_Wk 0 (pc' := 103) (loc' := [some (.ref 14), some (fI 0), some (fI (mi - fa)), some (fI 1), some (fI 0)]) (st' := [fI (mx_pk (mx_w cn go ch s xa) (mx_v sd) xa), fI 0, .ref 16]) (h' := h_52) (cl' := 0) (sl' := 0) rfl ?_
                have hp52 := mx_pk_in (f := xa) (q5 xa (by omega) (by omega)) (mx_v_b sd).1 (mx_v_b sd).2
                have hz52 := mx_d_b sd
                refine fx_ias (z := 0) rfl g_52_16 (by decide) (Nat.le_of_ble_eq_true rfl) (by decide) ?_
                intro h_53 e_53 f_53 l_53
                have k_53 := l_53.trans k_52
                have fr_53 := hfr_w fr_52 f_53 l_53 (by decide)
                have g_53_7 := (f_53 7 (by decide)).trans g_52_7
                have g_53_11 := (f_53 11 (by decide)).trans g_52_11
                have g_53_12 := (f_53 12 (by decide)).trans g_52_12
                have g_53_13 := (f_53 13 (by decide)).trans g_52_13
                have g_53_14 := (f_53 14 (by decide)).trans g_52_14
                have g_53_15 := (f_53 15 (by decide)).trans g_52_15
                have g_53_16 : cE h_53 16 (.inl (.int, fA [mx_pk (mx_w cn go ch s xa) (mx_v sd) xa, xb])) := e_53
                refine fw_inc (a := 0) (loc' := [some (.ref 14), some (fI 0), some (fI (mi - fa)), some (fI 1), some (fI 1)]) rfl rfl (Nat.le_of_ble_eq_true rfl) rfl ?_
                refine ik_Wk 3 (pc' := 62) (loc' := [some (.ref 14), some (fI 0), some (fI (mi - fa)), some (fI 1), some (fI 1)]) (st' := [fI 1, fI 1]) (h' := h_53) (cl' := 0) (sl' := 0) rfl ?_
                refine fw_ic_ge rfl rfl (by omega) (by omega) (by omega) (by omega) (fun hc26 => ?_) (fun hc26 => absurd hc26 (by omega))
                have et : mx_tm ka (mi - fa) = 1 := by unfold mx_tm; (repeat' split) <;> omega
                have ez : (mx_sd (fun x => mx_w cn go ch s x) (pl - 1) ka pa fa mi xa sd) = (mx_pk (mx_w cn go ch s xa) (mx_v sd) xa, mx_d sd) := by
                  unfold mx_sd
                  rw [if_neg (by omega), if_pos (by omega)]
                  rw [et]
                  rw [mx_go_n (by omega)]
                  rfl
                rw [ez]
                exact ik_Wret rfl rfl ⟨_, _, rfl, rfl, rfl, rfl, ⟨rfl, g_53_14, g_53_16, fr_53⟩⟩
          · refine ik_Wk 2 (pc' := 23) (loc' := [some (fI ka), some (fI (mi - fa))]) (st' := [fI 0]) (h' := h) (cl' := 0) (sl' := 0) rfl ?_
            refine ik_Wret rfl rfl ⟨_, _, rfl, rfl, ?_⟩
            refine ik_Wk 0 (pc' := 55) (loc' := [some (.ref 14), some (fI 0), some (fI (mi - fa)), none, none]) (st' := [fI 0]) (h' := h) (cl' := 0) (sl' := 0) rfl ?_
            refine ik_Wk 5 (pc' := 62) (loc' := [some (.ref 14), some (fI 0), some (fI (mi - fa)), some (fI 0), some (fI 0)]) (st' := [fI 0, fI 0]) (h' := h) (cl' := 0) (sl' := 0) rfl ?_
            refine fw_ic_ge rfl rfl (by omega) (by omega) (by omega) (by omega) (fun hc27 => ?_) (fun hc27 => absurd hc27 (by omega))
            have et : mx_tm ka (mi - fa) = 0 := by unfold mx_tm; (repeat' split) <;> omega
            have ez : (mx_sd (fun x => mx_w cn go ch s x) (pl - 1) ka pa fa mi xa sd) = (xa, sd) := by
              unfold mx_sd
              rw [if_neg (by omega), if_pos (by omega)]
              rw [et]
              rfl
            rw [ez]
            exact ik_Wret rfl rfl ⟨_, _, rfl, rfl, rfl, rfl, ⟨rfl, h14, h16, (hfr_refl [14, 16] h)⟩⟩
        · refine ik_Wk 1 (pc' := 23) (loc' := [some (fI ka), some (fI (mi - fa))]) (st' := [fI 1]) (h' := h) (cl' := 0) (sl' := 0) rfl ?_
          refine ik_Wret rfl rfl ⟨_, _, rfl, rfl, ?_⟩
          refine ik_Wk 0 (pc' := 55) (loc' := [some (.ref 14), some (fI 0), some (fI (mi - fa)), none, none]) (st' := [fI 1]) (h' := h) (cl' := 0) (sl' := 0) rfl ?_
          refine ik_Wk 5 (pc' := 62) (loc' := [some (.ref 14), some (fI 0), some (fI (mi - fa)), some (fI 1), some (fI 0)]) (st' := [fI 1, fI 0]) (h' := h) (cl' := 0) (sl' := 0) rfl ?_
          refine fw_ic_ge rfl rfl (by omega) (by omega) (by omega) (by omega) (fun hc28 => absurd hc28 (by omega)) (fun hc28 => ?_)
          refine ik_Wk 1 (pc' := 66) (loc' := [some (.ref 14), some (fI 0), some (fI (mi - fa)), some (fI 1), some (fI 0)]) (st' := [.ref 14]) (h' := h) (cl' := 0) (sl' := 0) rfl ?_
          refine fw_gf rfl rfl h14 rfl ?_
          refine ik_Wk 1 (pc' := 70) (loc' := [some (.ref 14), some (fI 0), some (fI (mi - fa)), some (fI 1), some (fI 0)]) (st' := [.ref 14, .ref 7]) (h' := h) (cl' := 0) (sl' := 0) rfl ?_
          refine fw_gf rfl rfl h14 rfl ?_
          refine ik_Wk 1 (pc' := 74) (loc' := [some (.ref 14), some (fI 0), some (fI (mi - fa)), some (fI 1), some (fI 0)]) (st' := [fI 0, .ref 16, .ref 7]) (h' := h) (cl' := 0) (sl' := 0) rfl ?_
          refine fw_ial (z := 0) rfl h16 (by decide) (Nat.le_of_ble_eq_true rfl) (by decide) ?_
          refine ik_Wk 0 (pc' := 75) (loc' := [some (.ref 14), some (fI 0), some (fI (mi - fa)), some (fI 1), some (fI 0)]) (st' := [fI xa, .ref 7]) (h' := h) (cl' := 0) (sl' := 0) rfl ?_
          refine ik_Wc 4 2 0 [.ref 7, fI xa] [] rfl rfl rfl (by decide) rfl rfl (fw_rec hl rfl h7 rfl (by decide)) ?_
          refine ik_Wk 0 (pc' := 0) (loc' := [some (.ref 7), some (fI xa)]) (st' := []) (h' := h) (cl' := 0) (sl' := 0) rfl ?_
          refine ik_Wk 1 (pc' := 1) (loc' := [some (.ref 7), some (fI xa)]) (st' := [fI xa]) (h' := h) (cl' := 0) (sl' := 0) rfl ?_
          refine fw_if_lt rfl rfl (by omega) (by omega) (fun hc29 => ?_) (fun hc29 => ?_)
          · refine ik_Wk 1 (pc' := 19) (loc' := [some (.ref 7), some (fI xa)]) (st' := [fI 0]) (h' := h) (cl' := 0) (sl' := 0) rfl ?_
            refine ik_Wret rfl rfl ⟨_, _, rfl, rfl, ?_⟩
            refine ik_Wk 0 (pc' := 78) (loc' := [some (.ref 14), some (fI 0), some (fI (mi - fa)), some (fI 1), some (fI 0)]) (st' := [fI 0]) (h' := h) (cl' := 0) (sl' := 0) rfl ?_
            refine fw_if_eq rfl rfl (by omega) (by omega) (fun hc30 => ?_) (fun hc30 => absurd hc30 (by omega))
            have et : mx_tm ka (mi - fa) = 1 := by unfold mx_tm; (repeat' split) <;> omega
            have ez : (mx_sd (fun x => mx_w cn go ch s x) (pl - 1) ka pa fa mi xa sd) = (xa, sd) := by
              unfold mx_sd
              rw [if_neg (by omega), if_pos (by omega)]
              rw [et]
              exact mx_go_b (by omega)
            rw [ez]
            exact ik_Wret rfl rfl ⟨_, _, rfl, rfl, rfl, rfl, ⟨rfl, h14, h16, (hfr_refl [14, 16] h)⟩⟩
          · refine ik_Wk 2 (pc' := 6) (loc' := [some (.ref 7), some (fI xa)]) (st' := [.ref 7, fI xa]) (h' := h) (cl' := 0) (sl' := 0) rfl ?_
            refine fw_gf rfl rfl h7 rfl ?_
            refine ik_Wk 1 (pc' := 10) (loc' := [some (.ref 7), some (fI xa)]) (st' := [fI 1, fI pl, fI xa]) (h' := h) (cl' := 0) (sl' := 0) rfl ?_
            refine fw_sub rfl ?_
            refine fw_ic_ge rfl rfl (by omega) (by omega) (by omega) (by omega) (fun hc31 => ?_) (fun hc31 => ?_)
            · refine ik_Wk 1 (pc' := 19) (loc' := [some (.ref 7), some (fI xa)]) (st' := [fI 0]) (h' := h) (cl' := 0) (sl' := 0) rfl ?_
              refine ik_Wret rfl rfl ⟨_, _, rfl, rfl, ?_⟩
              refine ik_Wk 0 (pc' := 78) (loc' := [some (.ref 14), some (fI 0), some (fI (mi - fa)), some (fI 1), some (fI 0)]) (st' := [fI 0]) (h' := h) (cl' := 0) (sl' := 0) rfl ?_
              refine fw_if_eq rfl rfl (by omega) (by omega) (fun hc32 => ?_) (fun hc32 => absurd hc32 (by omega))
              have et : mx_tm ka (mi - fa) = 1 := by unfold mx_tm; (repeat' split) <;> omega
              have ez : (mx_sd (fun x => mx_w cn go ch s x) (pl - 1) ka pa fa mi xa sd) = (xa, sd) := by
                unfold mx_sd
                rw [if_neg (by omega), if_pos (by omega)]
                rw [et]
                exact mx_go_b (by omega)
              rw [ez]
              exact ik_Wret rfl rfl ⟨_, _, rfl, rfl, rfl, rfl, ⟨rfl, h14, h16, (hfr_refl [14, 16] h)⟩⟩
            · refine ik_Wk 2 (pc' := 19) (loc' := [some (.ref 7), some (fI xa)]) (st' := [fI 1]) (h' := h) (cl' := 0) (sl' := 0) rfl ?_
              refine ik_Wret rfl rfl ⟨_, _, rfl, rfl, ?_⟩
              refine ik_Wk 0 (pc' := 78) (loc' := [some (.ref 14), some (fI 0), some (fI (mi - fa)), some (fI 1), some (fI 0)]) (st' := [fI 1]) (h' := h) (cl' := 0) (sl' := 0) rfl ?_
              refine fw_if_eq rfl rfl (by omega) (by omega) (fun hc33 => absurd hc33 (by omega)) (fun hc33 => ?_)
              refine ik_Wk 1 (pc' := 82) (loc' := [some (.ref 14), some (fI 0), some (fI (mi - fa)), some (fI 1), some (fI 0)]) (st' := [.ref 14]) (h' := h) (cl' := 0) (sl' := 0) rfl ?_
              refine fw_gf rfl rfl h14 rfl ?_
              refine ik_Wk 2 (pc' := 87) (loc' := [some (.ref 14), some (fI 0), some (fI (mi - fa)), some (fI 1), some (fI 0)]) (st' := [.ref 14, fI 0, .ref 16]) (h' := h) (cl' := 0) (sl' := 0) rfl ?_
              refine fw_gf rfl rfl h14 rfl ?_
              refine ik_Wk 1 (pc' := 91) (loc' := [some (.ref 14), some (fI 0), some (fI (mi - fa)), some (fI 1), some (fI 0)]) (st' := [.ref 14, .ref 7, fI 0, .ref 16]) (h' := h) (cl' := 0) (sl' := 0) rfl ?_
              refine fw_gf rfl rfl h14 rfl ?_
              refine ik_Wk 1 (pc' := 95) (loc' := [some (.ref 14), some (fI 0), some (fI (mi - fa)), some (fI 1), some (fI 0)]) (st' := [fI 0, .ref 16, .ref 7, fI 0, .ref 16]) (h' := h) (cl' := 0) (sl' := 0) rfl ?_
              refine fw_ial (z := 0) rfl h16 (by decide) (Nat.le_of_ble_eq_true rfl) (by decide) ?_
              refine ik_Wk 0 (pc' := 96) (loc' := [some (.ref 14), some (fI 0), some (fI (mi - fa)), some (fI 1), some (fI 0)]) (st' := [fI xa, .ref 7, fI 0, .ref 16]) (h' := h) (cl' := 0) (sl' := 0) rfl ?_
              refine ik_Wk 1 (pc' := 97) (loc' := [some (.ref 14), some (fI 0), some (fI (mi - fa)), some (fI 1), some (fI 0)]) (st' := [.ref 14, fI xa, .ref 7, fI 0, .ref 16]) (h' := h) (cl' := 0) (sl' := 0) rfl ?_
              refine fw_call 27 1 0 [.ref 14] [fI xa, .ref 7, fI 0, .ref 16] rfl rfl rfl (by decide) rfl rfl (fw_rec hl rfl h14 rfl (by decide)) (cs_draw (mi := mi) (sd := sd) (by omega) h14 hl) ?_
              rintro _ h_54 ⟨rfl, e_54_14, F_54⟩
              have k_54 := F_54.1.trans hl
              have fr_54 := hfr_c (hfr_refl [14, 16] h) F_54 (by decide)
              have g_54_7 := (F_54.2 7 (by decide +kernel)).trans h7
              have g_54_11 := (F_54.2 11 (by decide +kernel)).trans h11
              have g_54_12 := (F_54.2 12 (by decide +kernel)).trans h12
              have g_54_13 := (F_54.2 13 (by decide +kernel)).trans h13
              have g_54_15 := (F_54.2 15 (by decide +kernel)).trans h15
              have g_54_16 := (F_54.2 16 (by decide +kernel)).trans h16
              have g_54_14 : cE h_54 14 (.inr (1, [.ref 7, .ref 15, .ref 16, fI mi, fJ (mx_d sd)])) := e_54_14
              refine ik_Wk 0 (pc' := 100) (loc' := [some (.ref 14), some (fI 0), some (fI (mi - fa)), some (fI 1), some (fI 0)]) (st' := [fI (mx_v sd), fI xa, .ref 7, fI 0, .ref 16]) (h' := h_54) (cl' := 0) (sl' := 0) rfl ?_
              refine fw_call 18 3 0 [.ref 7, fI xa, fI (mx_v sd)] [fI 0, .ref 16] rfl rfl rfl (by decide) rfl rfl (fw_rec k_54 rfl g_54_7 rfl (by decide)) (cs_goalBy (p := xa) (d := mx_v sd) (pl := pl) (lo := lo) (s := s) (wg := wg) (wc := wc) (we := we) (L := (mx_w cn go ch s xa)) (by omega) (by omega) (mx_v_b _).1 (mx_v_b _).2 (q4 _ (by omega) (by omega)) (q5 _ (by omega) (by omega)) g_54_7 g_54_11 n11 g_54_12 n12 g_54_13 n13 k_54) ?_
              rintro _ h_55 ⟨rfl, F_55⟩
              have k_55 := F_55.1.trans k_54
              have fr_55 := hfr_c fr_54 F_55 (by decide)
              have g_55_7 := (F_55.2 7 (by decide +kernel)).trans g_54_7
              have g_55_11 := (F_55.2 11 (by decide +kernel)).trans g_54_11
              have g_55_12 := (F_55.2 12 (by decide +kernel)).trans g_54_12
              have g_55_13 := (F_55.2 13 (by decide +kernel)).trans g_54_13
              have g_55_14 := (F_55.2 14 (by decide +kernel)).trans g_54_14
              have g_55_15 := (F_55.2 15 (by decide +kernel)).trans g_54_15
              have g_55_16 := (F_55.2 16 (by decide +kernel)).trans g_54_16
              refine ik_Wk 0 (pc' := 103) (loc' := [some (.ref 14), some (fI 0), some (fI (mi - fa)), some (fI 1), some (fI 0)]) (st' := [fI (mx_pk (mx_w cn go ch s xa) (mx_v sd) xa), fI 0, .ref 16]) (h' := h_55) (cl' := 0) (sl' := 0) rfl ?_
              have hp55 := mx_pk_in (f := xa) (q5 xa (by omega) (by omega)) (mx_v_b sd).1 (mx_v_b sd).2
              have hz55 := mx_d_b sd
              refine fx_ias (z := 0) rfl g_55_16 (by decide) (Nat.le_of_ble_eq_true rfl) (by decide) ?_
              intro h_56 e_56 f_56 l_56
              have k_56 := l_56.trans k_55
              have fr_56 := hfr_w fr_55 f_56 l_56 (by decide)
              have g_56_7 := (f_56 7 (by decide)).trans g_55_7
              have g_56_11 := (f_56 11 (by decide)).trans g_55_11
              have g_56_12 := (f_56 12 (by decide)).trans g_55_12
              have g_56_13 := (f_56 13 (by decide)).trans g_55_13
              have g_56_14 := (f_56 14 (by decide)).trans g_55_14
              have g_56_15 := (f_56 15 (by decide)).trans g_55_15
              have g_56_16 : cE h_56 16 (.inl (.int, fA [mx_pk (mx_w cn go ch s xa) (mx_v sd) xa, xb])) := e_56
              refine fw_inc (a := 0) (loc' := [some (.ref 14), some (fI 0), some (fI (mi - fa)), some (fI 1), some (fI 1)]) rfl rfl (Nat.le_of_ble_eq_true rfl) rfl ?_
              refine ik_Wk 3 (pc' := 62) (loc' := [some (.ref 14), some (fI 0), some (fI (mi - fa)), some (fI 1), some (fI 1)]) (st' := [fI 1, fI 1]) (h' := h_56) (cl' := 0) (sl' := 0) rfl ?_
              refine fw_ic_ge rfl rfl (by omega) (by omega) (by omega) (by omega) (fun hc34 => ?_) (fun hc34 => absurd hc34 (by omega))
              have et : mx_tm ka (mi - fa) = 1 := by unfold mx_tm; (repeat' split) <;> omega
              have ez : (mx_sd (fun x => mx_w cn go ch s x) (pl - 1) ka pa fa mi xa sd) = (mx_pk (mx_w cn go ch s xa) (mx_v sd) xa, mx_d sd) := by
                unfold mx_sd
                rw [if_neg (by omega), if_pos (by omega)]
                rw [et]
                rw [mx_go_n (by omega)]
                rfl
              rw [ez]
              exact ik_Wret rfl rfl ⟨_, _, rfl, rfl, rfl, rfl, ⟨rfl, g_56_14, g_56_16, fr_56⟩⟩
    · have ez : (mx_sd (fun x => mx_w cn go ch s x) (pl - 1) ka pa fa mi xa sd) = (xa, sd) := by
        unfold mx_sd
        rw [if_neg (by omega), if_neg (by omega)]
      rw [ez]
      exact ik_Wret rfl rfl ⟨_, _, rfl, rfl, rfl, rfl, ⟨rfl, h14, h16, (hfr_refl [14, 16] h)⟩⟩

theorem cs_pass1 {h : List ik_E} {pl : Int} {mi : Int} {sd : Int} {ka : Int} {pa : Int} {fa : Int} {kb : Int} {pb : Int} {fb : Int} {xa : Int} {xb : Int} {s : Nat} {cn : List Int} {go : List Int} {ch : List Int} {lo : Int} {wg : List Int} {wc : List Int} {we : List Int} (q0 : 2 ≤ pl ∧ pl ≤ 12) (q1 : s < 4096) (q2 : 0 ≤ sd ∧ sd < 2147483648) (q3 : 0 ≤ mi ∧ mi < 2000000000) (q4 : ∀ x : Int, 0 ≤ x → x < pl - 1 → mx_wy wg wc we x (mx_w cn go ch s x)) (q5 : ∀ x : Int, 0 ≤ x → x < pl - 1 → mx_ok pl (mx_w cn go ch s x)) (q6 : 0 ≤ kb ∧ kb ≤ 2) (q7 : 0 ≤ fb ∧ fb ≤ 30) (q8 : fb < mi → 0 ≤ xb ∧ xb < pl) (h7 : cE h 7 (.inr (0, [fI pl, fI ((s : Nat) : Int), fI lo, .ref 8, .ref 9, .ref 10, .ref 11, .ref 12, .ref 13]))) (h11 : cE h 11 (.inl (.int, fA wg))) (n11 : wg.length = 60) (h12 : cE h 12 (.inl (.int, fA wc))) (n12 : wc.length = 60) (h13 : cE h 13 (.inl (.int, fA we))) (n13 : we.length = 12) (h14 : cE h 14 (.inr (1, [.ref 7, .ref 15, .ref 16, fI mi, fJ sd]))) (h15 : cE h 15 (.inl (.int, fA [ka, pa, fa, kb, pb, fb]))) (h16 : cE h 16 (.inl (.int, fA [xa, xb]))) (hl : h.length = 94) : ik_F 26 [.ref 14, fI 1] h (fun rv h' => rv = [] ∧ cE h' 14 (.inr (1, [.ref 7, .ref 15, .ref 16, fI mi, fJ ((mx_sd (fun x => mx_w cn go ch s x) (pl - 1) kb pb fb mi xb sd).2)])) ∧ cE h' 16 (.inl (.int, fA [xa, (mx_sd (fun x => mx_w cn go ch s x) (pl - 1) kb pb fb mi xb sd).1])) ∧ hfr [14, 16] h h') := by
  refine ik_Wk 1 (pc' := 1) (loc' := [some (.ref 14), some (fI 1), none, none, none]) (st' := [.ref 14]) (h' := h) (cl' := 0) (sl' := 0) rfl ?_
  refine fw_gf rfl rfl h14 rfl ?_
  refine ik_Wk 1 (pc' := 5) (loc' := [some (.ref 14), some (fI 1), none, none, none]) (st' := [.ref 14, fI mi]) (h' := h) (cl' := 0) (sl' := 0) rfl ?_
  refine fw_gf rfl rfl h14 rfl ?_
  refine ik_Wk 2 (pc' := 10) (loc' := [some (.ref 14), some (fI 1), none, none, none]) (st' := [fI 3, fI 1, .ref 15, fI mi]) (h' := h) (cl' := 0) (sl' := 0) rfl ?_
  refine fw_mul rfl ?_
  refine ik_Wk 1 (pc' := 12) (loc' := [some (.ref 14), some (fI 1), none, none, none]) (st' := [fI 2, fI 3, .ref 15, fI mi]) (h' := h) (cl' := 0) (sl' := 0) rfl ?_
  refine fw_add rfl ?_
  refine fw_ial (z := 5) rfl h15 (by decide) (Nat.le_of_ble_eq_true rfl) (by decide) ?_
  refine ik_Wk 0 (pc' := 14) (loc' := [some (.ref 14), some (fI 1), none, none, none]) (st' := [fI fb, fI mi]) (h' := h) (cl' := 0) (sl' := 0) rfl ?_
  refine fw_sub rfl ?_
  refine ik_Wk 2 (pc' := 17) (loc' := [some (.ref 14), some (fI 1), some (fI (mi - fb)), none, none]) (st' := [fI (mi - fb)]) (h' := h) (cl' := 0) (sl' := 0) rfl ?_
  refine fw_if_ne rfl rfl (by omega) (by omega) (fun hc1 => ?_) (fun hc1 => ?_)
  · refine ik_Wk 1 (pc' := 21) (loc' := [some (.ref 14), some (fI 1), some (fI (mi - fb)), none, none]) (st' := [.ref 14]) (h' := h) (cl' := 0) (sl' := 0) rfl ?_
    refine fw_gf rfl rfl h14 rfl ?_
    refine ik_Wk 2 (pc' := 26) (loc' := [some (.ref 14), some (fI 1), some (fI (mi - fb)), none, none]) (st' := [.ref 14, fI 1, .ref 16]) (h' := h) (cl' := 0) (sl' := 0) rfl ?_
    refine fw_gf rfl rfl h14 rfl ?_
    refine ik_Wk 2 (pc' := 31) (loc' := [some (.ref 14), some (fI 1), some (fI (mi - fb)), none, none]) (st' := [fI 3, fI 1, .ref 15, fI 1, .ref 16]) (h' := h) (cl' := 0) (sl' := 0) rfl ?_
    refine fw_mul rfl ?_
    refine ik_Wk 1 (pc' := 33) (loc' := [some (.ref 14), some (fI 1), some (fI (mi - fb)), none, none]) (st' := [fI 1, fI 3, .ref 15, fI 1, .ref 16]) (h' := h) (cl' := 0) (sl' := 0) rfl ?_
    refine fw_add rfl ?_
    refine fw_ial (z := 4) rfl h15 (by decide) (Nat.le_of_ble_eq_true rfl) (by decide) ?_
    refine ik_Wk 0 (pc' := 35) (loc' := [some (.ref 14), some (fI 1), some (fI (mi - fb)), none, none]) (st' := [fI pb, fI 1, .ref 16]) (h' := h) (cl' := 0) (sl' := 0) rfl ?_
    refine fx_ias (z := 1) rfl h16 (by decide) (Nat.le_of_ble_eq_true rfl) (by decide) ?_
    intro h_57 e_57 f_57 l_57
    have k_57 := l_57.trans hl
    have fr_57 := hfr_w (hfr_refl [14, 16] h) f_57 l_57 (by decide)
    have g_57_7 := (f_57 7 (by decide)).trans h7
    have g_57_11 := (f_57 11 (by decide)).trans h11
    have g_57_12 := (f_57 12 (by decide)).trans h12
    have g_57_13 := (f_57 13 (by decide)).trans h13
    have g_57_14 := (f_57 14 (by decide)).trans h14
    have g_57_15 := (f_57 15 (by decide)).trans h15
    have g_57_16 : cE h_57 16 (.inl (.int, fA [xa, pb])) := e_57
    refine ik_Wk 1 (pc' := 37) (loc' := [some (.ref 14), some (fI 1), some (fI (mi - fb)), none, none]) (st' := [fI (mi - fb)]) (h' := h_57) (cl' := 0) (sl' := 0) rfl ?_
    refine fw_if_gt rfl rfl (by omega) (by omega) (fun hc2 => absurd hc2 (by omega)) (fun hc2 => ?_)
    have ez : (mx_sd (fun x => mx_w cn go ch s x) (pl - 1) kb pb fb mi xb sd) = (pb, sd) := by
      unfold mx_sd
      rw [if_pos (by omega)]
    rw [ez]
    exact ik_Wret rfl rfl ⟨_, _, rfl, rfl, rfl, rfl, ⟨rfl, g_57_14, g_57_16, fr_57⟩⟩
  · refine ik_Wk 1 (pc' := 37) (loc' := [some (.ref 14), some (fI 1), some (fI (mi - fb)), none, none]) (st' := [fI (mi - fb)]) (h' := h) (cl' := 0) (sl' := 0) rfl ?_
    refine fw_if_gt rfl rfl (by omega) (by omega) (fun hc3 => ?_) (fun hc3 => ?_)
    · refine ik_Wk 1 (pc' := 42) (loc' := [some (.ref 14), some (fI 1), some (fI (mi - fb)), none, none]) (st' := [.ref 14]) (h' := h) (cl' := 0) (sl' := 0) rfl ?_
      refine fw_gf rfl rfl h14 rfl ?_
      refine ik_Wk 2 (pc' := 47) (loc' := [some (.ref 14), some (fI 1), some (fI (mi - fb)), none, none]) (st' := [fI 3, fI 1, .ref 15]) (h' := h) (cl' := 0) (sl' := 0) rfl ?_
      refine fw_mul rfl ?_
      refine ik_Wk 1 (pc' := 49) (loc' := [some (.ref 14), some (fI 1), some (fI (mi - fb)), none, none]) (st' := [fI 0, fI 3, .ref 15]) (h' := h) (cl' := 0) (sl' := 0) rfl ?_
      refine fw_add rfl ?_
      refine fw_ial (z := 3) rfl h15 (by decide) (Nat.le_of_ble_eq_true rfl) (by decide) ?_
      refine ik_Wk 0 (pc' := 51) (loc' := [some (.ref 14), some (fI 1), some (fI (mi - fb)), none, none]) (st' := [fI kb]) (h' := h) (cl' := 0) (sl' := 0) rfl ?_
      refine ik_Wk 1 (pc' := 52) (loc' := [some (.ref 14), some (fI 1), some (fI (mi - fb)), none, none]) (st' := [fI (mi - fb), fI kb]) (h' := h) (cl' := 0) (sl' := 0) rfl ?_
      refine ik_Wc 125 2 4 [fI kb, fI (mi - fb)] [] rfl rfl rfl (by decide) rfl rfl (fw_sta hl rfl (by decide)) ?_
      refine ik_Wk 0 (pc' := 0) (loc' := [some (fI kb), some (fI (mi - fb))]) (st' := []) (h' := h) (cl' := 0) (sl' := 0) rfl ?_
      refine ik_Wk 2 (pc' := 2) (loc' := [some (fI kb), some (fI (mi - fb))]) (st' := [fI 1, fI kb]) (h' := h) (cl' := 0) (sl' := 0) rfl ?_
      refine fw_ic_ne rfl rfl (by omega) (by omega) (by omega) (by omega) (fun hc4 => ?_) (fun hc4 => ?_)
      · refine ik_Wk 1 (pc' := 6) (loc' := [some (fI kb), some (fI (mi - fb))]) (st' := [fI 2]) (h' := h) (cl' := 0) (sl' := 0) rfl ?_
        refine ik_Wret rfl rfl ⟨_, _, rfl, rfl, ?_⟩
        refine ik_Wk 0 (pc' := 55) (loc' := [some (.ref 14), some (fI 1), some (fI (mi - fb)), none, none]) (st' := [fI 2]) (h' := h) (cl' := 0) (sl' := 0) rfl ?_
        refine ik_Wk 5 (pc' := 62) (loc' := [some (.ref 14), some (fI 1), some (fI (mi - fb)), some (fI 2), some (fI 0)]) (st' := [fI 2, fI 0]) (h' := h) (cl' := 0) (sl' := 0) rfl ?_
        refine fw_ic_ge rfl rfl (by omega) (by omega) (by omega) (by omega) (fun hc5 => absurd hc5 (by omega)) (fun hc5 => ?_)
        refine ik_Wk 1 (pc' := 66) (loc' := [some (.ref 14), some (fI 1), some (fI (mi - fb)), some (fI 2), some (fI 0)]) (st' := [.ref 14]) (h' := h) (cl' := 0) (sl' := 0) rfl ?_
        refine fw_gf rfl rfl h14 rfl ?_
        refine ik_Wk 1 (pc' := 70) (loc' := [some (.ref 14), some (fI 1), some (fI (mi - fb)), some (fI 2), some (fI 0)]) (st' := [.ref 14, .ref 7]) (h' := h) (cl' := 0) (sl' := 0) rfl ?_
        refine fw_gf rfl rfl h14 rfl ?_
        refine ik_Wk 1 (pc' := 74) (loc' := [some (.ref 14), some (fI 1), some (fI (mi - fb)), some (fI 2), some (fI 0)]) (st' := [fI 1, .ref 16, .ref 7]) (h' := h) (cl' := 0) (sl' := 0) rfl ?_
        refine fw_ial (z := 1) rfl h16 (by decide) (Nat.le_of_ble_eq_true rfl) (by decide) ?_
        refine ik_Wk 0 (pc' := 75) (loc' := [some (.ref 14), some (fI 1), some (fI (mi - fb)), some (fI 2), some (fI 0)]) (st' := [fI xb, .ref 7]) (h' := h) (cl' := 0) (sl' := 0) rfl ?_
        refine ik_Wc 4 2 0 [.ref 7, fI xb] [] rfl rfl rfl (by decide) rfl rfl (fw_rec hl rfl h7 rfl (by decide)) ?_
        refine ik_Wk 0 (pc' := 0) (loc' := [some (.ref 7), some (fI xb)]) (st' := []) (h' := h) (cl' := 0) (sl' := 0) rfl ?_
        refine ik_Wk 1 (pc' := 1) (loc' := [some (.ref 7), some (fI xb)]) (st' := [fI xb]) (h' := h) (cl' := 0) (sl' := 0) rfl ?_
        refine fw_if_lt rfl rfl (by omega) (by omega) (fun hc6 => ?_) (fun hc6 => ?_)
        · refine ik_Wk 1 (pc' := 19) (loc' := [some (.ref 7), some (fI xb)]) (st' := [fI 0]) (h' := h) (cl' := 0) (sl' := 0) rfl ?_
          refine ik_Wret rfl rfl ⟨_, _, rfl, rfl, ?_⟩
          refine ik_Wk 0 (pc' := 78) (loc' := [some (.ref 14), some (fI 1), some (fI (mi - fb)), some (fI 2), some (fI 0)]) (st' := [fI 0]) (h' := h) (cl' := 0) (sl' := 0) rfl ?_
          refine fw_if_eq rfl rfl (by omega) (by omega) (fun hc7 => ?_) (fun hc7 => absurd hc7 (by omega))
          have et : mx_tm kb (mi - fb) = 2 := by unfold mx_tm; (repeat' split) <;> omega
          have ez : (mx_sd (fun x => mx_w cn go ch s x) (pl - 1) kb pb fb mi xb sd) = (xb, sd) := by
            unfold mx_sd
            rw [if_neg (by omega), if_pos (by omega)]
            rw [et]
            exact mx_go_b (by omega)
          rw [ez]
          exact ik_Wret rfl rfl ⟨_, _, rfl, rfl, rfl, rfl, ⟨rfl, h14, h16, (hfr_refl [14, 16] h)⟩⟩
        · refine ik_Wk 2 (pc' := 6) (loc' := [some (.ref 7), some (fI xb)]) (st' := [.ref 7, fI xb]) (h' := h) (cl' := 0) (sl' := 0) rfl ?_
          refine fw_gf rfl rfl h7 rfl ?_
          refine ik_Wk 1 (pc' := 10) (loc' := [some (.ref 7), some (fI xb)]) (st' := [fI 1, fI pl, fI xb]) (h' := h) (cl' := 0) (sl' := 0) rfl ?_
          refine fw_sub rfl ?_
          refine fw_ic_ge rfl rfl (by omega) (by omega) (by omega) (by omega) (fun hc8 => ?_) (fun hc8 => ?_)
          · refine ik_Wk 1 (pc' := 19) (loc' := [some (.ref 7), some (fI xb)]) (st' := [fI 0]) (h' := h) (cl' := 0) (sl' := 0) rfl ?_
            refine ik_Wret rfl rfl ⟨_, _, rfl, rfl, ?_⟩
            refine ik_Wk 0 (pc' := 78) (loc' := [some (.ref 14), some (fI 1), some (fI (mi - fb)), some (fI 2), some (fI 0)]) (st' := [fI 0]) (h' := h) (cl' := 0) (sl' := 0) rfl ?_
            refine fw_if_eq rfl rfl (by omega) (by omega) (fun hc9 => ?_) (fun hc9 => absurd hc9 (by omega))
            have et : mx_tm kb (mi - fb) = 2 := by unfold mx_tm; (repeat' split) <;> omega
            have ez : (mx_sd (fun x => mx_w cn go ch s x) (pl - 1) kb pb fb mi xb sd) = (xb, sd) := by
              unfold mx_sd
              rw [if_neg (by omega), if_pos (by omega)]
              rw [et]
              exact mx_go_b (by omega)
            rw [ez]
            exact ik_Wret rfl rfl ⟨_, _, rfl, rfl, rfl, rfl, ⟨rfl, h14, h16, (hfr_refl [14, 16] h)⟩⟩
          · refine ik_Wk 2 (pc' := 19) (loc' := [some (.ref 7), some (fI xb)]) (st' := [fI 1]) (h' := h) (cl' := 0) (sl' := 0) rfl ?_
            refine ik_Wret rfl rfl ⟨_, _, rfl, rfl, ?_⟩
            refine ik_Wk 0 (pc' := 78) (loc' := [some (.ref 14), some (fI 1), some (fI (mi - fb)), some (fI 2), some (fI 0)]) (st' := [fI 1]) (h' := h) (cl' := 0) (sl' := 0) rfl ?_
            refine fw_if_eq rfl rfl (by omega) (by omega) (fun hc10 => absurd hc10 (by omega)) (fun hc10 => ?_)
            refine ik_Wk 1 (pc' := 82) (loc' := [some (.ref 14), some (fI 1), some (fI (mi - fb)), some (fI 2), some (fI 0)]) (st' := [.ref 14]) (h' := h) (cl' := 0) (sl' := 0) rfl ?_
            refine fw_gf rfl rfl h14 rfl ?_
            refine ik_Wk 2 (pc' := 87) (loc' := [some (.ref 14), some (fI 1), some (fI (mi - fb)), some (fI 2), some (fI 0)]) (st' := [.ref 14, fI 1, .ref 16]) (h' := h) (cl' := 0) (sl' := 0) rfl ?_
            refine fw_gf rfl rfl h14 rfl ?_
            refine ik_Wk 1 (pc' := 91) (loc' := [some (.ref 14), some (fI 1), some (fI (mi - fb)), some (fI 2), some (fI 0)]) (st' := [.ref 14, .ref 7, fI 1, .ref 16]) (h' := h) (cl' := 0) (sl' := 0) rfl ?_
            refine fw_gf rfl rfl h14 rfl ?_
            refine ik_Wk 1 (pc' := 95) (loc' := [some (.ref 14), some (fI 1), some (fI (mi - fb)), some (fI 2), some (fI 0)]) (st' := [fI 1, .ref 16, .ref 7, fI 1, .ref 16]) (h' := h) (cl' := 0) (sl' := 0) rfl ?_
            refine fw_ial (z := 1) rfl h16 (by decide) (Nat.le_of_ble_eq_true rfl) (by decide) ?_
            refine ik_Wk 0 (pc' := 96) (loc' := [some (.ref 14), some (fI 1), some (fI (mi - fb)), some (fI 2), some (fI 0)]) (st' := [fI xb, .ref 7, fI 1, .ref 16]) (h' := h) (cl' := 0) (sl' := 0) rfl ?_
            refine ik_Wk 1 (pc' := 97) (loc' := [some (.ref 14), some (fI 1), some (fI (mi - fb)), some (fI 2), some (fI 0)]) (st' := [.ref 14, fI xb, .ref 7, fI 1, .ref 16]) (h' := h) (cl' := 0) (sl' := 0) rfl ?_
            refine fw_call 27 1 0 [.ref 14] [fI xb, .ref 7, fI 1, .ref 16] rfl rfl rfl (by decide) rfl rfl (fw_rec hl rfl h14 rfl (by decide)) (cs_draw (mi := mi) (sd := sd) (by omega) h14 hl) ?_
            rintro _ h_58 ⟨rfl, e_58_14, F_58⟩
            have k_58 := F_58.1.trans hl
            have fr_58 := hfr_c (hfr_refl [14, 16] h) F_58 (by decide)
            have g_58_7 := (F_58.2 7 (by decide +kernel)).trans h7
            have g_58_11 := (F_58.2 11 (by decide +kernel)).trans h11
            have g_58_12 := (F_58.2 12 (by decide +kernel)).trans h12
            have g_58_13 := (F_58.2 13 (by decide +kernel)).trans h13
            have g_58_15 := (F_58.2 15 (by decide +kernel)).trans h15
            have g_58_16 := (F_58.2 16 (by decide +kernel)).trans h16
            have g_58_14 : cE h_58 14 (.inr (1, [.ref 7, .ref 15, .ref 16, fI mi, fJ (mx_d sd)])) := e_58_14
            refine ik_Wk 0 (pc' := 100) (loc' := [some (.ref 14), some (fI 1), some (fI (mi - fb)), some (fI 2), some (fI 0)]) (st' := [fI (mx_v sd), fI xb, .ref 7, fI 1, .ref 16]) (h' := h_58) (cl' := 0) (sl' := 0) rfl ?_
            refine fw_call 18 3 0 [.ref 7, fI xb, fI (mx_v sd)] [fI 1, .ref 16] rfl rfl rfl (by decide) rfl rfl (fw_rec k_58 rfl g_58_7 rfl (by decide)) (cs_goalBy (p := xb) (d := mx_v sd) (pl := pl) (lo := lo) (s := s) (wg := wg) (wc := wc) (we := we) (L := (mx_w cn go ch s xb)) (by omega) (by omega) (mx_v_b _).1 (mx_v_b _).2 (q4 _ (by omega) (by omega)) (q5 _ (by omega) (by omega)) g_58_7 g_58_11 n11 g_58_12 n12 g_58_13 n13 k_58) ?_
            rintro _ h_59 ⟨rfl, F_59⟩
            have k_59 := F_59.1.trans k_58
            have fr_59 := hfr_c fr_58 F_59 (by decide)
            have g_59_7 := (F_59.2 7 (by decide +kernel)).trans g_58_7
            have g_59_11 := (F_59.2 11 (by decide +kernel)).trans g_58_11
            have g_59_12 := (F_59.2 12 (by decide +kernel)).trans g_58_12
            have g_59_13 := (F_59.2 13 (by decide +kernel)).trans g_58_13
            have g_59_14 := (F_59.2 14 (by decide +kernel)).trans g_58_14
            have g_59_15 := (F_59.2 15 (by decide +kernel)).trans g_58_15
            have g_59_16 := (F_59.2 16 (by decide +kernel)).trans g_58_16
            refine ik_Wk 0 (pc' := 103) (loc' := [some (.ref 14), some (fI 1), some (fI (mi - fb)), some (fI 2), some (fI 0)]) (st' := [fI (mx_pk (mx_w cn go ch s xb) (mx_v sd) xb), fI 1, .ref 16]) (h' := h_59) (cl' := 0) (sl' := 0) rfl ?_
            have hp59 := mx_pk_in (f := xb) (q5 xb (by omega) (by omega)) (mx_v_b sd).1 (mx_v_b sd).2
            have hz59 := mx_d_b sd
            refine fx_ias (z := 1) rfl g_59_16 (by decide) (Nat.le_of_ble_eq_true rfl) (by decide) ?_
            intro h_60 e_60 f_60 l_60
            have k_60 := l_60.trans k_59
            have fr_60 := hfr_w fr_59 f_60 l_60 (by decide)
            have g_60_7 := (f_60 7 (by decide)).trans g_59_7
            have g_60_11 := (f_60 11 (by decide)).trans g_59_11
            have g_60_12 := (f_60 12 (by decide)).trans g_59_12
            have g_60_13 := (f_60 13 (by decide)).trans g_59_13
            have g_60_14 := (f_60 14 (by decide)).trans g_59_14
            have g_60_15 := (f_60 15 (by decide)).trans g_59_15
            have g_60_16 : cE h_60 16 (.inl (.int, fA [xa, mx_pk (mx_w cn go ch s xb) (mx_v sd) xb])) := e_60
            refine fw_inc (a := 0) (loc' := [some (.ref 14), some (fI 1), some (fI (mi - fb)), some (fI 2), some (fI 1)]) rfl rfl (Nat.le_of_ble_eq_true rfl) rfl ?_
            refine ik_Wk 3 (pc' := 62) (loc' := [some (.ref 14), some (fI 1), some (fI (mi - fb)), some (fI 2), some (fI 1)]) (st' := [fI 2, fI 1]) (h' := h_60) (cl' := 0) (sl' := 0) rfl ?_
            refine fw_ic_ge rfl rfl (by omega) (by omega) (by omega) (by omega) (fun hc11 => absurd hc11 (by omega)) (fun hc11 => ?_)
            refine ik_Wk 1 (pc' := 66) (loc' := [some (.ref 14), some (fI 1), some (fI (mi - fb)), some (fI 2), some (fI 1)]) (st' := [.ref 14]) (h' := h_60) (cl' := 0) (sl' := 0) rfl ?_
            refine fw_gf rfl rfl g_60_14 rfl ?_
            refine ik_Wk 1 (pc' := 70) (loc' := [some (.ref 14), some (fI 1), some (fI (mi - fb)), some (fI 2), some (fI 1)]) (st' := [.ref 14, .ref 7]) (h' := h_60) (cl' := 0) (sl' := 0) rfl ?_
            refine fw_gf rfl rfl g_60_14 rfl ?_
            refine ik_Wk 1 (pc' := 74) (loc' := [some (.ref 14), some (fI 1), some (fI (mi - fb)), some (fI 2), some (fI 1)]) (st' := [fI 1, .ref 16, .ref 7]) (h' := h_60) (cl' := 0) (sl' := 0) rfl ?_
            refine fw_ial (z := 1) rfl g_60_16 (by decide) (Nat.le_of_ble_eq_true rfl) (by decide) ?_
            refine ik_Wk 0 (pc' := 75) (loc' := [some (.ref 14), some (fI 1), some (fI (mi - fb)), some (fI 2), some (fI 1)]) (st' := [fI (mx_pk (mx_w cn go ch s xb) (mx_v sd) xb), .ref 7]) (h' := h_60) (cl' := 0) (sl' := 0) rfl ?_
            refine ik_Wc 4 2 0 [.ref 7, fI (mx_pk (mx_w cn go ch s xb) (mx_v sd) xb)] [] rfl rfl rfl (by decide) rfl rfl (fw_rec k_60 rfl g_60_7 rfl (by decide)) ?_
            refine ik_Wk 0 (pc' := 0) (loc' := [some (.ref 7), some (fI (mx_pk (mx_w cn go ch s xb) (mx_v sd) xb))]) (st' := []) (h' := h_60) (cl' := 0) (sl' := 0) rfl ?_
            refine ik_Wk 1 (pc' := 1) (loc' := [some (.ref 7), some (fI (mx_pk (mx_w cn go ch s xb) (mx_v sd) xb))]) (st' := [fI (mx_pk (mx_w cn go ch s xb) (mx_v sd) xb)]) (h' := h_60) (cl' := 0) (sl' := 0) rfl ?_
            refine fw_if_lt rfl rfl (by omega) (by omega) (fun hc12 => ?_) (fun hc12 => ?_)
            · refine ik_Wk 1 (pc' := 19) (loc' := [some (.ref 7), some (fI (mx_pk (mx_w cn go ch s xb) (mx_v sd) xb))]) (st' := [fI 0]) (h' := h_60) (cl' := 0) (sl' := 0) rfl ?_
              refine ik_Wret rfl rfl ⟨_, _, rfl, rfl, ?_⟩
              refine ik_Wk 0 (pc' := 78) (loc' := [some (.ref 14), some (fI 1), some (fI (mi - fb)), some (fI 2), some (fI 1)]) (st' := [fI 0]) (h' := h_60) (cl' := 0) (sl' := 0) rfl ?_
              refine fw_if_eq rfl rfl (by omega) (by omega) (fun hc13 => ?_) (fun hc13 => absurd hc13 (by omega))
              have et : mx_tm kb (mi - fb) = 2 := by unfold mx_tm; (repeat' split) <;> omega
              have ez : (mx_sd (fun x => mx_w cn go ch s x) (pl - 1) kb pb fb mi xb sd) = (mx_pk (mx_w cn go ch s xb) (mx_v sd) xb, mx_d sd) := by
                unfold mx_sd
                rw [if_neg (by omega), if_pos (by omega)]
                rw [et]
                rw [mx_go_n (by omega)]
                exact mx_go_b (by omega)
              rw [ez]
              exact ik_Wret rfl rfl ⟨_, _, rfl, rfl, rfl, rfl, ⟨rfl, g_60_14, g_60_16, fr_60⟩⟩
            · refine ik_Wk 2 (pc' := 6) (loc' := [some (.ref 7), some (fI (mx_pk (mx_w cn go ch s xb) (mx_v sd) xb))]) (st' := [.ref 7, fI (mx_pk (mx_w cn go ch s xb) (mx_v sd) xb)]) (h' := h_60) (cl' := 0) (sl' := 0) rfl ?_
              refine fw_gf rfl rfl g_60_7 rfl ?_
              refine ik_Wk 1 (pc' := 10) (loc' := [some (.ref 7), some (fI (mx_pk (mx_w cn go ch s xb) (mx_v sd) xb))]) (st' := [fI 1, fI pl, fI (mx_pk (mx_w cn go ch s xb) (mx_v sd) xb)]) (h' := h_60) (cl' := 0) (sl' := 0) rfl ?_
              refine fw_sub rfl ?_
              refine fw_ic_ge rfl rfl (by omega) (by omega) (by omega) (by omega) (fun hc14 => ?_) (fun hc14 => ?_)
              · refine ik_Wk 1 (pc' := 19) (loc' := [some (.ref 7), some (fI (mx_pk (mx_w cn go ch s xb) (mx_v sd) xb))]) (st' := [fI 0]) (h' := h_60) (cl' := 0) (sl' := 0) rfl ?_
                refine ik_Wret rfl rfl ⟨_, _, rfl, rfl, ?_⟩
                refine ik_Wk 0 (pc' := 78) (loc' := [some (.ref 14), some (fI 1), some (fI (mi - fb)), some (fI 2), some (fI 1)]) (st' := [fI 0]) (h' := h_60) (cl' := 0) (sl' := 0) rfl ?_
                refine fw_if_eq rfl rfl (by omega) (by omega) (fun hc15 => ?_) (fun hc15 => absurd hc15 (by omega))
                have et : mx_tm kb (mi - fb) = 2 := by unfold mx_tm; (repeat' split) <;> omega
                have ez : (mx_sd (fun x => mx_w cn go ch s x) (pl - 1) kb pb fb mi xb sd) = (mx_pk (mx_w cn go ch s xb) (mx_v sd) xb, mx_d sd) := by
                  unfold mx_sd
                  rw [if_neg (by omega), if_pos (by omega)]
                  rw [et]
                  rw [mx_go_n (by omega)]
                  exact mx_go_b (by omega)
                rw [ez]
                exact ik_Wret rfl rfl ⟨_, _, rfl, rfl, rfl, rfl, ⟨rfl, g_60_14, g_60_16, fr_60⟩⟩
              · refine ik_Wk 2 (pc' := 19) (loc' := [some (.ref 7), some (fI (mx_pk (mx_w cn go ch s xb) (mx_v sd) xb))]) (st' := [fI 1]) (h' := h_60) (cl' := 0) (sl' := 0) rfl ?_
                refine ik_Wret rfl rfl ⟨_, _, rfl, rfl, ?_⟩
                refine ik_Wk 0 (pc' := 78) (loc' := [some (.ref 14), some (fI 1), some (fI (mi - fb)), some (fI 2), some (fI 1)]) (st' := [fI 1]) (h' := h_60) (cl' := 0) (sl' := 0) rfl ?_
                refine fw_if_eq rfl rfl (by omega) (by omega) (fun hc16 => absurd hc16 (by omega)) (fun hc16 => ?_)
                refine ik_Wk 1 (pc' := 82) (loc' := [some (.ref 14), some (fI 1), some (fI (mi - fb)), some (fI 2), some (fI 1)]) (st' := [.ref 14]) (h' := h_60) (cl' := 0) (sl' := 0) rfl ?_
                refine fw_gf rfl rfl g_60_14 rfl ?_
                refine ik_Wk 2 (pc' := 87) (loc' := [some (.ref 14), some (fI 1), some (fI (mi - fb)), some (fI 2), some (fI 1)]) (st' := [.ref 14, fI 1, .ref 16]) (h' := h_60) (cl' := 0) (sl' := 0) rfl ?_
                refine fw_gf rfl rfl g_60_14 rfl ?_
                refine ik_Wk 1 (pc' := 91) (loc' := [some (.ref 14), some (fI 1), some (fI (mi - fb)), some (fI 2), some (fI 1)]) (st' := [.ref 14, .ref 7, fI 1, .ref 16]) (h' := h_60) (cl' := 0) (sl' := 0) rfl ?_
                refine fw_gf rfl rfl g_60_14 rfl ?_
                refine ik_Wk 1 (pc' := 95) (loc' := [some (.ref 14), some (fI 1), some (fI (mi - fb)), some (fI 2), some (fI 1)]) (st' := [fI 1, .ref 16, .ref 7, fI 1, .ref 16]) (h' := h_60) (cl' := 0) (sl' := 0) rfl ?_
                refine fw_ial (z := 1) rfl g_60_16 (by decide) (Nat.le_of_ble_eq_true rfl) (by decide) ?_
                refine ik_Wk 0 (pc' := 96) (loc' := [some (.ref 14), some (fI 1), some (fI (mi - fb)), some (fI 2), some (fI 1)]) (st' := [fI (mx_pk (mx_w cn go ch s xb) (mx_v sd) xb), .ref 7, fI 1, .ref 16]) (h' := h_60) (cl' := 0) (sl' := 0) rfl ?_
                refine ik_Wk 1 (pc' := 97) (loc' := [some (.ref 14), some (fI 1), some (fI (mi - fb)), some (fI 2), some (fI 1)]) (st' := [.ref 14, fI (mx_pk (mx_w cn go ch s xb) (mx_v sd) xb), .ref 7, fI 1, .ref 16]) (h' := h_60) (cl' := 0) (sl' := 0) rfl ?_
                refine fw_call 27 1 0 [.ref 14] [fI (mx_pk (mx_w cn go ch s xb) (mx_v sd) xb), .ref 7, fI 1, .ref 16] rfl rfl rfl (by decide) rfl rfl (fw_rec k_60 rfl g_60_14 rfl (by decide)) (cs_draw (mi := mi) (sd := mx_d sd) (by omega) g_60_14 k_60) ?_
                rintro _ h_61 ⟨rfl, e_61_14, F_61⟩
                have k_61 := F_61.1.trans k_60
                have fr_61 := hfr_c fr_60 F_61 (by decide)
                have g_61_7 := (F_61.2 7 (by decide +kernel)).trans g_60_7
                have g_61_11 := (F_61.2 11 (by decide +kernel)).trans g_60_11
                have g_61_12 := (F_61.2 12 (by decide +kernel)).trans g_60_12
                have g_61_13 := (F_61.2 13 (by decide +kernel)).trans g_60_13
                have g_61_15 := (F_61.2 15 (by decide +kernel)).trans g_60_15
                have g_61_16 := (F_61.2 16 (by decide +kernel)).trans g_60_16
                have g_61_14 : cE h_61 14 (.inr (1, [.ref 7, .ref 15, .ref 16, fI mi, fJ (mx_d (mx_d sd))])) := e_61_14
                refine ik_Wk 0 (pc' := 100) (loc' := [some (.ref 14), some (fI 1), some (fI (mi - fb)), some (fI 2), some (fI 1)]) (st' := [fI (mx_v (mx_d sd)), fI (mx_pk (mx_w cn go ch s xb) (mx_v sd) xb), .ref 7, fI 1, .ref 16]) (h' := h_61) (cl' := 0) (sl' := 0) rfl ?_
                refine fw_call 18 3 0 [.ref 7, fI (mx_pk (mx_w cn go ch s xb) (mx_v sd) xb), fI (mx_v (mx_d sd))] [fI 1, .ref 16] rfl rfl rfl (by decide) rfl rfl (fw_rec k_61 rfl g_61_7 rfl (by decide)) (cs_goalBy (p := mx_pk (mx_w cn go ch s xb) (mx_v sd) xb) (d := mx_v (mx_d sd)) (pl := pl) (lo := lo) (s := s) (wg := wg) (wc := wc) (we := we) (L := (mx_w cn go ch s (mx_pk (mx_w cn go ch s xb) (mx_v sd) xb))) (by omega) (by omega) (mx_v_b _).1 (mx_v_b _).2 (q4 _ (by omega) (by omega)) (q5 _ (by omega) (by omega)) g_61_7 g_61_11 n11 g_61_12 n12 g_61_13 n13 k_61) ?_
                rintro _ h_62 ⟨rfl, F_62⟩
                have k_62 := F_62.1.trans k_61
                have fr_62 := hfr_c fr_61 F_62 (by decide)
                have g_62_7 := (F_62.2 7 (by decide +kernel)).trans g_61_7
                have g_62_11 := (F_62.2 11 (by decide +kernel)).trans g_61_11
                have g_62_12 := (F_62.2 12 (by decide +kernel)).trans g_61_12
                have g_62_13 := (F_62.2 13 (by decide +kernel)).trans g_61_13
                have g_62_14 := (F_62.2 14 (by decide +kernel)).trans g_61_14
                have g_62_15 := (F_62.2 15 (by decide +kernel)).trans g_61_15
                have g_62_16 := (F_62.2 16 (by decide +kernel)).trans g_61_16
                refine ik_Wk 0 (pc' := 103) (loc' := [some (.ref 14), some (fI 1), some (fI (mi - fb)), some (fI 2), some (fI 1)]) (st' := [fI (mx_pk (mx_w cn go ch s (mx_pk (mx_w cn go ch s xb) (mx_v sd) xb)) (mx_v (mx_d sd)) (mx_pk (mx_w cn go ch s xb) (mx_v sd) xb)), fI 1, .ref 16]) (h' := h_62) (cl' := 0) (sl' := 0) rfl ?_
                have hp62 := mx_pk_in (f := mx_pk (mx_w cn go ch s xb) (mx_v sd) xb) (q5 (mx_pk (mx_w cn go ch s xb) (mx_v sd) xb) (by omega) (by omega)) (mx_v_b (mx_d sd)).1 (mx_v_b (mx_d sd)).2
                have hz62 := mx_d_b (mx_d sd)
                refine fx_ias (z := 1) rfl g_62_16 (by decide) (Nat.le_of_ble_eq_true rfl) (by decide) ?_
                intro h_63 e_63 f_63 l_63
                have k_63 := l_63.trans k_62
                have fr_63 := hfr_w fr_62 f_63 l_63 (by decide)
                have g_63_7 := (f_63 7 (by decide)).trans g_62_7
                have g_63_11 := (f_63 11 (by decide)).trans g_62_11
                have g_63_12 := (f_63 12 (by decide)).trans g_62_12
                have g_63_13 := (f_63 13 (by decide)).trans g_62_13
                have g_63_14 := (f_63 14 (by decide)).trans g_62_14
                have g_63_15 := (f_63 15 (by decide)).trans g_62_15
                have g_63_16 : cE h_63 16 (.inl (.int, fA [xa, mx_pk (mx_w cn go ch s (mx_pk (mx_w cn go ch s xb) (mx_v sd) xb)) (mx_v (mx_d sd)) (mx_pk (mx_w cn go ch s xb) (mx_v sd) xb)])) := e_63
                refine fw_inc (a := 1) (loc' := [some (.ref 14), some (fI 1), some (fI (mi - fb)), some (fI 2), some (fI 2)]) rfl rfl (Nat.le_of_ble_eq_true rfl) rfl ?_
                refine ik_Wk 3 (pc' := 62) (loc' := [some (.ref 14), some (fI 1), some (fI (mi - fb)), some (fI 2), some (fI 2)]) (st' := [fI 2, fI 2]) (h' := h_63) (cl' := 0) (sl' := 0) rfl ?_
                refine fw_ic_ge rfl rfl (by omega) (by omega) (by omega) (by omega) (fun hc17 => ?_) (fun hc17 => absurd hc17 (by omega))
                have et : mx_tm kb (mi - fb) = 2 := by unfold mx_tm; (repeat' split) <;> omega
                have ez : (mx_sd (fun x => mx_w cn go ch s x) (pl - 1) kb pb fb mi xb sd) = (mx_pk (mx_w cn go ch s (mx_pk (mx_w cn go ch s xb) (mx_v sd) xb)) (mx_v (mx_d sd)) (mx_pk (mx_w cn go ch s xb) (mx_v sd) xb), mx_d (mx_d sd)) := by
                  unfold mx_sd
                  rw [if_neg (by omega), if_pos (by omega)]
                  rw [et]
                  rw [mx_go_n (by omega)]
                  rw [mx_go_n (by omega)]
                  rfl
                rw [ez]
                exact ik_Wret rfl rfl ⟨_, _, rfl, rfl, rfl, rfl, ⟨rfl, g_63_14, g_63_16, fr_63⟩⟩
      · refine ik_Wk 2 (pc' := 9) (loc' := [some (fI kb), some (fI (mi - fb))]) (st' := [fI 2, fI kb]) (h' := h) (cl' := 0) (sl' := 0) rfl ?_
        refine fw_ic_ne rfl rfl (by omega) (by omega) (by omega) (by omega) (fun hc18 => ?_) (fun hc18 => ?_)
        · refine ik_Wk 2 (pc' := 14) (loc' := [some (fI kb), some (fI (mi - fb))]) (st' := [fI 2, fI (mi - fb)]) (h' := h) (cl' := 0) (sl' := 0) rfl ?_
          refine fx_irem rfl (by omega) (by omega) (by omega) (by omega) ?_
          refine fw_if_eq rfl rfl (by omega) (by omega) (fun hc19 => ?_) (fun hc19 => ?_)
          · refine ik_Wk 1 (pc' := 23) (loc' := [some (fI kb), some (fI (mi - fb))]) (st' := [fI 1]) (h' := h) (cl' := 0) (sl' := 0) rfl ?_
            refine ik_Wret rfl rfl ⟨_, _, rfl, rfl, ?_⟩
            refine ik_Wk 0 (pc' := 55) (loc' := [some (.ref 14), some (fI 1), some (fI (mi - fb)), none, none]) (st' := [fI 1]) (h' := h) (cl' := 0) (sl' := 0) rfl ?_
            refine ik_Wk 5 (pc' := 62) (loc' := [some (.ref 14), some (fI 1), some (fI (mi - fb)), some (fI 1), some (fI 0)]) (st' := [fI 1, fI 0]) (h' := h) (cl' := 0) (sl' := 0) rfl ?_
            refine fw_ic_ge rfl rfl (by omega) (by omega) (by omega) (by omega) (fun hc20 => absurd hc20 (by omega)) (fun hc20 => ?_)
            refine ik_Wk 1 (pc' := 66) (loc' := [some (.ref 14), some (fI 1), some (fI (mi - fb)), some (fI 1), some (fI 0)]) (st' := [.ref 14]) (h' := h) (cl' := 0) (sl' := 0) rfl ?_
            refine fw_gf rfl rfl h14 rfl ?_
            refine ik_Wk 1 (pc' := 70) (loc' := [some (.ref 14), some (fI 1), some (fI (mi - fb)), some (fI 1), some (fI 0)]) (st' := [.ref 14, .ref 7]) (h' := h) (cl' := 0) (sl' := 0) rfl ?_
            refine fw_gf rfl rfl h14 rfl ?_
            refine ik_Wk 1 (pc' := 74) (loc' := [some (.ref 14), some (fI 1), some (fI (mi - fb)), some (fI 1), some (fI 0)]) (st' := [fI 1, .ref 16, .ref 7]) (h' := h) (cl' := 0) (sl' := 0) rfl ?_
            refine fw_ial (z := 1) rfl h16 (by decide) (Nat.le_of_ble_eq_true rfl) (by decide) ?_
            refine ik_Wk 0 (pc' := 75) (loc' := [some (.ref 14), some (fI 1), some (fI (mi - fb)), some (fI 1), some (fI 0)]) (st' := [fI xb, .ref 7]) (h' := h) (cl' := 0) (sl' := 0) rfl ?_
            refine ik_Wc 4 2 0 [.ref 7, fI xb] [] rfl rfl rfl (by decide) rfl rfl (fw_rec hl rfl h7 rfl (by decide)) ?_
            refine ik_Wk 0 (pc' := 0) (loc' := [some (.ref 7), some (fI xb)]) (st' := []) (h' := h) (cl' := 0) (sl' := 0) rfl ?_
            refine ik_Wk 1 (pc' := 1) (loc' := [some (.ref 7), some (fI xb)]) (st' := [fI xb]) (h' := h) (cl' := 0) (sl' := 0) rfl ?_
            refine fw_if_lt rfl rfl (by omega) (by omega) (fun hc21 => ?_) (fun hc21 => ?_)
            · refine ik_Wk 1 (pc' := 19) (loc' := [some (.ref 7), some (fI xb)]) (st' := [fI 0]) (h' := h) (cl' := 0) (sl' := 0) rfl ?_
              refine ik_Wret rfl rfl ⟨_, _, rfl, rfl, ?_⟩
              refine ik_Wk 0 (pc' := 78) (loc' := [some (.ref 14), some (fI 1), some (fI (mi - fb)), some (fI 1), some (fI 0)]) (st' := [fI 0]) (h' := h) (cl' := 0) (sl' := 0) rfl ?_
              refine fw_if_eq rfl rfl (by omega) (by omega) (fun hc22 => ?_) (fun hc22 => absurd hc22 (by omega))
              have et : mx_tm kb (mi - fb) = 1 := by unfold mx_tm; (repeat' split) <;> omega
              have ez : (mx_sd (fun x => mx_w cn go ch s x) (pl - 1) kb pb fb mi xb sd) = (xb, sd) := by
                unfold mx_sd
                rw [if_neg (by omega), if_pos (by omega)]
                rw [et]
                exact mx_go_b (by omega)
              rw [ez]
              exact ik_Wret rfl rfl ⟨_, _, rfl, rfl, rfl, rfl, ⟨rfl, h14, h16, (hfr_refl [14, 16] h)⟩⟩
            · refine ik_Wk 2 (pc' := 6) (loc' := [some (.ref 7), some (fI xb)]) (st' := [.ref 7, fI xb]) (h' := h) (cl' := 0) (sl' := 0) rfl ?_
              refine fw_gf rfl rfl h7 rfl ?_
              refine ik_Wk 1 (pc' := 10) (loc' := [some (.ref 7), some (fI xb)]) (st' := [fI 1, fI pl, fI xb]) (h' := h) (cl' := 0) (sl' := 0) rfl ?_
              refine fw_sub rfl ?_
              refine fw_ic_ge rfl rfl (by omega) (by omega) (by omega) (by omega) (fun hc23 => ?_) (fun hc23 => ?_)
              · refine ik_Wk 1 (pc' := 19) (loc' := [some (.ref 7), some (fI xb)]) (st' := [fI 0]) (h' := h) (cl' := 0) (sl' := 0) rfl ?_
                refine ik_Wret rfl rfl ⟨_, _, rfl, rfl, ?_⟩
                refine ik_Wk 0 (pc' := 78) (loc' := [some (.ref 14), some (fI 1), some (fI (mi - fb)), some (fI 1), some (fI 0)]) (st' := [fI 0]) (h' := h) (cl' := 0) (sl' := 0) rfl ?_
                refine fw_if_eq rfl rfl (by omega) (by omega) (fun hc24 => ?_) (fun hc24 => absurd hc24 (by omega))
                have et : mx_tm kb (mi - fb) = 1 := by unfold mx_tm; (repeat' split) <;> omega
                have ez : (mx_sd (fun x => mx_w cn go ch s x) (pl - 1) kb pb fb mi xb sd) = (xb, sd) := by
                  unfold mx_sd
                  rw [if_neg (by omega), if_pos (by omega)]
                  rw [et]
                  exact mx_go_b (by omega)
                rw [ez]
                exact ik_Wret rfl rfl ⟨_, _, rfl, rfl, rfl, rfl, ⟨rfl, h14, h16, (hfr_refl [14, 16] h)⟩⟩
              · refine ik_Wk 2 (pc' := 19) (loc' := [some (.ref 7), some (fI xb)]) (st' := [fI 1]) (h' := h) (cl' := 0) (sl' := 0) rfl ?_
                refine ik_Wret rfl rfl ⟨_, _, rfl, rfl, ?_⟩
                refine ik_Wk 0 (pc' := 78) (loc' := [some (.ref 14), some (fI 1), some (fI (mi - fb)), some (fI 1), some (fI 0)]) (st' := [fI 1]) (h' := h) (cl' := 0) (sl' := 0) rfl ?_
                refine fw_if_eq rfl rfl (by omega) (by omega) (fun hc25 => absurd hc25 (by omega)) (fun hc25 => ?_)
                refine ik_Wk 1 (pc' := 82) (loc' := [some (.ref 14), some (fI 1), some (fI (mi - fb)), some (fI 1), some (fI 0)]) (st' := [.ref 14]) (h' := h) (cl' := 0) (sl' := 0) rfl ?_
                refine fw_gf rfl rfl h14 rfl ?_
                refine ik_Wk 2 (pc' := 87) (loc' := [some (.ref 14), some (fI 1), some (fI (mi - fb)), some (fI 1), some (fI 0)]) (st' := [.ref 14, fI 1, .ref 16]) (h' := h) (cl' := 0) (sl' := 0) rfl ?_
                refine fw_gf rfl rfl h14 rfl ?_
                refine ik_Wk 1 (pc' := 91) (loc' := [some (.ref 14), some (fI 1), some (fI (mi - fb)), some (fI 1), some (fI 0)]) (st' := [.ref 14, .ref 7, fI 1, .ref 16]) (h' := h) (cl' := 0) (sl' := 0) rfl ?_
                refine fw_gf rfl rfl h14 rfl ?_
                refine ik_Wk 1 (pc' := 95) (loc' := [some (.ref 14), some (fI 1), some (fI (mi - fb)), some (fI 1), some (fI 0)]) (st' := [fI 1, .ref 16, .ref 7, fI 1, .ref 16]) (h' := h) (cl' := 0) (sl' := 0) rfl ?_
                refine fw_ial (z := 1) rfl h16 (by decide) (Nat.le_of_ble_eq_true rfl) (by decide) ?_
                refine ik_Wk 0 (pc' := 96) (loc' := [some (.ref 14), some (fI 1), some (fI (mi - fb)), some (fI 1), some (fI 0)]) (st' := [fI xb, .ref 7, fI 1, .ref 16]) (h' := h) (cl' := 0) (sl' := 0) rfl ?_
                refine ik_Wk 1 (pc' := 97) (loc' := [some (.ref 14), some (fI 1), some (fI (mi - fb)), some (fI 1), some (fI 0)]) (st' := [.ref 14, fI xb, .ref 7, fI 1, .ref 16]) (h' := h) (cl' := 0) (sl' := 0) rfl ?_
                refine fw_call 27 1 0 [.ref 14] [fI xb, .ref 7, fI 1, .ref 16] rfl rfl rfl (by decide) rfl rfl (fw_rec hl rfl h14 rfl (by decide)) (cs_draw (mi := mi) (sd := sd) (by omega) h14 hl) ?_
                rintro _ h_64 ⟨rfl, e_64_14, F_64⟩
                have k_64 := F_64.1.trans hl
                have fr_64 := hfr_c (hfr_refl [14, 16] h) F_64 (by decide)
                have g_64_7 := (F_64.2 7 (by decide +kernel)).trans h7
                have g_64_11 := (F_64.2 11 (by decide +kernel)).trans h11
                have g_64_12 := (F_64.2 12 (by decide +kernel)).trans h12
                have g_64_13 := (F_64.2 13 (by decide +kernel)).trans h13
                have g_64_15 := (F_64.2 15 (by decide +kernel)).trans h15
                have g_64_16 := (F_64.2 16 (by decide +kernel)).trans h16
                have g_64_14 : cE h_64 14 (.inr (1, [.ref 7, .ref 15, .ref 16, fI mi, fJ (mx_d sd)])) := e_64_14
                refine ik_Wk 0 (pc' := 100) (loc' := [some (.ref 14), some (fI 1), some (fI (mi - fb)), some (fI 1), some (fI 0)]) (st' := [fI (mx_v sd), fI xb, .ref 7, fI 1, .ref 16]) (h' := h_64) (cl' := 0) (sl' := 0) rfl ?_
                refine fw_call 18 3 0 [.ref 7, fI xb, fI (mx_v sd)] [fI 1, .ref 16] rfl rfl rfl (by decide) rfl rfl (fw_rec k_64 rfl g_64_7 rfl (by decide)) (cs_goalBy (p := xb) (d := mx_v sd) (pl := pl) (lo := lo) (s := s) (wg := wg) (wc := wc) (we := we) (L := (mx_w cn go ch s xb)) (by omega) (by omega) (mx_v_b _).1 (mx_v_b _).2 (q4 _ (by omega) (by omega)) (q5 _ (by omega) (by omega)) g_64_7 g_64_11 n11 g_64_12 n12 g_64_13 n13 k_64) ?_
                rintro _ h_65 ⟨rfl, F_65⟩
                have k_65 := F_65.1.trans k_64
                have fr_65 := hfr_c fr_64 F_65 (by decide)
                have g_65_7 := (F_65.2 7 (by decide +kernel)).trans g_64_7
                have g_65_11 := (F_65.2 11 (by decide +kernel)).trans g_64_11
                have g_65_12 := (F_65.2 12 (by decide +kernel)).trans g_64_12
                have g_65_13 := (F_65.2 13 (by decide +kernel)).trans g_64_13
                have g_65_14 := (F_65.2 14 (by decide +kernel)).trans g_64_14
                have g_65_15 := (F_65.2 15 (by decide +kernel)).trans g_64_15
                have g_65_16 := (F_65.2 16 (by decide +kernel)).trans g_64_16
                refine ik_Wk 0 (pc' := 103) (loc' := [some (.ref 14), some (fI 1), some (fI (mi - fb)), some (fI 1), some (fI 0)]) (st' := [fI (mx_pk (mx_w cn go ch s xb) (mx_v sd) xb), fI 1, .ref 16]) (h' := h_65) (cl' := 0) (sl' := 0) rfl ?_
                have hp65 := mx_pk_in (f := xb) (q5 xb (by omega) (by omega)) (mx_v_b sd).1 (mx_v_b sd).2
                have hz65 := mx_d_b sd
                refine fx_ias (z := 1) rfl g_65_16 (by decide) (Nat.le_of_ble_eq_true rfl) (by decide) ?_
                intro h_66 e_66 f_66 l_66
                have k_66 := l_66.trans k_65
                have fr_66 := hfr_w fr_65 f_66 l_66 (by decide)
                have g_66_7 := (f_66 7 (by decide)).trans g_65_7
                have g_66_11 := (f_66 11 (by decide)).trans g_65_11
                have g_66_12 := (f_66 12 (by decide)).trans g_65_12
                have g_66_13 := (f_66 13 (by decide)).trans g_65_13
                have g_66_14 := (f_66 14 (by decide)).trans g_65_14
                have g_66_15 := (f_66 15 (by decide)).trans g_65_15
                have g_66_16 : cE h_66 16 (.inl (.int, fA [xa, mx_pk (mx_w cn go ch s xb) (mx_v sd) xb])) := e_66
                refine fw_inc (a := 0) (loc' := [some (.ref 14), some (fI 1), some (fI (mi - fb)), some (fI 1), some (fI 1)]) rfl rfl (Nat.le_of_ble_eq_true rfl) rfl ?_
                refine ik_Wk 3 (pc' := 62) (loc' := [some (.ref 14), some (fI 1), some (fI (mi - fb)), some (fI 1), some (fI 1)]) (st' := [fI 1, fI 1]) (h' := h_66) (cl' := 0) (sl' := 0) rfl ?_
                refine fw_ic_ge rfl rfl (by omega) (by omega) (by omega) (by omega) (fun hc26 => ?_) (fun hc26 => absurd hc26 (by omega))
                have et : mx_tm kb (mi - fb) = 1 := by unfold mx_tm; (repeat' split) <;> omega
                have ez : (mx_sd (fun x => mx_w cn go ch s x) (pl - 1) kb pb fb mi xb sd) = (mx_pk (mx_w cn go ch s xb) (mx_v sd) xb, mx_d sd) := by
                  unfold mx_sd
                  rw [if_neg (by omega), if_pos (by omega)]
                  rw [et]
                  rw [mx_go_n (by omega)]
                  rfl
                rw [ez]
                exact ik_Wret rfl rfl ⟨_, _, rfl, rfl, rfl, rfl, ⟨rfl, g_66_14, g_66_16, fr_66⟩⟩
          · refine ik_Wk 2 (pc' := 23) (loc' := [some (fI kb), some (fI (mi - fb))]) (st' := [fI 0]) (h' := h) (cl' := 0) (sl' := 0) rfl ?_
            refine ik_Wret rfl rfl ⟨_, _, rfl, rfl, ?_⟩
            refine ik_Wk 0 (pc' := 55) (loc' := [some (.ref 14), some (fI 1), some (fI (mi - fb)), none, none]) (st' := [fI 0]) (h' := h) (cl' := 0) (sl' := 0) rfl ?_
            refine ik_Wk 5 (pc' := 62) (loc' := [some (.ref 14), some (fI 1), some (fI (mi - fb)), some (fI 0), some (fI 0)]) (st' := [fI 0, fI 0]) (h' := h) (cl' := 0) (sl' := 0) rfl ?_
            refine fw_ic_ge rfl rfl (by omega) (by omega) (by omega) (by omega) (fun hc27 => ?_) (fun hc27 => absurd hc27 (by omega))
            have et : mx_tm kb (mi - fb) = 0 := by unfold mx_tm; (repeat' split) <;> omega
            have ez : (mx_sd (fun x => mx_w cn go ch s x) (pl - 1) kb pb fb mi xb sd) = (xb, sd) := by
              unfold mx_sd
              rw [if_neg (by omega), if_pos (by omega)]
              rw [et]
              rfl
            rw [ez]
            exact ik_Wret rfl rfl ⟨_, _, rfl, rfl, rfl, rfl, ⟨rfl, h14, h16, (hfr_refl [14, 16] h)⟩⟩
        · refine ik_Wk 1 (pc' := 23) (loc' := [some (fI kb), some (fI (mi - fb))]) (st' := [fI 1]) (h' := h) (cl' := 0) (sl' := 0) rfl ?_
          refine ik_Wret rfl rfl ⟨_, _, rfl, rfl, ?_⟩
          refine ik_Wk 0 (pc' := 55) (loc' := [some (.ref 14), some (fI 1), some (fI (mi - fb)), none, none]) (st' := [fI 1]) (h' := h) (cl' := 0) (sl' := 0) rfl ?_
          refine ik_Wk 5 (pc' := 62) (loc' := [some (.ref 14), some (fI 1), some (fI (mi - fb)), some (fI 1), some (fI 0)]) (st' := [fI 1, fI 0]) (h' := h) (cl' := 0) (sl' := 0) rfl ?_
          refine fw_ic_ge rfl rfl (by omega) (by omega) (by omega) (by omega) (fun hc28 => absurd hc28 (by omega)) (fun hc28 => ?_)
          refine ik_Wk 1 (pc' := 66) (loc' := [some (.ref 14), some (fI 1), some (fI (mi - fb)), some (fI 1), some (fI 0)]) (st' := [.ref 14]) (h' := h) (cl' := 0) (sl' := 0) rfl ?_
          refine fw_gf rfl rfl h14 rfl ?_
          refine ik_Wk 1 (pc' := 70) (loc' := [some (.ref 14), some (fI 1), some (fI (mi - fb)), some (fI 1), some (fI 0)]) (st' := [.ref 14, .ref 7]) (h' := h) (cl' := 0) (sl' := 0) rfl ?_
          refine fw_gf rfl rfl h14 rfl ?_
          refine ik_Wk 1 (pc' := 74) (loc' := [some (.ref 14), some (fI 1), some (fI (mi - fb)), some (fI 1), some (fI 0)]) (st' := [fI 1, .ref 16, .ref 7]) (h' := h) (cl' := 0) (sl' := 0) rfl ?_
          refine fw_ial (z := 1) rfl h16 (by decide) (Nat.le_of_ble_eq_true rfl) (by decide) ?_
          refine ik_Wk 0 (pc' := 75) (loc' := [some (.ref 14), some (fI 1), some (fI (mi - fb)), some (fI 1), some (fI 0)]) (st' := [fI xb, .ref 7]) (h' := h) (cl' := 0) (sl' := 0) rfl ?_
          refine ik_Wc 4 2 0 [.ref 7, fI xb] [] rfl rfl rfl (by decide) rfl rfl (fw_rec hl rfl h7 rfl (by decide)) ?_
          refine ik_Wk 0 (pc' := 0) (loc' := [some (.ref 7), some (fI xb)]) (st' := []) (h' := h) (cl' := 0) (sl' := 0) rfl ?_
          refine ik_Wk 1 (pc' := 1) (loc' := [some (.ref 7), some (fI xb)]) (st' := [fI xb]) (h' := h) (cl' := 0) (sl' := 0) rfl ?_
          refine fw_if_lt rfl rfl (by omega) (by omega) (fun hc29 => ?_) (fun hc29 => ?_)
          · refine ik_Wk 1 (pc' := 19) (loc' := [some (.ref 7), some (fI xb)]) (st' := [fI 0]) (h' := h) (cl' := 0) (sl' := 0) rfl ?_
            refine ik_Wret rfl rfl ⟨_, _, rfl, rfl, ?_⟩
            refine ik_Wk 0 (pc' := 78) (loc' := [some (.ref 14), some (fI 1), some (fI (mi - fb)), some (fI 1), some (fI 0)]) (st' := [fI 0]) (h' := h) (cl' := 0) (sl' := 0) rfl ?_
            refine fw_if_eq rfl rfl (by omega) (by omega) (fun hc30 => ?_) (fun hc30 => absurd hc30 (by omega))
            have et : mx_tm kb (mi - fb) = 1 := by unfold mx_tm; (repeat' split) <;> omega
            have ez : (mx_sd (fun x => mx_w cn go ch s x) (pl - 1) kb pb fb mi xb sd) = (xb, sd) := by
              unfold mx_sd
              rw [if_neg (by omega), if_pos (by omega)]
              rw [et]
              exact mx_go_b (by omega)
            rw [ez]
            exact ik_Wret rfl rfl ⟨_, _, rfl, rfl, rfl, rfl, ⟨rfl, h14, h16, (hfr_refl [14, 16] h)⟩⟩
          · refine ik_Wk 2 (pc' := 6) (loc' := [some (.ref 7), some (fI xb)]) (st' := [.ref 7, fI xb]) (h' := h) (cl' := 0) (sl' := 0) rfl ?_
            refine fw_gf rfl rfl h7 rfl ?_
            refine ik_Wk 1 (pc' := 10) (loc' := [some (.ref 7), some (fI xb)]) (st' := [fI 1, fI pl, fI xb]) (h' := h) (cl' := 0) (sl' := 0) rfl ?_
            refine fw_sub rfl ?_
            refine fw_ic_ge rfl rfl (by omega) (by omega) (by omega) (by omega) (fun hc31 => ?_) (fun hc31 => ?_)
            · refine ik_Wk 1 (pc' := 19) (loc' := [some (.ref 7), some (fI xb)]) (st' := [fI 0]) (h' := h) (cl' := 0) (sl' := 0) rfl ?_
              refine ik_Wret rfl rfl ⟨_, _, rfl, rfl, ?_⟩
              refine ik_Wk 0 (pc' := 78) (loc' := [some (.ref 14), some (fI 1), some (fI (mi - fb)), some (fI 1), some (fI 0)]) (st' := [fI 0]) (h' := h) (cl' := 0) (sl' := 0) rfl ?_
              refine fw_if_eq rfl rfl (by omega) (by omega) (fun hc32 => ?_) (fun hc32 => absurd hc32 (by omega))
              have et : mx_tm kb (mi - fb) = 1 := by unfold mx_tm; (repeat' split) <;> omega
              have ez : (mx_sd (fun x => mx_w cn go ch s x) (pl - 1) kb pb fb mi xb sd) = (xb, sd) := by
                unfold mx_sd
                rw [if_neg (by omega), if_pos (by omega)]
                rw [et]
                exact mx_go_b (by omega)
              rw [ez]
              exact ik_Wret rfl rfl ⟨_, _, rfl, rfl, rfl, rfl, ⟨rfl, h14, h16, (hfr_refl [14, 16] h)⟩⟩
            · refine ik_Wk 2 (pc' := 19) (loc' := [some (.ref 7), some (fI xb)]) (st' := [fI 1]) (h' := h) (cl' := 0) (sl' := 0) rfl ?_
              refine ik_Wret rfl rfl ⟨_, _, rfl, rfl, ?_⟩
              refine ik_Wk 0 (pc' := 78) (loc' := [some (.ref 14), some (fI 1), some (fI (mi - fb)), some (fI 1), some (fI 0)]) (st' := [fI 1]) (h' := h) (cl' := 0) (sl' := 0) rfl ?_
              refine fw_if_eq rfl rfl (by omega) (by omega) (fun hc33 => absurd hc33 (by omega)) (fun hc33 => ?_)
              refine ik_Wk 1 (pc' := 82) (loc' := [some (.ref 14), some (fI 1), some (fI (mi - fb)), some (fI 1), some (fI 0)]) (st' := [.ref 14]) (h' := h) (cl' := 0) (sl' := 0) rfl ?_
              refine fw_gf rfl rfl h14 rfl ?_
              refine ik_Wk 2 (pc' := 87) (loc' := [some (.ref 14), some (fI 1), some (fI (mi - fb)), some (fI 1), some (fI 0)]) (st' := [.ref 14, fI 1, .ref 16]) (h' := h) (cl' := 0) (sl' := 0) rfl ?_
              refine fw_gf rfl rfl h14 rfl ?_
              refine ik_Wk 1 (pc' := 91) (loc' := [some (.ref 14), some (fI 1), some (fI (mi - fb)), some (fI 1), some (fI 0)]) (st' := [.ref 14, .ref 7, fI 1, .ref 16]) (h' := h) (cl' := 0) (sl' := 0) rfl ?_
              refine fw_gf rfl rfl h14 rfl ?_
              refine ik_Wk 1 (pc' := 95) (loc' := [some (.ref 14), some (fI 1), some (fI (mi - fb)), some (fI 1), some (fI 0)]) (st' := [fI 1, .ref 16, .ref 7, fI 1, .ref 16]) (h' := h) (cl' := 0) (sl' := 0) rfl ?_
              refine fw_ial (z := 1) rfl h16 (by decide) (Nat.le_of_ble_eq_true rfl) (by decide) ?_
              refine ik_Wk 0 (pc' := 96) (loc' := [some (.ref 14), some (fI 1), some (fI (mi - fb)), some (fI 1), some (fI 0)]) (st' := [fI xb, .ref 7, fI 1, .ref 16]) (h' := h) (cl' := 0) (sl' := 0) rfl ?_
              refine ik_Wk 1 (pc' := 97) (loc' := [some (.ref 14), some (fI 1), some (fI (mi - fb)), some (fI 1), some (fI 0)]) (st' := [.ref 14, fI xb, .ref 7, fI 1, .ref 16]) (h' := h) (cl' := 0) (sl' := 0) rfl ?_
              refine fw_call 27 1 0 [.ref 14] [fI xb, .ref 7, fI 1, .ref 16] rfl rfl rfl (by decide) rfl rfl (fw_rec hl rfl h14 rfl (by decide)) (cs_draw (mi := mi) (sd := sd) (by omega) h14 hl) ?_
              rintro _ h_67 ⟨rfl, e_67_14, F_67⟩
              have k_67 := F_67.1.trans hl
              have fr_67 := hfr_c (hfr_refl [14, 16] h) F_67 (by decide)
              have g_67_7 := (F_67.2 7 (by decide +kernel)).trans h7
              have g_67_11 := (F_67.2 11 (by decide +kernel)).trans h11
              have g_67_12 := (F_67.2 12 (by decide +kernel)).trans h12
              have g_67_13 := (F_67.2 13 (by decide +kernel)).trans h13
              have g_67_15 := (F_67.2 15 (by decide +kernel)).trans h15
              have g_67_16 := (F_67.2 16 (by decide +kernel)).trans h16
              have g_67_14 : cE h_67 14 (.inr (1, [.ref 7, .ref 15, .ref 16, fI mi, fJ (mx_d sd)])) := e_67_14
              refine ik_Wk 0 (pc' := 100) (loc' := [some (.ref 14), some (fI 1), some (fI (mi - fb)), some (fI 1), some (fI 0)]) (st' := [fI (mx_v sd), fI xb, .ref 7, fI 1, .ref 16]) (h' := h_67) (cl' := 0) (sl' := 0) rfl ?_
              refine fw_call 18 3 0 [.ref 7, fI xb, fI (mx_v sd)] [fI 1, .ref 16] rfl rfl rfl (by decide) rfl rfl (fw_rec k_67 rfl g_67_7 rfl (by decide)) (cs_goalBy (p := xb) (d := mx_v sd) (pl := pl) (lo := lo) (s := s) (wg := wg) (wc := wc) (we := we) (L := (mx_w cn go ch s xb)) (by omega) (by omega) (mx_v_b _).1 (mx_v_b _).2 (q4 _ (by omega) (by omega)) (q5 _ (by omega) (by omega)) g_67_7 g_67_11 n11 g_67_12 n12 g_67_13 n13 k_67) ?_
              rintro _ h_68 ⟨rfl, F_68⟩
              have k_68 := F_68.1.trans k_67
              have fr_68 := hfr_c fr_67 F_68 (by decide)
              have g_68_7 := (F_68.2 7 (by decide +kernel)).trans g_67_7
              have g_68_11 := (F_68.2 11 (by decide +kernel)).trans g_67_11
              have g_68_12 := (F_68.2 12 (by decide +kernel)).trans g_67_12
              have g_68_13 := (F_68.2 13 (by decide +kernel)).trans g_67_13
              have g_68_14 := (F_68.2 14 (by decide +kernel)).trans g_67_14
              have g_68_15 := (F_68.2 15 (by decide +kernel)).trans g_67_15
              have g_68_16 := (F_68.2 16 (by decide +kernel)).trans g_67_16
              refine ik_Wk 0 (pc' := 103) (loc' := [some (.ref 14), some (fI 1), some (fI (mi - fb)), some (fI 1), some (fI 0)]) (st' := [fI (mx_pk (mx_w cn go ch s xb) (mx_v sd) xb), fI 1, .ref 16]) (h' := h_68) (cl' := 0) (sl' := 0) rfl ?_
              have hp68 := mx_pk_in (f := xb) (q5 xb (by omega) (by omega)) (mx_v_b sd).1 (mx_v_b sd).2
              have hz68 := mx_d_b sd
              refine fx_ias (z := 1) rfl g_68_16 (by decide) (Nat.le_of_ble_eq_true rfl) (by decide) ?_
              intro h_69 e_69 f_69 l_69
              have k_69 := l_69.trans k_68
              have fr_69 := hfr_w fr_68 f_69 l_69 (by decide)
              have g_69_7 := (f_69 7 (by decide)).trans g_68_7
              have g_69_11 := (f_69 11 (by decide)).trans g_68_11
              have g_69_12 := (f_69 12 (by decide)).trans g_68_12
              have g_69_13 := (f_69 13 (by decide)).trans g_68_13
              have g_69_14 := (f_69 14 (by decide)).trans g_68_14
              have g_69_15 := (f_69 15 (by decide)).trans g_68_15
              have g_69_16 : cE h_69 16 (.inl (.int, fA [xa, mx_pk (mx_w cn go ch s xb) (mx_v sd) xb])) := e_69
              refine fw_inc (a := 0) (loc' := [some (.ref 14), some (fI 1), some (fI (mi - fb)), some (fI 1), some (fI 1)]) rfl rfl (Nat.le_of_ble_eq_true rfl) rfl ?_
              refine ik_Wk 3 (pc' := 62) (loc' := [some (.ref 14), some (fI 1), some (fI (mi - fb)), some (fI 1), some (fI 1)]) (st' := [fI 1, fI 1]) (h' := h_69) (cl' := 0) (sl' := 0) rfl ?_
              refine fw_ic_ge rfl rfl (by omega) (by omega) (by omega) (by omega) (fun hc34 => ?_) (fun hc34 => absurd hc34 (by omega))
              have et : mx_tm kb (mi - fb) = 1 := by unfold mx_tm; (repeat' split) <;> omega
              have ez : (mx_sd (fun x => mx_w cn go ch s x) (pl - 1) kb pb fb mi xb sd) = (mx_pk (mx_w cn go ch s xb) (mx_v sd) xb, mx_d sd) := by
                unfold mx_sd
                rw [if_neg (by omega), if_pos (by omega)]
                rw [et]
                rw [mx_go_n (by omega)]
                rfl
              rw [ez]
              exact ik_Wret rfl rfl ⟨_, _, rfl, rfl, rfl, rfl, ⟨rfl, g_69_14, g_69_16, fr_69⟩⟩
    · have ez : (mx_sd (fun x => mx_w cn go ch s x) (pl - 1) kb pb fb mi xb sd) = (xb, sd) := by
        unfold mx_sd
        rw [if_neg (by omega), if_neg (by omega)]
      rw [ez]
      exact ik_Wret rfl rfl ⟨_, _, rfl, rfl, rfl, rfl, ⟨rfl, h14, h16, (hfr_refl [14, 16] h)⟩⟩

end