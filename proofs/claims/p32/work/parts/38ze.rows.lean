noncomputable section
/-! the reference: odds at a minute, rows of what has come (written by wip/fx/u9.py) -/
theorem cr_setInL {h : List ik_E} {p : Int} {f : Nat → Int} {xs : List Int} (q0 : 0 ≤ p ∧ p < 12)  : ∀ (k : Nat) (i : Int) (x1 : List Int) (u : List ik_E) (u66 : cE u 66 (.inr (10, [fI (f 0), .ref 67, .ref 68, .ref 69, fI (f 4), .ref 70, .ref 71, fI (f 7), fI (f 8), .ref 72, fI (f 10), fI (f 11), fI (f 12), fJ (f 13), fI (f 14), fI (f 15), fI (f 16), fI (f 17), .ref 73, .ref 74, .ref 75, .ref 76, .ref 77, .ref 78, fI (f 24), .ref 79, .ref 80, .ref 81, .ref 82, .ref 83, .ref 84, .ref 85, fJ (f 32), fJ (f 33), .ref 86, .ref 87, fI (f 36), .ref 88, .ref 89, .ref 90, .ref 91, .ref 92, .ref 93]))) (u79 : cE u 79 (.inl (.long, fL x1))) (n79 : x1.length = 12) (ul : u.length = 94) (F : hfr [79] h u) (hi : 0 ≤ i ∧ i ≤ 12) (hx : mf_is i x1 (mf_up (fun _ => 0) p.toNat 1000000000)) (hk : 12 - i < (k : Int)), ik_G 154 2 [some (.ref 66), some (fI p), some (fI i)] [] u (fun rv h' => ∃ (xs' : List Int), rv = [] ∧ cE h' 79 (.inl (.long, fL xs')) ∧ xs'.length = 12 ∧ (mf_is 12 xs' (mf_up (fun _ => 0) p.toNat 1000000000)) ∧ hfr [79] h h') := by
  intro k
  induction k with
  | zero => intro i x1 u u66 u79 n79 ul F hi hx hk; omega
  | succ k ih =>
    intro i x1 u u66 u79 n79 ul F hi hx hk
    refine ik_Wk 1 (pc' := 3) (loc' := [some (.ref 66), some (fI p), some (fI i)]) (st' := [fI i]) (h' := u) (cl' := 0) (sl' := 0) rfl ?_
    refine fw_bi rfl (by decide) ?_
    refine fw_ic_ge rfl rfl (by omega) (by omega) (by omega) (by omega) (fun hc1 => ?_) (fun hc1 => ?_)
    · have ei : i = 12 := by omega
      rw [ei] at hx
      exact ik_Wret rfl rfl ⟨_, _, rfl, rfl, rfl, rfl, ⟨x1, rfl, u79, n79, hx, F⟩⟩
    · refine ik_Wk 1 (pc' := 9) (loc' := [some (.ref 66), some (fI p), some (fI i)]) (st' := [.ref 66]) (h' := u) (cl' := 0) (sl' := 0) rfl ?_
      refine fw_gf rfl rfl u66 rfl ?_
      refine ik_Wk 3 (pc' := 15) (loc' := [some (.ref 66), some (fI p), some (fI i)]) (st' := [fI p, fI i, fI i, .ref 79]) (h' := u) (cl' := 0) (sl' := 0) rfl ?_
      refine fw_ic_ne rfl rfl (by omega) (by omega) (by omega) (by omega) (fun hc2 => ?_) (fun hc2 => ?_)
      · refine fw_l2 1000000000 rfl rfl (by decide) ?_
        refine ik_Wk 1 (pc' := 25) (loc' := [some (.ref 66), some (fI p), some (fI i)]) (st' := [fJ 1000000000, fI i, .ref 79]) (h' := u) (cl' := 0) (sl' := 0) rfl ?_
        have hl3 : (x1.set i.toNat 1000000000).length = 12 := (List.length_set ..).trans n79
        refine fx_las rfl u79 (by omega) (by omega) (by omega) ?_
        intro h_140 e_140 f_140 l_140
        have k_140 := l_140.trans ul
        have fr_140 := hfr_w F f_140 l_140 (by decide)
        have g_140_66 := (f_140 66 (by decide)).trans u66
        have g_140_79 : cE h_140 79 (.inl (.long, fL (x1.set i.toNat 1000000000))) := e_140
        refine fw_inc (a := i) (loc' := [some (.ref 66), some (fI p), some (fI (i + 1))]) rfl rfl (Nat.le_of_ble_eq_true rfl) rfl ?_
        refine ik_Wk 1 (pc' := 2) (loc' := [some (.ref 66), some (fI p), some (fI (i + 1))]) (st' := []) (h' := h_140) (cl' := 0) (sl' := 0) rfl ?_
        exact ih  (i + 1) (x1.set i.toNat 1000000000) h_140 g_140_66 g_140_79 hl3 k_140 fr_140 (by omega) (mf_is_x hx (by omega) (by omega) (by show _ = if i.toNat = p.toNat then _ else _; rw [if_pos (by omega)])) (by omega)
      · refine fw_lc (z := 0) rfl (by decide) ?_
        have hl4 : (x1.set i.toNat 0).length = 12 := (List.length_set ..).trans n79
        refine fx_las rfl u79 (by omega) (by omega) (by omega) ?_
        intro h_141 e_141 f_141 l_141
        have k_141 := l_141.trans ul
        have fr_141 := hfr_w F f_141 l_141 (by decide)
        have g_141_66 := (f_141 66 (by decide)).trans u66
        have g_141_79 : cE h_141 79 (.inl (.long, fL (x1.set i.toNat 0))) := e_141
        refine fw_inc (a := i) (loc' := [some (.ref 66), some (fI p), some (fI (i + 1))]) rfl rfl (Nat.le_of_ble_eq_true rfl) rfl ?_
        refine ik_Wk 1 (pc' := 2) (loc' := [some (.ref 66), some (fI p), some (fI (i + 1))]) (st' := []) (h' := h_141) (cl' := 0) (sl' := 0) rfl ?_
        exact ih  (i + 1) (x1.set i.toNat 0) h_141 g_141_66 g_141_79 hl4 k_141 fr_141 (by omega) (mf_is_x hx (by omega) (by omega) (by show _ = if i.toNat = p.toNat then _ else _; rw [if_neg (by omega)])) (by omega)

theorem cr_setIn {h : List ik_E} {p : Int} {f : Nat → Int} {xs : List Int} (q0 : 0 ≤ p ∧ p < 12) (h66 : cE h 66 (.inr (10, [fI (f 0), .ref 67, .ref 68, .ref 69, fI (f 4), .ref 70, .ref 71, fI (f 7), fI (f 8), .ref 72, fI (f 10), fI (f 11), fI (f 12), fJ (f 13), fI (f 14), fI (f 15), fI (f 16), fI (f 17), .ref 73, .ref 74, .ref 75, .ref 76, .ref 77, .ref 78, fI (f 24), .ref 79, .ref 80, .ref 81, .ref 82, .ref 83, .ref 84, .ref 85, fJ (f 32), fJ (f 33), .ref 86, .ref 87, fI (f 36), .ref 88, .ref 89, .ref 90, .ref 91, .ref 92, .ref 93]))) (h79 : cE h 79 (.inl (.long, fL xs))) (n79 : xs.length = 12) (hl : h.length = 94) : ik_F 154 [.ref 66, fI p] h (fun rv h' => ∃ (xs' : List Int), rv = [] ∧ cE h' 79 (.inl (.long, fL xs')) ∧ xs'.length = 12 ∧ (mf_is 12 xs' (mf_up (fun _ => 0) p.toNat 1000000000)) ∧ hfr [79] h h') := by
  refine ik_Wk 2 (pc' := 2) (loc' := [some (.ref 66), some (fI p), some (fI 0)]) (st' := []) (h' := h) (cl' := 0) (sl' := 0) rfl ?_
  exact cr_setInL (p := p) (f := f) (xs := xs) q0  13 0 xs h h66 h79 n79 hl (hfr_refl [79] h) (by omega) (mf_is_0 (by omega)) (by omega)

theorem cr_goOn {h : List ik_E} {pl : Int} {f : Nat → Int} {s : Nat} {cn : List Int} {go : List Int} {ch : List Int} {gt : List Int} {gd : List Int} {xs : List Int} {ys : List Int} {o : Nat → Int} {kd : Int} {own : Int} (q0 : 1 ≤ pl ∧ pl ≤ 12) (q1 : s < 4096) (q2 : ∀ x : Int, 0 ≤ x → x < pl - 1 → 0 ≤ cn.getD x.toNat 0 ∧ cn.getD x.toNat 0 ≤ 4) (q3 : ∀ x : Int, 0 ≤ x → x < pl - 1 → 1 ≤ cn.getD x.toNat 0 ∧ ∀ j : Int, 4 * x ≤ j → j < 4 * x + cn.getD x.toNat 0 → 0 ≤ ch.getD j.toNat 0 ∧ ch.getD j.toNat 0 ≤ 100) (q4 : ∀ x : Int, 0 ≤ x → x < pl - 1 → mx_ok pl (mx_w cn go ch s x)) (q5 : mf_is pl xs o) (q6 : mf_gd pl o) (q7 : 0 ≤ kd ∧ kd ≤ 2) (q8 : 0 ≤ own ∧ own ≤ 200) (h66 : cE h 66 (.inr (10, [fI pl, .ref 67, .ref 68, .ref 69, fI ((s : Nat) : Int), .ref 70, .ref 71, fI (f 7), fI (f 8), .ref 72, fI (f 10), fI (f 11), fI (f 12), fJ (f 13), fI (f 14), fI (f 15), fI (f 16), fI (f 17), .ref 73, .ref 74, .ref 75, .ref 76, .ref 77, .ref 78, fI (f 24), .ref 79, .ref 80, .ref 81, .ref 82, .ref 83, .ref 84, .ref 85, fJ (f 32), fJ (f 33), .ref 86, .ref 87, fI (f 36), .ref 88, .ref 89, .ref 90, .ref 91, .ref 92, .ref 93]))) (h67 : cE h 67 (.inl (.int, fA cn))) (n67 : cn.length = 12) (h68 : cE h 68 (.inl (.int, fA go))) (n68 : go.length = 48) (h69 : cE h 69 (.inl (.int, fA ch))) (n69 : ch.length = 48) (h77 : cE h 77 (.inl (.int, fA gt))) (n77 : gt.length = 5) (h78 : cE h 78 (.inl (.int, fA gd))) (n78 : gd.length = 5) (h79 : cE h 79 (.inl (.long, fL xs))) (n79 : xs.length = 12) (h80 : cE h 80 (.inl (.long, fL ys))) (n80 : ys.length = 12) (hl : h.length = 94) : ik_F 155 [.ref 66, fI kd, fI own] h (fun rv h' => ∃ (w' : Int) (gt' : List Int) (gd' : List Int) (xs' : List Int) (ys' : List Int), rv = [] ∧ cE h' 66 (.inr (10, [fI pl, .ref 67, .ref 68, .ref 69, fI ((s : Nat) : Int), .ref 70, .ref 71, fI (f 7), fI (f 8), .ref 72, fI (f 10), fI (f 11), fI (f 12), fJ (f 13), fI (f 14), fI (f 15), fI (f 16), fI (f 17), .ref 73, .ref 74, .ref 75, .ref 76, .ref 77, .ref 78, fI w', .ref 79, .ref 80, .ref 81, .ref 82, .ref 83, .ref 84, .ref 85, fJ (f 32), fJ (f 33), .ref 86, .ref 87, fI (f 36), .ref 88, .ref 89, .ref 90, .ref 91, .ref 92, .ref 93])) ∧ cE h' 77 (.inl (.int, fA gt')) ∧ gt'.length = 5 ∧ cE h' 78 (.inl (.int, fA gd')) ∧ gd'.length = 5 ∧ cE h' 79 (.inl (.long, fL xs')) ∧ xs'.length = 12 ∧ cE h' 80 (.inl (.long, fL ys')) ∧ ys'.length = 12 ∧ (mf_is pl xs' (mf_it (fun x => mx_w cn go ch s x) (pl - 1) (mx_tm kd own) o)) ∧ hfr [66, 77, 78, 79, 80] h h') := by
  refine ik_Wk 2 (pc' := 2) (loc' := [some (.ref 66), some (fI kd), some (fI own)]) (st' := [fI 2, fI kd]) (h' := h) (cl' := 0) (sl' := 0) rfl ?_
  refine fw_ic_ne rfl rfl (by omega) (by omega) (by omega) (by omega) (fun hc1 => ?_) (fun hc1 => ?_)
  · refine ik_Wk 2 (pc' := 7) (loc' := [some (.ref 66), some (fI kd), some (fI own)]) (st' := [fI 2, fI own]) (h' := h) (cl' := 0) (sl' := 0) rfl ?_
    refine fx_irem rfl (by omega) (by omega) (by omega) (by omega) ?_
    refine fw_if_ne rfl rfl (by omega) (by omega) (fun hc2 => ?_) (fun hc2 => ?_)
    · refine ik_Wk 1 (pc' := 12) (loc' := [some (.ref 66), some (fI kd), some (fI own)]) (st' := [.ref 66]) (h' := h) (cl' := 0) (sl' := 0) rfl ?_
      refine fw_call 153 1 0 [.ref 66] [] rfl rfl rfl (by decide) rfl rfl (fw_rec hl rfl h66 rfl (by decide)) (cr_flow (pl := pl) (f := fun j => ([0, 0, 0, 0, 0, 0, 0, f 7, f 8, 0, f 10, f 11, f 12, f 13, f 14, f 15, f 16, f 17, 0, 0, 0, 0, 0, 0, f 24, 0, 0, 0, 0, 0, 0, 0, f 32, f 33, 0, 0, f 36, 0, 0, 0, 0, 0, 0] : List Int).getD j 0) (s := s) (cn := cn) (go := go) (ch := ch) (gt := gt) (gd := gd) (xs := xs) (ys := ys) (by omega) (by omega) q2 q3 q4 q5 q6 h66 h67 n67 h68 n68 h69 n69 h77 n77 h78 n78 h79 n79 h80 n80 hl) ?_
      rintro _ h_142 ⟨w'_142, gt'_142, gd'_142, xs'_142, ys'_142, rfl, e_142_66, e_142_77, m_142_77, e_142_78, m_142_78, e_142_79, m_142_79, e_142_80, m_142_80, p_142_0, F_142⟩
      have k_142 := F_142.1.trans hl
      have fr_142 := hfr_c (hfr_refl [66, 77, 78, 79, 80] h) F_142 (by decide)
      have g_142_67 := (F_142.2 67 (by decide +kernel)).trans h67
      have g_142_68 := (F_142.2 68 (by decide +kernel)).trans h68
      have g_142_69 := (F_142.2 69 (by decide +kernel)).trans h69
      have g_142_66 : cE h_142 66 (.inr (10, [fI pl, .ref 67, .ref 68, .ref 69, fI ((s : Nat) : Int), .ref 70, .ref 71, fI (f 7), fI (f 8), .ref 72, fI (f 10), fI (f 11), fI (f 12), fJ (f 13), fI (f 14), fI (f 15), fI (f 16), fI (f 17), .ref 73, .ref 74, .ref 75, .ref 76, .ref 77, .ref 78, fI w'_142, .ref 79, .ref 80, .ref 81, .ref 82, .ref 83, .ref 84, .ref 85, fJ (f 32), fJ (f 33), .ref 86, .ref 87, fI (f 36), .ref 88, .ref 89, .ref 90, .ref 91, .ref 92, .ref 93])) := e_142_66
      have g_142_77 : cE h_142 77 (.inl (.int, fA gt'_142)) := e_142_77
      have g_142_78 : cE h_142 78 (.inl (.int, fA gd'_142)) := e_142_78
      have g_142_79 : cE h_142 79 (.inl (.long, fL xs'_142)) := e_142_79
      have g_142_80 : cE h_142 80 (.inl (.long, fL ys'_142)) := e_142_80
      refine ik_Wk 0 (pc' := 15) (loc' := [some (.ref 66), some (fI kd), some (fI own)]) (st' := []) (h' := h_142) (cl' := 0) (sl' := 0) rfl ?_
      have hg_142 := (mf_fl_gd (W := (fun x => mx_w cn go ch s x)) q4 (by omega) q6).1
      refine ik_Wk 2 (pc' := 17) (loc' := [some (.ref 66), some (fI kd), some (fI own)]) (st' := [fI 1, fI kd]) (h' := h_142) (cl' := 0) (sl' := 0) rfl ?_
      refine fw_ic_ne rfl rfl (by omega) (by omega) (by omega) (by omega) (fun hc3 => ?_) (fun hc3 => ?_)
      · refine ik_Wk 1 (pc' := 21) (loc' := [some (.ref 66), some (fI kd), some (fI own)]) (st' := [.ref 66]) (h' := h_142) (cl' := 0) (sl' := 0) rfl ?_
        refine fw_call 153 1 0 [.ref 66] [] rfl rfl rfl (by decide) rfl rfl (fw_rec k_142 rfl g_142_66 rfl (by decide)) (cr_flow (pl := pl) (f := fun j => ([0, 0, 0, 0, 0, 0, 0, (f 7), (f 8), 0, (f 10), (f 11), (f 12), (f 13), (f 14), (f 15), (f 16), (f 17), 0, 0, 0, 0, 0, 0, w'_142, 0, 0, 0, 0, 0, 0, 0, (f 32), (f 33), 0, 0, (f 36), 0, 0, 0, 0, 0, 0] : List Int).getD j 0) (s := s) (cn := cn) (go := go) (ch := ch) (gt := gt'_142) (gd := gd'_142) (xs := xs'_142) (ys := ys'_142) (by omega) (by omega) q2 q3 q4 p_142_0 hg_142 g_142_66 g_142_67 n67 g_142_68 n68 g_142_69 n69 g_142_77 m_142_77 g_142_78 m_142_78 g_142_79 m_142_79 g_142_80 m_142_80 k_142) ?_
        rintro _ h_143 ⟨w'_143, gt'_143, gd'_143, xs'_143, ys'_143, rfl, e_143_66, e_143_77, m_143_77, e_143_78, m_143_78, e_143_79, m_143_79, e_143_80, m_143_80, p_143_0, F_143⟩
        have k_143 := F_143.1.trans k_142
        have fr_143 := hfr_c fr_142 F_143 (by decide)
        have g_143_67 := (F_143.2 67 (by decide +kernel)).trans g_142_67
        have g_143_68 := (F_143.2 68 (by decide +kernel)).trans g_142_68
        have g_143_69 := (F_143.2 69 (by decide +kernel)).trans g_142_69
        have g_143_66 : cE h_143 66 (.inr (10, [fI pl, .ref 67, .ref 68, .ref 69, fI ((s : Nat) : Int), .ref 70, .ref 71, fI (f 7), fI (f 8), .ref 72, fI (f 10), fI (f 11), fI (f 12), fJ (f 13), fI (f 14), fI (f 15), fI (f 16), fI (f 17), .ref 73, .ref 74, .ref 75, .ref 76, .ref 77, .ref 78, fI w'_143, .ref 79, .ref 80, .ref 81, .ref 82, .ref 83, .ref 84, .ref 85, fJ (f 32), fJ (f 33), .ref 86, .ref 87, fI (f 36), .ref 88, .ref 89, .ref 90, .ref 91, .ref 92, .ref 93])) := e_143_66
        have g_143_77 : cE h_143 77 (.inl (.int, fA gt'_143)) := e_143_77
        have g_143_78 : cE h_143 78 (.inl (.int, fA gd'_143)) := e_143_78
        have g_143_79 : cE h_143 79 (.inl (.long, fL xs'_143)) := e_143_79
        have g_143_80 : cE h_143 80 (.inl (.long, fL ys'_143)) := e_143_80
        refine ik_Wk 0 (pc' := 24) (loc' := [some (.ref 66), some (fI kd), some (fI own)]) (st' := []) (h' := h_143) (cl' := 0) (sl' := 0) rfl ?_
        have hg_143 := (mf_fl_gd (W := (fun x => mx_w cn go ch s x)) q4 (by omega) hg_142).1
        have et : mx_tm kd own = 2 := by unfold mx_tm; (repeat' split) <;> omega
        rw [et]
        exact ik_Wret rfl rfl ⟨_, _, rfl, rfl, rfl, rfl, ⟨w'_143, gt'_143, gd'_143, xs'_143, ys'_143, rfl, g_143_66, g_143_77, m_143_77, g_143_78, m_143_78, g_143_79, m_143_79, g_143_80, m_143_80, p_143_0, fr_143⟩⟩
      · have et : mx_tm kd own = 1 := by unfold mx_tm; (repeat' split) <;> omega
        rw [et]
        exact ik_Wret rfl rfl ⟨_, _, rfl, rfl, rfl, rfl, ⟨w'_142, gt'_142, gd'_142, xs'_142, ys'_142, rfl, g_142_66, g_142_77, m_142_77, g_142_78, m_142_78, g_142_79, m_142_79, g_142_80, m_142_80, p_142_0, fr_142⟩⟩
    · refine ik_Wk 2 (pc' := 17) (loc' := [some (.ref 66), some (fI kd), some (fI own)]) (st' := [fI 1, fI kd]) (h' := h) (cl' := 0) (sl' := 0) rfl ?_
      refine fw_ic_ne rfl rfl (by omega) (by omega) (by omega) (by omega) (fun hc4 => ?_) (fun hc4 => ?_)
      · refine ik_Wk 1 (pc' := 21) (loc' := [some (.ref 66), some (fI kd), some (fI own)]) (st' := [.ref 66]) (h' := h) (cl' := 0) (sl' := 0) rfl ?_
        refine fw_call 153 1 0 [.ref 66] [] rfl rfl rfl (by decide) rfl rfl (fw_rec hl rfl h66 rfl (by decide)) (cr_flow (pl := pl) (f := fun j => ([0, 0, 0, 0, 0, 0, 0, f 7, f 8, 0, f 10, f 11, f 12, f 13, f 14, f 15, f 16, f 17, 0, 0, 0, 0, 0, 0, f 24, 0, 0, 0, 0, 0, 0, 0, f 32, f 33, 0, 0, f 36, 0, 0, 0, 0, 0, 0] : List Int).getD j 0) (s := s) (cn := cn) (go := go) (ch := ch) (gt := gt) (gd := gd) (xs := xs) (ys := ys) (by omega) (by omega) q2 q3 q4 q5 q6 h66 h67 n67 h68 n68 h69 n69 h77 n77 h78 n78 h79 n79 h80 n80 hl) ?_
        rintro _ h_144 ⟨w'_144, gt'_144, gd'_144, xs'_144, ys'_144, rfl, e_144_66, e_144_77, m_144_77, e_144_78, m_144_78, e_144_79, m_144_79, e_144_80, m_144_80, p_144_0, F_144⟩
        have k_144 := F_144.1.trans hl
        have fr_144 := hfr_c (hfr_refl [66, 77, 78, 79, 80] h) F_144 (by decide)
        have g_144_67 := (F_144.2 67 (by decide +kernel)).trans h67
        have g_144_68 := (F_144.2 68 (by decide +kernel)).trans h68
        have g_144_69 := (F_144.2 69 (by decide +kernel)).trans h69
        have g_144_66 : cE h_144 66 (.inr (10, [fI pl, .ref 67, .ref 68, .ref 69, fI ((s : Nat) : Int), .ref 70, .ref 71, fI (f 7), fI (f 8), .ref 72, fI (f 10), fI (f 11), fI (f 12), fJ (f 13), fI (f 14), fI (f 15), fI (f 16), fI (f 17), .ref 73, .ref 74, .ref 75, .ref 76, .ref 77, .ref 78, fI w'_144, .ref 79, .ref 80, .ref 81, .ref 82, .ref 83, .ref 84, .ref 85, fJ (f 32), fJ (f 33), .ref 86, .ref 87, fI (f 36), .ref 88, .ref 89, .ref 90, .ref 91, .ref 92, .ref 93])) := e_144_66
        have g_144_77 : cE h_144 77 (.inl (.int, fA gt'_144)) := e_144_77
        have g_144_78 : cE h_144 78 (.inl (.int, fA gd'_144)) := e_144_78
        have g_144_79 : cE h_144 79 (.inl (.long, fL xs'_144)) := e_144_79
        have g_144_80 : cE h_144 80 (.inl (.long, fL ys'_144)) := e_144_80
        refine ik_Wk 0 (pc' := 24) (loc' := [some (.ref 66), some (fI kd), some (fI own)]) (st' := []) (h' := h_144) (cl' := 0) (sl' := 0) rfl ?_
        have hg_144 := (mf_fl_gd (W := (fun x => mx_w cn go ch s x)) q4 (by omega) q6).1
        have et : mx_tm kd own = 1 := by unfold mx_tm; (repeat' split) <;> omega
        rw [et]
        exact ik_Wret rfl rfl ⟨_, _, rfl, rfl, rfl, rfl, ⟨w'_144, gt'_144, gd'_144, xs'_144, ys'_144, rfl, g_144_66, g_144_77, m_144_77, g_144_78, m_144_78, g_144_79, m_144_79, g_144_80, m_144_80, p_144_0, fr_144⟩⟩
      · have et : mx_tm kd own = 0 := by unfold mx_tm; (repeat' split) <;> omega
        rw [et]
        exact ik_Wret rfl rfl ⟨_, _, rfl, rfl, rfl, rfl, ⟨(f 24), gt, gd, xs, ys, rfl, h66, h77, n77, h78, n78, h79, n79, h80, n80, q5, (hfr_refl [66, 77, 78, 79, 80] h)⟩⟩
  · refine ik_Wk 1 (pc' := 12) (loc' := [some (.ref 66), some (fI kd), some (fI own)]) (st' := [.ref 66]) (h' := h) (cl' := 0) (sl' := 0) rfl ?_
    refine fw_call 153 1 0 [.ref 66] [] rfl rfl rfl (by decide) rfl rfl (fw_rec hl rfl h66 rfl (by decide)) (cr_flow (pl := pl) (f := fun j => ([0, 0, 0, 0, 0, 0, 0, f 7, f 8, 0, f 10, f 11, f 12, f 13, f 14, f 15, f 16, f 17, 0, 0, 0, 0, 0, 0, f 24, 0, 0, 0, 0, 0, 0, 0, f 32, f 33, 0, 0, f 36, 0, 0, 0, 0, 0, 0] : List Int).getD j 0) (s := s) (cn := cn) (go := go) (ch := ch) (gt := gt) (gd := gd) (xs := xs) (ys := ys) (by omega) (by omega) q2 q3 q4 q5 q6 h66 h67 n67 h68 n68 h69 n69 h77 n77 h78 n78 h79 n79 h80 n80 hl) ?_
    rintro _ h_145 ⟨w'_145, gt'_145, gd'_145, xs'_145, ys'_145, rfl, e_145_66, e_145_77, m_145_77, e_145_78, m_145_78, e_145_79, m_145_79, e_145_80, m_145_80, p_145_0, F_145⟩
    have k_145 := F_145.1.trans hl
    have fr_145 := hfr_c (hfr_refl [66, 77, 78, 79, 80] h) F_145 (by decide)
    have g_145_67 := (F_145.2 67 (by decide +kernel)).trans h67
    have g_145_68 := (F_145.2 68 (by decide +kernel)).trans h68
    have g_145_69 := (F_145.2 69 (by decide +kernel)).trans h69
    have g_145_66 : cE h_145 66 (.inr (10, [fI pl, .ref 67, .ref 68, .ref 69, fI ((s : Nat) : Int), .ref 70, .ref 71, fI (f 7), fI (f 8), .ref 72, fI (f 10), fI (f 11), fI (f 12), fJ (f 13), fI (f 14), fI (f 15), fI (f 16), fI (f 17), .ref 73, .ref 74, .ref 75, .ref 76, .ref 77, .ref 78, fI w'_145, .ref 79, .ref 80, .ref 81, .ref 82, .ref 83, .ref 84, .ref 85, fJ (f 32), fJ (f 33), .ref 86, .ref 87, fI (f 36), .ref 88, .ref 89, .ref 90, .ref 91, .ref 92, .ref 93])) := e_145_66
    have g_145_77 : cE h_145 77 (.inl (.int, fA gt'_145)) := e_145_77
    have g_145_78 : cE h_145 78 (.inl (.int, fA gd'_145)) := e_145_78
    have g_145_79 : cE h_145 79 (.inl (.long, fL xs'_145)) := e_145_79
    have g_145_80 : cE h_145 80 (.inl (.long, fL ys'_145)) := e_145_80
    refine ik_Wk 0 (pc' := 15) (loc' := [some (.ref 66), some (fI kd), some (fI own)]) (st' := []) (h' := h_145) (cl' := 0) (sl' := 0) rfl ?_
    have hg_145 := (mf_fl_gd (W := (fun x => mx_w cn go ch s x)) q4 (by omega) q6).1
    refine ik_Wk 2 (pc' := 17) (loc' := [some (.ref 66), some (fI kd), some (fI own)]) (st' := [fI 1, fI kd]) (h' := h_145) (cl' := 0) (sl' := 0) rfl ?_
    refine fw_ic_ne rfl rfl (by omega) (by omega) (by omega) (by omega) (fun hc5 => ?_) (fun hc5 => ?_)
    · refine ik_Wk 1 (pc' := 21) (loc' := [some (.ref 66), some (fI kd), some (fI own)]) (st' := [.ref 66]) (h' := h_145) (cl' := 0) (sl' := 0) rfl ?_
      refine fw_call 153 1 0 [.ref 66] [] rfl rfl rfl (by decide) rfl rfl (fw_rec k_145 rfl g_145_66 rfl (by decide)) (cr_flow (pl := pl) (f := fun j => ([0, 0, 0, 0, 0, 0, 0, (f 7), (f 8), 0, (f 10), (f 11), (f 12), (f 13), (f 14), (f 15), (f 16), (f 17), 0, 0, 0, 0, 0, 0, w'_145, 0, 0, 0, 0, 0, 0, 0, (f 32), (f 33), 0, 0, (f 36), 0, 0, 0, 0, 0, 0] : List Int).getD j 0) (s := s) (cn := cn) (go := go) (ch := ch) (gt := gt'_145) (gd := gd'_145) (xs := xs'_145) (ys := ys'_145) (by omega) (by omega) q2 q3 q4 p_145_0 hg_145 g_145_66 g_145_67 n67 g_145_68 n68 g_145_69 n69 g_145_77 m_145_77 g_145_78 m_145_78 g_145_79 m_145_79 g_145_80 m_145_80 k_145) ?_
      rintro _ h_146 ⟨w'_146, gt'_146, gd'_146, xs'_146, ys'_146, rfl, e_146_66, e_146_77, m_146_77, e_146_78, m_146_78, e_146_79, m_146_79, e_146_80, m_146_80, p_146_0, F_146⟩
      have k_146 := F_146.1.trans k_145
      have fr_146 := hfr_c fr_145 F_146 (by decide)
      have g_146_67 := (F_146.2 67 (by decide +kernel)).trans g_145_67
      have g_146_68 := (F_146.2 68 (by decide +kernel)).trans g_145_68
      have g_146_69 := (F_146.2 69 (by decide +kernel)).trans g_145_69
      have g_146_66 : cE h_146 66 (.inr (10, [fI pl, .ref 67, .ref 68, .ref 69, fI ((s : Nat) : Int), .ref 70, .ref 71, fI (f 7), fI (f 8), .ref 72, fI (f 10), fI (f 11), fI (f 12), fJ (f 13), fI (f 14), fI (f 15), fI (f 16), fI (f 17), .ref 73, .ref 74, .ref 75, .ref 76, .ref 77, .ref 78, fI w'_146, .ref 79, .ref 80, .ref 81, .ref 82, .ref 83, .ref 84, .ref 85, fJ (f 32), fJ (f 33), .ref 86, .ref 87, fI (f 36), .ref 88, .ref 89, .ref 90, .ref 91, .ref 92, .ref 93])) := e_146_66
      have g_146_77 : cE h_146 77 (.inl (.int, fA gt'_146)) := e_146_77
      have g_146_78 : cE h_146 78 (.inl (.int, fA gd'_146)) := e_146_78
      have g_146_79 : cE h_146 79 (.inl (.long, fL xs'_146)) := e_146_79
      have g_146_80 : cE h_146 80 (.inl (.long, fL ys'_146)) := e_146_80
      refine ik_Wk 0 (pc' := 24) (loc' := [some (.ref 66), some (fI kd), some (fI own)]) (st' := []) (h' := h_146) (cl' := 0) (sl' := 0) rfl ?_
      have hg_146 := (mf_fl_gd (W := (fun x => mx_w cn go ch s x)) q4 (by omega) hg_145).1
      have et : mx_tm kd own = 2 := by unfold mx_tm; (repeat' split) <;> omega
      rw [et]
      exact ik_Wret rfl rfl ⟨_, _, rfl, rfl, rfl, rfl, ⟨w'_146, gt'_146, gd'_146, xs'_146, ys'_146, rfl, g_146_66, g_146_77, m_146_77, g_146_78, m_146_78, g_146_79, m_146_79, g_146_80, m_146_80, p_146_0, fr_146⟩⟩
    · have et : mx_tm kd own = 1 := by unfold mx_tm; (repeat' split) <;> omega
      rw [et]
      exact ik_Wret rfl rfl ⟨_, _, rfl, rfl, rfl, rfl, ⟨w'_145, gt'_145, gd'_145, xs'_145, ys'_145, rfl, g_145_66, g_145_77, m_145_77, g_145_78, m_145_78, g_145_79, m_145_79, g_145_80, m_145_80, p_145_0, fr_145⟩⟩

theorem cr_oddsAtL {h : List ik_E} {pl : Int} {f : Nat → Int} {s : Nat} {cn : List Int} {go : List Int} {ch : List Int} {gt : List Int} {gd : List Int} {xs : List Int} {ys : List Int} {kd : Int} {qp : Int} {t : Int} (q0 : 1 ≤ pl ∧ pl ≤ 12) (q1 : s < 4096) (q2 : ∀ x : Int, 0 ≤ x → x < pl - 1 → 0 ≤ cn.getD x.toNat 0 ∧ cn.getD x.toNat 0 ≤ 4) (q3 : ∀ x : Int, 0 ≤ x → x < pl - 1 → 1 ≤ cn.getD x.toNat 0 ∧ ∀ j : Int, 4 * x ≤ j → j < 4 * x + cn.getD x.toNat 0 → 0 ≤ ch.getD j.toNat 0 ∧ ch.getD j.toNat 0 ≤ 100) (q4 : ∀ x : Int, 0 ≤ x → x < pl - 1 → mx_ok pl (mx_w cn go ch s x)) (q5 : 0 ≤ kd ∧ kd ≤ 2) (q6 : 0 ≤ qp ∧ qp < pl) (q7 : 0 ≤ t ∧ t ≤ 200)  : ∀ (k : Nat) (i : Int) (w1 : Int) (g1 : List Int) (d1 : List Int) (x1 : List Int) (y1 : List Int) (u : List ik_E) (u66 : cE u 66 (.inr (10, [fI pl, .ref 67, .ref 68, .ref 69, fI ((s : Nat) : Int), .ref 70, .ref 71, fI (f 7), fI (f 8), .ref 72, fI (f 10), fI (f 11), fI (f 12), fJ (f 13), fI (f 14), fI (f 15), fI (f 16), fI (f 17), .ref 73, .ref 74, .ref 75, .ref 76, .ref 77, .ref 78, fI w1, .ref 79, .ref 80, .ref 81, .ref 82, .ref 83, .ref 84, .ref 85, fJ (f 32), fJ (f 33), .ref 86, .ref 87, fI (f 36), .ref 88, .ref 89, .ref 90, .ref 91, .ref 92, .ref 93]))) (u67 : cE u 67 (.inl (.int, fA cn))) (n67 : cn.length = 12) (u68 : cE u 68 (.inl (.int, fA go))) (n68 : go.length = 48) (u69 : cE u 69 (.inl (.int, fA ch))) (n69 : ch.length = 48) (u77 : cE u 77 (.inl (.int, fA g1))) (n77 : g1.length = 5) (u78 : cE u 78 (.inl (.int, fA d1))) (n78 : d1.length = 5) (u79 : cE u 79 (.inl (.long, fL x1))) (n79 : x1.length = 12) (u80 : cE u 80 (.inl (.long, fL y1))) (n80 : y1.length = 12) (ul : u.length = 94) (F : hfr [66, 77, 78, 79, 80] h u) (hi : 1 ≤ i ∧ i ≤ t + 1) (hx : mf_is pl x1 (mf_od (fun x => mx_w cn go ch s x) (pl - 1) kd qp (i - 1).toNat)) (hk : t + 1 - i < (k : Int)), ik_G 156 8 [some (.ref 66), some (fI kd), some (fI qp), some (fI t), some (fI i)] [] u (fun rv h' => ∃ (w' : Int) (gt' : List Int) (gd' : List Int) (xs' : List Int) (ys' : List Int), rv = [] ∧ cE h' 66 (.inr (10, [fI pl, .ref 67, .ref 68, .ref 69, fI ((s : Nat) : Int), .ref 70, .ref 71, fI (f 7), fI (f 8), .ref 72, fI (f 10), fI (f 11), fI (f 12), fJ (f 13), fI (f 14), fI (f 15), fI (f 16), fI (f 17), .ref 73, .ref 74, .ref 75, .ref 76, .ref 77, .ref 78, fI w', .ref 79, .ref 80, .ref 81, .ref 82, .ref 83, .ref 84, .ref 85, fJ (f 32), fJ (f 33), .ref 86, .ref 87, fI (f 36), .ref 88, .ref 89, .ref 90, .ref 91, .ref 92, .ref 93])) ∧ cE h' 77 (.inl (.int, fA gt')) ∧ gt'.length = 5 ∧ cE h' 78 (.inl (.int, fA gd')) ∧ gd'.length = 5 ∧ cE h' 79 (.inl (.long, fL xs')) ∧ xs'.length = 12 ∧ cE h' 80 (.inl (.long, fL ys')) ∧ ys'.length = 12 ∧ (mf_is pl xs' (mf_od (fun x => mx_w cn go ch s x) (pl - 1) kd qp t.toNat)) ∧ hfr [66, 77, 78, 79, 80] h h') := by
  intro k
  induction k with
  | zero => intro i w1 g1 d1 x1 y1 u u66 u67 n67 u68 n68 u69 n69 u77 n77 u78 n78 u79 n79 u80 n80 ul F hi hx hk; omega
  | succ k ih =>
    intro i w1 g1 d1 x1 y1 u u66 u67 n67 u68 n68 u69 n69 u77 n77 u78 n78 u79 n79 u80 n80 ul F hi hx hk
    refine ik_Wk 2 (pc' := 11) (loc' := [some (.ref 66), some (fI kd), some (fI qp), some (fI t), some (fI i)]) (st' := [fI t, fI i]) (h' := u) (cl' := 0) (sl' := 0) rfl ?_
    refine fw_ic_gt rfl rfl (by omega) (by omega) (by omega) (by omega) (fun hc1 => ?_) (fun hc1 => ?_)
    · have ei : i - 1 = t := by omega
      rw [ei] at hx
      exact ik_Wret rfl rfl ⟨_, _, rfl, rfl, rfl, rfl, ⟨w1, g1, d1, x1, y1, rfl, u66, u77, n77, u78, n78, u79, n79, u80, n80, hx, F⟩⟩
    · refine ik_Wk 3 (pc' := 18) (loc' := [some (.ref 66), some (fI kd), some (fI qp), some (fI t), some (fI i)]) (st' := [fI i, fI kd, .ref 66]) (h' := u) (cl' := 0) (sl' := 0) rfl ?_
      refine fw_call 155 3 0 [.ref 66, fI kd, fI i] [] rfl rfl rfl (by decide) rfl rfl (fw_rec ul rfl u66 rfl (by decide)) (cr_goOn (pl := pl) (f := fun j => ([0, 0, 0, 0, 0, 0, 0, f 7, f 8, 0, f 10, f 11, f 12, f 13, f 14, f 15, f 16, f 17, 0, 0, 0, 0, 0, 0, w1, 0, 0, 0, 0, 0, 0, 0, f 32, f 33, 0, 0, f 36, 0, 0, 0, 0, 0, 0] : List Int).getD j 0) (s := s) (cn := cn) (go := go) (ch := ch) (gt := g1) (gd := d1) (xs := x1) (ys := y1) (kd := kd) (own := i) (by omega) (by omega) q2 q3 q4 hx (mf_od_gd (W := (fun x => mx_w cn go ch s x)) q4 (by omega) _) (by omega) (by omega) u66 u67 n67 u68 n68 u69 n69 u77 n77 u78 n78 u79 n79 u80 n80 ul) ?_
      rintro _ h_147 ⟨w'_147, gt'_147, gd'_147, xs'_147, ys'_147, rfl, e_147_66, e_147_77, m_147_77, e_147_78, m_147_78, e_147_79, m_147_79, e_147_80, m_147_80, p_147_0, F_147⟩
      have k_147 := F_147.1.trans ul
      have fr_147 := hfr_c F F_147 (by decide)
      have g_147_67 := (F_147.2 67 (by decide +kernel)).trans u67
      have g_147_68 := (F_147.2 68 (by decide +kernel)).trans u68
      have g_147_69 := (F_147.2 69 (by decide +kernel)).trans u69
      have g_147_66 : cE h_147 66 (.inr (10, [fI pl, .ref 67, .ref 68, .ref 69, fI ((s : Nat) : Int), .ref 70, .ref 71, fI (f 7), fI (f 8), .ref 72, fI (f 10), fI (f 11), fI (f 12), fJ (f 13), fI (f 14), fI (f 15), fI (f 16), fI (f 17), .ref 73, .ref 74, .ref 75, .ref 76, .ref 77, .ref 78, fI w'_147, .ref 79, .ref 80, .ref 81, .ref 82, .ref 83, .ref 84, .ref 85, fJ (f 32), fJ (f 33), .ref 86, .ref 87, fI (f 36), .ref 88, .ref 89, .ref 90, .ref 91, .ref 92, .ref 93])) := e_147_66
      have g_147_77 : cE h_147 77 (.inl (.int, fA gt'_147)) := e_147_77
      have g_147_78 : cE h_147 78 (.inl (.int, fA gd'_147)) := e_147_78
      have g_147_79 : cE h_147 79 (.inl (.long, fL xs'_147)) := e_147_79
      have g_147_80 : cE h_147 80 (.inl (.long, fL ys'_147)) := e_147_80
      refine ik_Wk 0 (pc' := 21) (loc' := [some (.ref 66), some (fI kd), some (fI qp), some (fI t), some (fI i)]) (st' := []) (h' := h_147) (cl' := 0) (sl' := 0) rfl ?_
      refine fw_inc (a := i) (loc' := [some (.ref 66), some (fI kd), some (fI qp), some (fI t), some (fI (i + 1))]) rfl rfl (Nat.le_of_ble_eq_true rfl) rfl ?_
      refine ik_Wk 1 (pc' := 8) (loc' := [some (.ref 66), some (fI kd), some (fI qp), some (fI t), some (fI (i + 1))]) (st' := []) (h' := h_147) (cl' := 0) (sl' := 0) rfl ?_
      exact ih  (i + 1) w'_147 gt'_147 gd'_147 xs'_147 ys'_147 h_147 g_147_66 g_147_67 n67 g_147_68 n68 g_147_69 n69 g_147_77 m_147_77 g_147_78 m_147_78 g_147_79 m_147_79 g_147_80 m_147_80 k_147 fr_147 (by omega) (by have e := mf_od_s (W := (fun x => mx_w cn go ch s x)) (br := pl - 1) (k := kd) (q := qp) (u := i - 1) (by omega); rw [show i - 1 + 1 = i by omega] at e; rw [show i + 1 - 1 = i by omega, e]; exact p_147_0) (by omega)

theorem cr_oddsAt {h : List ik_E} {pl : Int} {f : Nat → Int} {s : Nat} {cn : List Int} {go : List Int} {ch : List Int} {gt : List Int} {gd : List Int} {xs : List Int} {ys : List Int} {kd : Int} {qp : Int} {t : Int} (q0 : 1 ≤ pl ∧ pl ≤ 12) (q1 : s < 4096) (q2 : ∀ x : Int, 0 ≤ x → x < pl - 1 → 0 ≤ cn.getD x.toNat 0 ∧ cn.getD x.toNat 0 ≤ 4) (q3 : ∀ x : Int, 0 ≤ x → x < pl - 1 → 1 ≤ cn.getD x.toNat 0 ∧ ∀ j : Int, 4 * x ≤ j → j < 4 * x + cn.getD x.toNat 0 → 0 ≤ ch.getD j.toNat 0 ∧ ch.getD j.toNat 0 ≤ 100) (q4 : ∀ x : Int, 0 ≤ x → x < pl - 1 → mx_ok pl (mx_w cn go ch s x)) (q5 : 0 ≤ kd ∧ kd ≤ 2) (q6 : 0 ≤ qp ∧ qp < pl) (q7 : 0 ≤ t ∧ t ≤ 200) (h66 : cE h 66 (.inr (10, [fI pl, .ref 67, .ref 68, .ref 69, fI ((s : Nat) : Int), .ref 70, .ref 71, fI (f 7), fI (f 8), .ref 72, fI (f 10), fI (f 11), fI (f 12), fJ (f 13), fI (f 14), fI (f 15), fI (f 16), fI (f 17), .ref 73, .ref 74, .ref 75, .ref 76, .ref 77, .ref 78, fI (f 24), .ref 79, .ref 80, .ref 81, .ref 82, .ref 83, .ref 84, .ref 85, fJ (f 32), fJ (f 33), .ref 86, .ref 87, fI (f 36), .ref 88, .ref 89, .ref 90, .ref 91, .ref 92, .ref 93]))) (h67 : cE h 67 (.inl (.int, fA cn))) (n67 : cn.length = 12) (h68 : cE h 68 (.inl (.int, fA go))) (n68 : go.length = 48) (h69 : cE h 69 (.inl (.int, fA ch))) (n69 : ch.length = 48) (h77 : cE h 77 (.inl (.int, fA gt))) (n77 : gt.length = 5) (h78 : cE h 78 (.inl (.int, fA gd))) (n78 : gd.length = 5) (h79 : cE h 79 (.inl (.long, fL xs))) (n79 : xs.length = 12) (h80 : cE h 80 (.inl (.long, fL ys))) (n80 : ys.length = 12) (hl : h.length = 94) : ik_F 156 [.ref 66, fI kd, fI qp, fI t] h (fun rv h' => ∃ (w' : Int) (gt' : List Int) (gd' : List Int) (xs' : List Int) (ys' : List Int), rv = [] ∧ cE h' 66 (.inr (10, [fI pl, .ref 67, .ref 68, .ref 69, fI ((s : Nat) : Int), .ref 70, .ref 71, fI (f 7), fI (f 8), .ref 72, fI (f 10), fI (f 11), fI (f 12), fJ (f 13), fI (f 14), fI (f 15), fI (f 16), fI (f 17), .ref 73, .ref 74, .ref 75, .ref 76, .ref 77, .ref 78, fI w', .ref 79, .ref 80, .ref 81, .ref 82, .ref 83, .ref 84, .ref 85, fJ (f 32), fJ (f 33), .ref 86, .ref 87, fI (f 36), .ref 88, .ref 89, .ref 90, .ref 91, .ref 92, .ref 93])) ∧ cE h' 77 (.inl (.int, fA gt')) ∧ gt'.length = 5 ∧ cE h' 78 (.inl (.int, fA gd')) ∧ gd'.length = 5 ∧ cE h' 79 (.inl (.long, fL xs')) ∧ xs'.length = 12 ∧ cE h' 80 (.inl (.long, fL ys')) ∧ ys'.length = 12 ∧ (mf_is pl xs' (mf_od (fun x => mx_w cn go ch s x) (pl - 1) kd qp t.toNat)) ∧ hfr [66, 77, 78, 79, 80] h h') := by
  refine ik_Wk 2 (pc' := 2) (loc' := [some (.ref 66), some (fI kd), some (fI qp), some (fI t), none]) (st' := [fI qp, .ref 66]) (h' := h) (cl' := 0) (sl' := 0) rfl ?_
  refine fw_call 154 2 0 [.ref 66, fI qp] [] rfl rfl rfl (by decide) rfl rfl (fw_rec hl rfl h66 rfl (by decide)) (cr_setIn (p := qp) (f := fun j => ([pl, 0, 0, 0, ((s : Nat) : Int), 0, 0, f 7, f 8, 0, f 10, f 11, f 12, f 13, f 14, f 15, f 16, f 17, 0, 0, 0, 0, 0, 0, f 24, 0, 0, 0, 0, 0, 0, 0, f 32, f 33, 0, 0, f 36, 0, 0, 0, 0, 0, 0] : List Int).getD j 0) (xs := xs) (by omega) h66 h79 n79 hl) ?_
  rintro _ h_148 ⟨xs'_148, rfl, e_148_79, m_148_79, p_148_0, F_148⟩
  have k_148 := F_148.1.trans hl
  have fr_148 := hfr_c (hfr_refl [66, 77, 78, 79, 80] h) F_148 (by decide)
  have g_148_66 := (F_148.2 66 (by decide +kernel)).trans h66
  have g_148_67 := (F_148.2 67 (by decide +kernel)).trans h67
  have g_148_68 := (F_148.2 68 (by decide +kernel)).trans h68
  have g_148_69 := (F_148.2 69 (by decide +kernel)).trans h69
  have g_148_77 := (F_148.2 77 (by decide +kernel)).trans h77
  have g_148_78 := (F_148.2 78 (by decide +kernel)).trans h78
  have g_148_80 := (F_148.2 80 (by decide +kernel)).trans h80
  have g_148_79 : cE h_148 79 (.inl (.long, fL xs'_148)) := e_148_79
  refine ik_Wk 0 (pc' := 5) (loc' := [some (.ref 66), some (fI kd), some (fI qp), some (fI t), none]) (st' := []) (h' := h_148) (cl' := 0) (sl' := 0) rfl ?_
  refine ik_Wk 2 (pc' := 8) (loc' := [some (.ref 66), some (fI kd), some (fI qp), some (fI t), some (fI 1)]) (st' := []) (h' := h_148) (cl' := 0) (sl' := 0) rfl ?_
  exact cr_oddsAtL (pl := pl) (f := f) (s := s) (cn := cn) (go := go) (ch := ch) (gt := gt) (gd := gd) (xs := xs) (ys := ys) (kd := kd) (qp := qp) (t := t) q0 q1 q2 q3 q4 q5 q6 q7  (t.toNat + 1) 1 (f 24) gt gd xs'_148 ys h_148 g_148_66 g_148_67 n67 g_148_68 n68 g_148_69 n69 g_148_77 n77 g_148_78 n78 g_148_79 m_148_79 g_148_80 n80 k_148 fr_148 (by omega) (fun j hj => p_148_0 j (by omega)) (by omega)

theorem cr_comesRowL {h : List ik_E} {pl : Int} {f : Nat → Int} {s : Nat} {cn : List Int} {go : List Int} {ch : List Int} {gt : List Int} {gd : List Int} {xs : List Int} {ys : List Int} {kd : Int} {qp : Int} {r : Nat} {rr : List Int} (q0 : 1 ≤ pl ∧ pl ≤ 12) (q1 : s < 4096) (q2 : ∀ x : Int, 0 ≤ x → x < pl - 1 → 0 ≤ cn.getD x.toNat 0 ∧ cn.getD x.toNat 0 ≤ 4) (q3 : ∀ x : Int, 0 ≤ x → x < pl - 1 → 1 ≤ cn.getD x.toNat 0 ∧ ∀ j : Int, 4 * x ≤ j → j < 4 * x + cn.getD x.toNat 0 → 0 ≤ ch.getD j.toNat 0 ∧ ch.getD j.toNat 0 ≤ 100) (q4 : ∀ x : Int, 0 ≤ x → x < pl - 1 → mx_ok pl (mx_w cn go ch s x)) (q5 : 0 ≤ kd ∧ kd ≤ 2) (q6 : 0 ≤ qp ∧ qp < pl) (q7 : r = 81 ∨ r = 82)  : ∀ (k : Nat) (i : Int) (w1 : Int) (g1 : List Int) (d1 : List Int) (x1 : List Int) (y1 : List Int) (r1 : List Int) (u : List ik_E) (u66 : cE u 66 (.inr (10, [fI pl, .ref 67, .ref 68, .ref 69, fI ((s : Nat) : Int), .ref 70, .ref 71, fI (f 7), fI (f 8), .ref 72, fI (f 10), fI (f 11), fI (f 12), fJ (f 13), fI (f 14), fI (f 15), fI (f 16), fI (f 17), .ref 73, .ref 74, .ref 75, .ref 76, .ref 77, .ref 78, fI w1, .ref 79, .ref 80, .ref 81, .ref 82, .ref 83, .ref 84, .ref 85, fJ (f 32), fJ (f 33), .ref 86, .ref 87, fI (f 36), .ref 88, .ref 89, .ref 90, .ref 91, .ref 92, .ref 93]))) (u67 : cE u 67 (.inl (.int, fA cn))) (n67 : cn.length = 12) (u68 : cE u 68 (.inl (.int, fA go))) (n68 : go.length = 48) (u69 : cE u 69 (.inl (.int, fA ch))) (n69 : ch.length = 48) (u77 : cE u 77 (.inl (.int, fA g1))) (n77 : g1.length = 5) (u78 : cE u 78 (.inl (.int, fA d1))) (n78 : d1.length = 5) (u79 : cE u 79 (.inl (.long, fL x1))) (n79 : x1.length = 12) (u80 : cE u 80 (.inl (.long, fL y1))) (n80 : y1.length = 12) (ur : cE u r (.inl (.long, fL r1))) (nr : r1.length = 201) (ul : u.length = 94) (F : hfr [66, 77, 78, 79, 80, r] h u) (hi : 1 ≤ i ∧ i ≤ 201) (hx : mf_is pl x1 (mf_od (fun x => mx_w cn go ch s x) (pl - 1) kd qp (i - 1).toNat)) (hr : ∀ j : Nat, (j : Int) < i → r1.getD j 0 = mf_cm (fun x => mx_w cn go ch s x) (pl - 1) kd qp j) (hk : 201 - i < (k : Int)), ik_G 157 20 [some (.ref 66), some (.ref r), some (fI kd), some (fI qp), some (fI i)] [] u (fun rv h' => ∃ (w' : Int) (gt' : List Int) (gd' : List Int) (xs' : List Int) (ys' : List Int) (rr' : List Int), rv = [] ∧ cE h' 66 (.inr (10, [fI pl, .ref 67, .ref 68, .ref 69, fI ((s : Nat) : Int), .ref 70, .ref 71, fI (f 7), fI (f 8), .ref 72, fI (f 10), fI (f 11), fI (f 12), fJ (f 13), fI (f 14), fI (f 15), fI (f 16), fI (f 17), .ref 73, .ref 74, .ref 75, .ref 76, .ref 77, .ref 78, fI w', .ref 79, .ref 80, .ref 81, .ref 82, .ref 83, .ref 84, .ref 85, fJ (f 32), fJ (f 33), .ref 86, .ref 87, fI (f 36), .ref 88, .ref 89, .ref 90, .ref 91, .ref 92, .ref 93])) ∧ cE h' 77 (.inl (.int, fA gt')) ∧ gt'.length = 5 ∧ cE h' 78 (.inl (.int, fA gd')) ∧ gd'.length = 5 ∧ cE h' 79 (.inl (.long, fL xs')) ∧ xs'.length = 12 ∧ cE h' 80 (.inl (.long, fL ys')) ∧ ys'.length = 12 ∧ cE h' r (.inl (.long, fL rr')) ∧ rr'.length = 201 ∧ (∀ j : Nat, j ≤ 200 → rr'.getD j 0 = mf_cm (fun x => mx_w cn go ch s x) (pl - 1) kd qp j) ∧ hfr [66, 77, 78, 79, 80, r] h h') := by
  intro k
  induction k with
  | zero => intro i w1 g1 d1 x1 y1 r1 u u66 u67 n67 u68 n68 u69 n69 u77 n77 u78 n78 u79 n79 u80 n80 ur nr ul F hi hx hr hk; omega
  | succ k ih =>
    intro i w1 g1 d1 x1 y1 r1 u u66 u67 n67 u68 n68 u69 n69 u77 n77 u78 n78 u79 n79 u80 n80 ur nr ul F hi hx hr hk
    refine ik_Wk 1 (pc' := 22) (loc' := [some (.ref 66), some (.ref r), some (fI kd), some (fI qp), some (fI i)]) (st' := [fI i]) (h' := u) (cl' := 0) (sl' := 0) rfl ?_
    refine fw_si rfl (by decide) ?_
    refine fw_ic_gt rfl rfl (by omega) (by omega) (by omega) (by omega) (fun hc1 => ?_) (fun hc1 => ?_)
    · exact ik_Wret rfl rfl ⟨_, _, rfl, rfl, rfl, rfl, ⟨w1, g1, d1, x1, y1, r1, rfl, u66, u77, n77, u78, n78, u79, n79, u80, n80, ur, nr, (fun j hj => hr j (by omega)), F⟩⟩
    · refine ik_Wk 3 (pc' := 32) (loc' := [some (.ref 66), some (.ref r), some (fI kd), some (fI qp), some (fI i)]) (st' := [fI i, fI kd, .ref 66]) (h' := u) (cl' := 0) (sl' := 0) rfl ?_
      refine fw_call 155 3 0 [.ref 66, fI kd, fI i] [] rfl rfl rfl (by decide) rfl rfl (fw_rec ul (fw_ftx rfl wv_n (wl_c rfl (wl_c (wl_r (by omega)) (wl_c rfl (wl_c rfl (wl_c rfl wl_n)))))) u66 rfl (by decide)) (cr_goOn (pl := pl) (f := fun j => ([0, 0, 0, 0, 0, 0, 0, f 7, f 8, 0, f 10, f 11, f 12, f 13, f 14, f 15, f 16, f 17, 0, 0, 0, 0, 0, 0, w1, 0, 0, 0, 0, 0, 0, 0, f 32, f 33, 0, 0, f 36, 0, 0, 0, 0, 0, 0] : List Int).getD j 0) (s := s) (cn := cn) (go := go) (ch := ch) (gt := g1) (gd := d1) (xs := x1) (ys := y1) (kd := kd) (own := i) (by omega) (by omega) q2 q3 q4 hx (mf_od_gd (W := (fun x => mx_w cn go ch s x)) q4 (by omega) _) (by omega) (by omega) u66 u67 n67 u68 n68 u69 n69 u77 n77 u78 n78 u79 n79 u80 n80 ul) ?_
      rintro _ h_149 ⟨w'_149, gt'_149, gd'_149, xs'_149, ys'_149, rfl, e_149_66, e_149_77, m_149_77, e_149_78, m_149_78, e_149_79, m_149_79, e_149_80, m_149_80, p_149_0, F_149⟩
      have k_149 := F_149.1.trans ul
      have fr_149 := hfr_c F F_149 (by intro b_ hb; simp at hb ⊢; omega)
      have g_149_67 := (F_149.2 67 (by decide +kernel)).trans u67
      have g_149_68 := (F_149.2 68 (by decide +kernel)).trans u68
      have g_149_69 := (F_149.2 69 (by decide +kernel)).trans u69
      have g_149_r := (F_149.2 r (by simp <;> omega)).trans ur
      have g_149_66 : cE h_149 66 (.inr (10, [fI pl, .ref 67, .ref 68, .ref 69, fI ((s : Nat) : Int), .ref 70, .ref 71, fI (f 7), fI (f 8), .ref 72, fI (f 10), fI (f 11), fI (f 12), fJ (f 13), fI (f 14), fI (f 15), fI (f 16), fI (f 17), .ref 73, .ref 74, .ref 75, .ref 76, .ref 77, .ref 78, fI w'_149, .ref 79, .ref 80, .ref 81, .ref 82, .ref 83, .ref 84, .ref 85, fJ (f 32), fJ (f 33), .ref 86, .ref 87, fI (f 36), .ref 88, .ref 89, .ref 90, .ref 91, .ref 92, .ref 93])) := e_149_66
      have g_149_77 : cE h_149 77 (.inl (.int, fA gt'_149)) := e_149_77
      have g_149_78 : cE h_149 78 (.inl (.int, fA gd'_149)) := e_149_78
      have g_149_79 : cE h_149 79 (.inl (.long, fL xs'_149)) := e_149_79
      have g_149_80 : cE h_149 80 (.inl (.long, fL ys'_149)) := e_149_80
      refine ik_Wk 0 (pc' := 35) (loc' := [some (.ref 66), some (.ref r), some (fI kd), some (fI qp), some (fI i)]) (st' := []) (h' := h_149) (cl' := 0) (sl' := 0) rfl ?_
      refine ik_Wk 3 (pc' := 39) (loc' := [some (.ref 66), some (.ref r), some (fI kd), some (fI qp), some (fI i)]) (st' := [.ref 66, fI i, .ref r]) (h' := h_149) (cl' := 0) (sl' := 0) rfl ?_
      refine fw_gf rfl rfl g_149_66 rfl ?_
      refine ik_Wk 1 (pc' := 43) (loc' := [some (.ref 66), some (.ref r), some (fI kd), some (fI qp), some (fI i)]) (st' := [.ref 66, .ref 79, fI i, .ref r]) (h' := h_149) (cl' := 0) (sl' := 0) rfl ?_
      refine ik_Wc 130 1 0 [.ref 66] [.ref 79, fI i, .ref r] rfl rfl rfl (by decide) rfl rfl (fw_rec k_149 (fw_ftx rfl (wv_c rfl (wv_c rfl (wv_c (wv_r (by omega)) wv_n))) (wl_c rfl (wl_c (wl_r (by omega)) (wl_c rfl (wl_c rfl (wl_c rfl wl_n)))))) g_149_66 rfl (by decide)) ?_
      refine ik_Wk 0 (pc' := 0) (loc' := [some (.ref 66)]) (st' := []) (h' := h_149) (cl' := 0) (sl' := 0) rfl ?_
      refine ik_Wk 1 (pc' := 1) (loc' := [some (.ref 66)]) (st' := [.ref 66]) (h' := h_149) (cl' := 0) (sl' := 0) rfl ?_
      refine fw_gf rfl rfl g_149_66 rfl ?_
      refine ik_Wk 1 (pc' := 5) (loc' := [some (.ref 66)]) (st' := [fI 1, fI pl]) (h' := h_149) (cl' := 0) (sl' := 0) rfl ?_
      refine fw_sub rfl ?_
      refine ik_Wret rfl rfl ⟨_, _, rfl, rfl, ?_⟩
      refine ik_Wk 0 (pc' := 46) (loc' := [some (.ref 66), some (.ref r), some (fI kd), some (fI qp), some (fI i)]) (st' := [fI (pl - 1), .ref 79, fI i, .ref r]) (h' := h_149) (cl' := 0) (sl' := 0) rfl ?_
      refine fx_lal rfl g_149_79 (by omega) (by omega) (by omega) ?_
      have hl2 : (r1.set i.toNat (xs'_149.getD (pl - 1).toNat 0)).length = 201 := (List.length_set ..).trans nr
      refine fx_las rfl g_149_r (by omega) (by omega) (by omega) ?_
      intro h_150 e_150 f_150 l_150
      have k_150 := l_150.trans k_149
      have fr_150 := hfr_w fr_149 f_150 l_150 (by simp <;> omega)
      have g_150_66 := (f_150 66 (by omega)).trans g_149_66
      have g_150_67 := (f_150 67 (by omega)).trans g_149_67
      have g_150_68 := (f_150 68 (by omega)).trans g_149_68
      have g_150_69 := (f_150 69 (by omega)).trans g_149_69
      have g_150_77 := (f_150 77 (by omega)).trans g_149_77
      have g_150_78 := (f_150 78 (by omega)).trans g_149_78
      have g_150_79 := (f_150 79 (by omega)).trans g_149_79
      have g_150_80 := (f_150 80 (by omega)).trans g_149_80
      have g_150_r : cE h_150 r (.inl (.long, fL (r1.set i.toNat (xs'_149.getD (pl - 1).toNat 0)))) := e_150
      refine fw_inc (a := i) (loc' := [some (.ref 66), some (.ref r), some (fI kd), some (fI qp), some (fI (i + 1))]) rfl rfl (Nat.le_of_ble_eq_true rfl) rfl ?_
      refine ik_Wk 1 (pc' := 20) (loc' := [some (.ref 66), some (.ref r), some (fI kd), some (fI qp), some (fI (i + 1))]) (st' := []) (h' := h_150) (cl' := 0) (sl' := 0) rfl ?_
      have hx2 : mf_is pl xs'_149 (mf_od (fun x => mx_w cn go ch s x) (pl - 1) kd qp i.toNat) := by
        have e := mf_od_s (W := (fun x => mx_w cn go ch s x)) (br := pl - 1) (k := kd) (q := qp) (u := i - 1) (by omega)
        rw [show i - 1 + 1 = i by omega] at e
        rw [e]
        exact p_149_0
      have hr2 : ∀ j : Nat, (j : Int) < i + 1 → (r1.set i.toNat (xs'_149.getD (pl - 1).toNat 0)).getD j 0 = mf_cm (fun x => mx_w cn go ch s x) (pl - 1) kd qp j := by
        intro j hj
        rw [fz_getD_set]
        by_cases z : j = i.toNat
        · rw [if_pos ⟨z, by omega⟩, z]; exact hx2 _ (by omega)
        · rw [if_neg (fun y => z y.1)]; exact hr j (by omega)
      exact ih  (i + 1) w'_149 gt'_149 gd'_149 xs'_149 ys'_149 (r1.set i.toNat (xs'_149.getD (pl - 1).toNat 0)) h_150 g_150_66 g_150_67 n67 g_150_68 n68 g_150_69 n69 g_150_77 m_149_77 g_150_78 m_149_78 g_150_79 m_149_79 g_150_80 m_149_80 g_150_r hl2 k_150 fr_150 (by omega) (by rw [show i + 1 - 1 = i by omega]; exact hx2) hr2 (by omega)

theorem cr_comesRow {h : List ik_E} {pl : Int} {f : Nat → Int} {s : Nat} {cn : List Int} {go : List Int} {ch : List Int} {gt : List Int} {gd : List Int} {xs : List Int} {ys : List Int} {kd : Int} {qp : Int} {r : Nat} {rr : List Int} (q0 : 1 ≤ pl ∧ pl ≤ 12) (q1 : s < 4096) (q2 : ∀ x : Int, 0 ≤ x → x < pl - 1 → 0 ≤ cn.getD x.toNat 0 ∧ cn.getD x.toNat 0 ≤ 4) (q3 : ∀ x : Int, 0 ≤ x → x < pl - 1 → 1 ≤ cn.getD x.toNat 0 ∧ ∀ j : Int, 4 * x ≤ j → j < 4 * x + cn.getD x.toNat 0 → 0 ≤ ch.getD j.toNat 0 ∧ ch.getD j.toNat 0 ≤ 100) (q4 : ∀ x : Int, 0 ≤ x → x < pl - 1 → mx_ok pl (mx_w cn go ch s x)) (q5 : 0 ≤ kd ∧ kd ≤ 2) (q6 : 0 ≤ qp ∧ qp < pl) (q7 : r = 81 ∨ r = 82) (h66 : cE h 66 (.inr (10, [fI pl, .ref 67, .ref 68, .ref 69, fI ((s : Nat) : Int), .ref 70, .ref 71, fI (f 7), fI (f 8), .ref 72, fI (f 10), fI (f 11), fI (f 12), fJ (f 13), fI (f 14), fI (f 15), fI (f 16), fI (f 17), .ref 73, .ref 74, .ref 75, .ref 76, .ref 77, .ref 78, fI (f 24), .ref 79, .ref 80, .ref 81, .ref 82, .ref 83, .ref 84, .ref 85, fJ (f 32), fJ (f 33), .ref 86, .ref 87, fI (f 36), .ref 88, .ref 89, .ref 90, .ref 91, .ref 92, .ref 93]))) (h67 : cE h 67 (.inl (.int, fA cn))) (n67 : cn.length = 12) (h68 : cE h 68 (.inl (.int, fA go))) (n68 : go.length = 48) (h69 : cE h 69 (.inl (.int, fA ch))) (n69 : ch.length = 48) (h77 : cE h 77 (.inl (.int, fA gt))) (n77 : gt.length = 5) (h78 : cE h 78 (.inl (.int, fA gd))) (n78 : gd.length = 5) (h79 : cE h 79 (.inl (.long, fL xs))) (n79 : xs.length = 12) (h80 : cE h 80 (.inl (.long, fL ys))) (n80 : ys.length = 12) (hr : cE h r (.inl (.long, fL rr))) (nr : rr.length = 201) (hl : h.length = 94) : ik_F 157 [.ref 66, .ref r, fI kd, fI qp] h (fun rv h' => ∃ (w' : Int) (gt' : List Int) (gd' : List Int) (xs' : List Int) (ys' : List Int) (rr' : List Int), rv = [] ∧ cE h' 66 (.inr (10, [fI pl, .ref 67, .ref 68, .ref 69, fI ((s : Nat) : Int), .ref 70, .ref 71, fI (f 7), fI (f 8), .ref 72, fI (f 10), fI (f 11), fI (f 12), fJ (f 13), fI (f 14), fI (f 15), fI (f 16), fI (f 17), .ref 73, .ref 74, .ref 75, .ref 76, .ref 77, .ref 78, fI w', .ref 79, .ref 80, .ref 81, .ref 82, .ref 83, .ref 84, .ref 85, fJ (f 32), fJ (f 33), .ref 86, .ref 87, fI (f 36), .ref 88, .ref 89, .ref 90, .ref 91, .ref 92, .ref 93])) ∧ cE h' 77 (.inl (.int, fA gt')) ∧ gt'.length = 5 ∧ cE h' 78 (.inl (.int, fA gd')) ∧ gd'.length = 5 ∧ cE h' 79 (.inl (.long, fL xs')) ∧ xs'.length = 12 ∧ cE h' 80 (.inl (.long, fL ys')) ∧ ys'.length = 12 ∧ cE h' r (.inl (.long, fL rr')) ∧ rr'.length = 201 ∧ (∀ j : Nat, j ≤ 200 → rr'.getD j 0 = mf_cm (fun x => mx_w cn go ch s x) (pl - 1) kd qp j) ∧ hfr [66, 77, 78, 79, 80, r] h h') := by
  refine ik_Wk 2 (pc' := 2) (loc' := [some (.ref 66), some (.ref r), some (fI kd), some (fI qp), none]) (st' := [fI qp, .ref 66]) (h' := h) (cl' := 0) (sl' := 0) rfl ?_
  refine fw_call 154 2 0 [.ref 66, fI qp] [] rfl rfl rfl (by decide) rfl rfl (fw_rec hl (fw_ftx rfl wv_n (wl_c rfl (wl_c (wl_r (by omega)) (wl_c rfl (wl_c rfl (wl_c rfl wl_n)))))) h66 rfl (by decide)) (cr_setIn (p := qp) (f := fun j => ([pl, 0, 0, 0, ((s : Nat) : Int), 0, 0, f 7, f 8, 0, f 10, f 11, f 12, f 13, f 14, f 15, f 16, f 17, 0, 0, 0, 0, 0, 0, f 24, 0, 0, 0, 0, 0, 0, 0, f 32, f 33, 0, 0, f 36, 0, 0, 0, 0, 0, 0] : List Int).getD j 0) (xs := xs) (by omega) h66 h79 n79 hl) ?_
  rintro _ h_151 ⟨xs'_151, rfl, e_151_79, m_151_79, p_151_0, F_151⟩
  have k_151 := F_151.1.trans hl
  have fr_151 := hfr_c (hfr_refl [66, 77, 78, 79, 80, r] h) F_151 (by intro b_ hb; simp at hb ⊢; omega)
  have g_151_66 := (F_151.2 66 (by decide +kernel)).trans h66
  have g_151_67 := (F_151.2 67 (by decide +kernel)).trans h67
  have g_151_68 := (F_151.2 68 (by decide +kernel)).trans h68
  have g_151_69 := (F_151.2 69 (by decide +kernel)).trans h69
  have g_151_77 := (F_151.2 77 (by decide +kernel)).trans h77
  have g_151_78 := (F_151.2 78 (by decide +kernel)).trans h78
  have g_151_80 := (F_151.2 80 (by decide +kernel)).trans h80
  have g_151_r := (F_151.2 r (by simp <;> omega)).trans hr
  have g_151_79 : cE h_151 79 (.inl (.long, fL xs'_151)) := e_151_79
  refine ik_Wk 0 (pc' := 5) (loc' := [some (.ref 66), some (.ref r), some (fI kd), some (fI qp), none]) (st' := []) (h' := h_151) (cl' := 0) (sl' := 0) rfl ?_
  refine ik_Wk 3 (pc' := 8) (loc' := [some (.ref 66), some (.ref r), some (fI kd), some (fI qp), none]) (st' := [.ref 66, fI 0, .ref r]) (h' := h_151) (cl' := 0) (sl' := 0) rfl ?_
  refine fw_gf rfl rfl g_151_66 rfl ?_
  refine ik_Wk 1 (pc' := 12) (loc' := [some (.ref 66), some (.ref r), some (fI kd), some (fI qp), none]) (st' := [.ref 66, .ref 79, fI 0, .ref r]) (h' := h_151) (cl' := 0) (sl' := 0) rfl ?_
  refine ik_Wc 130 1 0 [.ref 66] [.ref 79, fI 0, .ref r] rfl rfl rfl (by decide) rfl rfl (fw_rec k_151 (fw_ftx rfl (wv_c rfl (wv_c rfl (wv_c (wv_r (by omega)) wv_n))) (wl_c rfl (wl_c (wl_r (by omega)) (wl_c rfl (wl_c rfl (wl_c rfl wl_n)))))) g_151_66 rfl (by decide)) ?_
  refine ik_Wk 0 (pc' := 0) (loc' := [some (.ref 66)]) (st' := []) (h' := h_151) (cl' := 0) (sl' := 0) rfl ?_
  refine ik_Wk 1 (pc' := 1) (loc' := [some (.ref 66)]) (st' := [.ref 66]) (h' := h_151) (cl' := 0) (sl' := 0) rfl ?_
  refine fw_gf rfl rfl g_151_66 rfl ?_
  refine ik_Wk 1 (pc' := 5) (loc' := [some (.ref 66)]) (st' := [fI 1, fI pl]) (h' := h_151) (cl' := 0) (sl' := 0) rfl ?_
  refine fw_sub rfl ?_
  refine ik_Wret rfl rfl ⟨_, _, rfl, rfl, ?_⟩
  refine ik_Wk 0 (pc' := 15) (loc' := [some (.ref 66), some (.ref r), some (fI kd), some (fI qp), none]) (st' := [fI (pl - 1), .ref 79, fI 0, .ref r]) (h' := h_151) (cl' := 0) (sl' := 0) rfl ?_
  refine fx_lal rfl g_151_79 (by omega) (by omega) (by omega) ?_
  have hl1 : (rr.set (0 : Int).toNat (xs'_151.getD (pl - 1).toNat 0)).length = 201 := (List.length_set ..).trans nr
  refine fx_las rfl g_151_r (by omega) (by omega) (by omega) ?_
  intro h_152 e_152 f_152 l_152
  have k_152 := l_152.trans k_151
  have fr_152 := hfr_w fr_151 f_152 l_152 (by simp <;> omega)
  have g_152_66 := (f_152 66 (by omega)).trans g_151_66
  have g_152_67 := (f_152 67 (by omega)).trans g_151_67
  have g_152_68 := (f_152 68 (by omega)).trans g_151_68
  have g_152_69 := (f_152 69 (by omega)).trans g_151_69
  have g_152_77 := (f_152 77 (by omega)).trans g_151_77
  have g_152_78 := (f_152 78 (by omega)).trans g_151_78
  have g_152_79 := (f_152 79 (by omega)).trans g_151_79
  have g_152_80 := (f_152 80 (by omega)).trans g_151_80
  have g_152_r : cE h_152 r (.inl (.long, fL (rr.set (0 : Int).toNat (xs'_151.getD (pl - 1).toNat 0)))) := e_152
  refine ik_Wk 2 (pc' := 20) (loc' := [some (.ref 66), some (.ref r), some (fI kd), some (fI qp), some (fI 1)]) (st' := []) (h' := h_152) (cl' := 0) (sl' := 0) rfl ?_
  have hx0 : mf_is pl xs'_151 (mf_od (fun x => mx_w cn go ch s x) (pl - 1) kd qp 0) := fun j hj => p_151_0 j (by omega)
  have hr0 : ∀ j : Nat, (j : Int) < 1 → (rr.set (0 : Int).toNat (xs'_151.getD (pl - 1).toNat 0)).getD j 0 = mf_cm (fun x => mx_w cn go ch s x) (pl - 1) kd qp j := by
    intro j hj
    rw [show j = 0 by omega, fz_getD_set, if_pos ⟨by omega, by omega⟩]
    exact hx0 _ (by omega)
  exact cr_comesRowL (pl := pl) (f := f) (s := s) (cn := cn) (go := go) (ch := ch) (gt := gt) (gd := gd) (xs := xs) (ys := ys) (kd := kd) (qp := qp) (r := r) (rr := rr) q0 q1 q2 q3 q4 q5 q6 q7  202 1 (f 24) gt gd xs'_151 ys (rr.set (0 : Int).toNat (xs'_151.getD (pl - 1).toNat 0)) h_152 g_152_66 g_152_67 n67 g_152_68 n68 g_152_69 n69 g_152_77 n77 g_152_78 n78 g_152_79 m_151_79 g_152_80 n80 g_152_r hl1 k_152 fr_152 (by omega) hx0 hr0 (by omega)

end