noncomputable section
/-! the class: where a stone changes most, where to set in, where to dig (written by wip/fx/u12.py) -/
theorem cs_most0L {h : List ik_E} {pl : Int} {lo : Int} {s : Nat} {ka : Int} {pa : Int} {fa : Int} {kb : Int} {pb : Int} {fb : Int} {bo : Int} {la : Int} {lb : Int} {t0 : Int} {t1 : Int} {t2 : Int} {t3 : Int} {wg : List Int} {wc : List Int} {we : List Int} {cn : List Int} {go : List Int} {ch : List Int} (q0 : 2 ≤ pl ∧ pl ≤ 12) (q1 : 0 ≤ ka ∧ ka ≤ 2 ∧ 0 ≤ kb ∧ kb ≤ 2) (q2 : 0 ≤ pa ∧ pa < pl - 1) (q3 : 0 ≤ pb ∧ pb < pl - 1) (q4 : 0 ≤ fa ∧ fa ≤ 30 ∧ 0 ≤ fb ∧ fb ≤ 30) (q5 : ∀ x : Int, 0 ≤ x → x < pl - 1 → mx_wy wg wc we x (mx_w cn go ch s x)) (q6 : mx_rw pl cn go ch) (q7 : True) (q8 : s < 4096) {nw : Int} (hnw : nw = mk_lw cn go ch s pl ka pa fa kb pb fb 0) (hnb : 0 ≤ nw ∧ nw ≤ 1000000) : ∀ (k : Nat) (p : Int) (b : Int) (y : Int) (l0 : Int) (l1 : Int) (l2 : Int) (wg1 : List Int) (wc1 : List Int) (we1 : List Int) (x4 : Option Value) (u : List ik_E) (u7 : cE u 7 (.inr (0, [fI pl, fI ((s : Nat) : Int), fI lo, .ref 8, .ref 9, .ref 10, .ref 11, .ref 12, .ref 13]))) (u8 : cE u 8 (.inl (.int, fA cn))) (n8 : cn.length = 12) (u9 : cE u 9 (.inl (.int, fA go))) (n9 : go.length = 48) (u10 : cE u 10 (.inl (.int, fA ch))) (n10 : ch.length = 48) (u11 : cE u 11 (.inl (.int, fA wg1))) (n11 : wg1.length = 60) (u12 : cE u 12 (.inl (.int, fA wc1))) (n12 : wc1.length = 60) (u13 : cE u 13 (.inl (.int, fA we1))) (n13 : we1.length = 12) (u15 : cE u 15 (.inl (.int, fA [ka, pa, fa, kb, pb, fb]))) (u17 : cE u 17 (.inr (8, [.ref 7, .ref 15, .ref 18, .ref 19, fJ l2, .ref 20]))) (u18 : cE u 18 (.inl (.object "SlowerCork$Course", [.ref 21, .ref 25, .ref 29, .ref 33, .ref 37, .ref 41]))) (u19 : cE u 19 (.inl (.long, fL [l0, l1]))) (u20 : cE u 20 (.inl (.int, fA [b, y, -1, -1]))) (u21 : mf_cr u 21 ) (u33 : mf_cr u 33 ) (ul : u.length = 94) (F : hfr [7, 11, 12, 13, 17, 19, 20, 21, 22, 23, 24, 33, 34, 35, 36] h u) (hp : 0 ≤ p ∧ p ≤ pl - 1) (hyb : -1000000 ≤ y ∧ y ≤ 1000000) (hy : ∀ x : Int, 0 ≤ x → x < pl - 1 → mx_wy wg1 wc1 we1 x (mx_w cn go ch s x)) (he : (mk_mo (mk_vm cn go ch s pl ka pa fa kb pb fb 0) (pl - 1).toNat 0 (-1) 0) = mk_mo (mk_vm cn go ch s pl ka pa fa kb pb fb 0) (pl - 1 - p).toNat p b y) (w4 : ik_wl 94 x4 = true) (hk : pl - p < (k : Int)), ik_G 85 22 [some (.ref 17), some (fI 0), some (fI nw), some (fI p), x4] [] u (fun rv h' => ∃ (l0 : Int) (l1 : Int) (l2 : Int) (wg' : List Int) (wc' : List Int) (we' : List Int), rv = [] ∧ cE h' 7 (.inr (0, [fI pl, fI ((s : Nat) : Int), fI lo, .ref 8, .ref 9, .ref 10, .ref 11, .ref 12, .ref 13])) ∧ cE h' 11 (.inl (.int, fA wg')) ∧ wg'.length = 60 ∧ cE h' 12 (.inl (.int, fA wc')) ∧ wc'.length = 60 ∧ cE h' 13 (.inl (.int, fA we')) ∧ we'.length = 12 ∧ cE h' 17 (.inr (8, [.ref 7, .ref 15, .ref 18, .ref 19, fJ l2, .ref 20])) ∧ cE h' 19 (.inl (.long, fL [l0, l1])) ∧ cE h' 20 (.inl (.int, fA [(mk_mo (mk_vm cn go ch s pl ka pa fa kb pb fb 0) (pl - 1).toNat 0 (-1) 0).1, (mk_mo (mk_vm cn go ch s pl ka pa fa kb pb fb 0) (pl - 1).toNat 0 (-1) 0).2, -1, -1])) ∧ mf_cr h' 21  ∧ mf_cr h' 33  ∧ (∀ x : Int, 0 ≤ x → x < pl - 1 → mx_wy wg' wc' we' x (mx_w cn go ch s x)) ∧ hfr [7, 11, 12, 13, 17, 19, 20, 21, 22, 23, 24, 33, 34, 35, 36] h h') := by
  intro k
  induction k with
  | zero => intro p b y l0 l1 l2 wg1 wc1 we1 x4 u u7 u8 n8 u9 n9 u10 n10 u11 n11 u12 n12 u13 n13 u15 u17 u18 u19 u20 u21 u33 ul F hp hyb hy he w4 hk; omega
  | succ k ih =>
    intro p b y l0 l1 l2 wg1 wc1 we1 x4 u u7 u8 n8 u9 n9 u10 n10 u11 n11 u12 n12 u13 n13 u15 u17 u18 u19 u20 u21 u33 ul F hp hyb hy he w4 hk
    refine ik_Wk 2 (pc' := 24) (loc' := [some (.ref 17), some (fI 0), some (fI nw), some (fI p), x4]) (st' := [.ref 17, fI p]) (h' := u) (cl' := 0) (sl' := 0) rfl ?_
    refine fw_gf rfl rfl u17 rfl ?_
    refine ik_Wc 2 1 0 [.ref 7] [fI p] rfl rfl rfl (by decide) rfl rfl (fw_rec ul (fw_ftx rfl (wv_c rfl wv_n) (wl_c rfl (wl_c rfl (wl_c rfl (wl_c rfl (wl_c w4 wl_n)))))) u7 rfl (by decide)) ?_
    refine ik_Wk 0 (pc' := 0) (loc' := [some (.ref 7)]) (st' := []) (h' := u) (cl' := 0) (sl' := 0) rfl ?_
    refine ik_Wk 1 (pc' := 1) (loc' := [some (.ref 7)]) (st' := [.ref 7]) (h' := u) (cl' := 0) (sl' := 0) rfl ?_
    refine fw_gf rfl rfl u7 rfl ?_
    refine ik_Wk 1 (pc' := 5) (loc' := [some (.ref 7)]) (st' := [fI 1, fI pl]) (h' := u) (cl' := 0) (sl' := 0) rfl ?_
    refine fw_sub rfl ?_
    refine ik_Wret rfl rfl ⟨_, _, rfl, rfl, ?_⟩
    refine ik_Wk 0 (pc' := 30) (loc' := [some (.ref 17), some (fI 0), some (fI nw), some (fI p), x4]) (st' := [fI (pl - 1), fI p]) (h' := u) (cl' := 0) (sl' := 0) rfl ?_
    refine fw_ic_ge rfl rfl (by omega) (by omega) (by omega) (by omega) (fun hc1 => ?_) (fun hc1 => ?_)
    · have e0 : (pl - 1 - p).toNat = 0 := by omega
      rw [e0] at he
      rw [he]
      exact ik_Wret rfl rfl ⟨_, _, rfl, rfl, rfl, rfl, ⟨l0, l1, l2, wg1, wc1, we1, rfl, u7, u11, n11, u12, n12, u13, n13, u17, u19, u20, u21, u33, hy, F⟩⟩
    · refine ik_Wk 1 (pc' := 34) (loc' := [some (.ref 17), some (fI 0), some (fI nw), some (fI p), x4]) (st' := [.ref 17]) (h' := u) (cl' := 0) (sl' := 0) rfl ?_
      refine fw_gf rfl rfl u17 rfl ?_
      refine ik_Wk 1 (pc' := 38) (loc' := [some (.ref 17), some (fI 0), some (fI nw), some (fI p), x4]) (st' := [fI p, .ref 7]) (h' := u) (cl' := 0) (sl' := 0) rfl ?_
      refine fw_call 14 2 0 [.ref 7, fI p] [] rfl rfl rfl (by decide) rfl rfl (fw_rec ul (fw_ftx rfl wv_n (wl_c rfl (wl_c rfl (wl_c rfl (wl_c rfl (wl_c w4 wl_n)))))) u7 rfl (by decide)) (cs_turn (p := p) (pl := pl) (lo := lo) (s := s) (cn := cn) (go := go) (ch := ch) (wg := wg1) (wc := wc1) (we := we1) (by omega) (by omega) q8 (by have := (q6 p (by omega) (by omega)).1; omega) (mx_rw_ch q6 p (by omega) (by omega)).2 (mx_rw_ch q6 p (by omega) (by omega)).1 u7 u8 n8 u9 n9 u10 n10 u11 n11 u12 n12 u13 n13 ul) ?_
      rintro _ h_186 ⟨wg'_186, wc'_186, rfl, e_186_7, e_186_11, m_186_11, e_186_12, m_186_12, e_186_13, m_186_13, p_186_0, p_186_1, p_186_2, F_186⟩
      have k_186 := F_186.1.trans ul
      have fr_186 := hfr_c F F_186 (by decide)
      have g_186_8 := (F_186.2 8 (by decide +kernel)).trans u8
      have g_186_9 := (F_186.2 9 (by decide +kernel)).trans u9
      have g_186_10 := (F_186.2 10 (by decide +kernel)).trans u10
      have g_186_15 := (F_186.2 15 (by decide +kernel)).trans u15
      have g_186_17 := (F_186.2 17 (by decide +kernel)).trans u17
      have g_186_18 := (F_186.2 18 (by decide +kernel)).trans u18
      have g_186_19 := (F_186.2 19 (by decide +kernel)).trans u19
      have g_186_20 := (F_186.2 20 (by decide +kernel)).trans u20
      have g_186_21 := mf_cr_f u21 (F_186.2 21 (by decide)) (F_186.2 22 (by decide)) (F_186.2 23 (by decide)) (F_186.2 24 (by decide))
      have g_186_33 := mf_cr_f u33 (F_186.2 33 (by decide)) (F_186.2 34 (by decide)) (F_186.2 35 (by decide)) (F_186.2 36 (by decide))
      have g_186_7 : cE h_186 7 (.inr (0, [fI pl, fI ((s ^^^ 1 <<< p.toNat : Nat) : Int), fI lo, .ref 8, .ref 9, .ref 10, .ref 11, .ref 12, .ref 13])) := e_186_7
      have g_186_11 : cE h_186 11 (.inl (.int, fA wg'_186)) := e_186_11
      have g_186_12 : cE h_186 12 (.inl (.int, fA wc'_186)) := e_186_12
      have g_186_13 : cE h_186 13 (.inl (.int, fA (we1.set p.toNat (5 * p + ((mx_w cn go ch (s ^^^ 1 <<< p.toNat) p).length : Int))))) := e_186_13
      refine ik_Wk 0 (pc' := 41) (loc' := [some (.ref 17), some (fI 0), some (fI nw), some (fI p), x4]) (st' := []) (h' := h_186) (cl' := 0) (sl' := 0) rfl ?_
      have wy_186 : ∀ x : Int, 0 ≤ x → x < pl - 1 → mx_wy wg'_186 wc'_186 (we1.set p.toNat (5 * p + ((mx_w cn go ch (s ^^^ 1 <<< p.toNat) p).length : Int))) x (mx_w cn go ch (s ^^^ 1 <<< p.toNat) x) := mx_wy_one (W := (fun x => mx_w cn go ch s x)) (W' := (fun x => mx_w cn go ch (s ^^^ 1 <<< p.toNat) x)) hy (mx_rw_ok q6 _) (by omega) (by omega) n13 p_186_0 p_186_1 p_186_2 (fun x h0 h1 hx => mx_w_tb (mx_tb_ne (by omega)))
      refine ik_Wk 1 (pc' := 42) (loc' := [some (.ref 17), some (fI 0), some (fI nw), some (fI p), x4]) (st' := [.ref 17]) (h' := h_186) (cl' := 0) (sl' := 0) rfl ?_
      refine fw_ld 1000000 rfl rfl (by decide) ?_
      refine fw_call 79 2 0 [.ref 17, fI 1000000] [] rfl rfl rfl (by decide) rfl rfl (fw_rec k_186 (fw_ftx rfl wv_n (wl_c rfl (wl_c rfl (wl_c rfl (wl_c rfl (wl_c w4 wl_n)))))) g_186_17 rfl (by decide)) (cs_raceAsSet (pl := pl) (lo := lo) (s := s ^^^ 1 <<< p.toNat) (ka := ka) (pa := pa) (fa := fa) (kb := kb) (pb := pb) (fb := fb) (lim := 1000000) (bo := l2) (la := l0) (lb := l1) (wg := wg'_186) (wc := wc'_186) (we := we1.set p.toNat (5 * p + ((mx_w cn go ch (s ^^^ 1 <<< p.toNat) p).length : Int))) (W := (fun x => mx_w cn go ch (s ^^^ 1 <<< p.toNat) x)) (by omega) (by omega) (by omega) (by omega) (by omega) (by omega) wy_186 (mx_rw_ok q6 _) g_186_7 g_186_11 m_186_11 g_186_12 m_186_12 g_186_13 m_186_13 g_186_15 g_186_17 g_186_18 g_186_19 g_186_21 g_186_33 k_186) ?_
      rintro _ h_187 ⟨l0_187, l1_187, l2_187, rfl, e_187_17, e_187_19, e_187_21, e_187_33, p_187_0, p_187_1, F_187⟩
      have k_187 := F_187.1.trans k_186
      have fr_187 := hfr_c fr_186 F_187 (by decide)
      have g_187_7 := (F_187.2 7 (by decide +kernel)).trans g_186_7
      have g_187_8 := (F_187.2 8 (by decide +kernel)).trans g_186_8
      have g_187_9 := (F_187.2 9 (by decide +kernel)).trans g_186_9
      have g_187_10 := (F_187.2 10 (by decide +kernel)).trans g_186_10
      have g_187_11 := (F_187.2 11 (by decide +kernel)).trans g_186_11
      have g_187_12 := (F_187.2 12 (by decide +kernel)).trans g_186_12
      have g_187_13 := (F_187.2 13 (by decide +kernel)).trans g_186_13
      have g_187_15 := (F_187.2 15 (by decide +kernel)).trans g_186_15
      have g_187_18 := (F_187.2 18 (by decide +kernel)).trans g_186_18
      have g_187_20 := (F_187.2 20 (by decide +kernel)).trans g_186_20
      have g_187_17 : cE h_187 17 (.inr (8, [.ref 7, .ref 15, .ref 18, .ref 19, fJ l2_187, .ref 20])) := e_187_17
      have g_187_19 : cE h_187 19 (.inl (.long, fL [l0_187, l1_187])) := e_187_19
      have g_187_21 : mf_cr h_187 21  := e_187_21
      have g_187_33 : mf_cr h_187 33  := e_187_33
      refine ik_Wk 0 (pc' := 47) (loc' := [some (.ref 17), some (fI 0), some (fI nw), some (fI p), x4]) (st' := []) (h' := h_187) (cl' := 0) (sl' := 0) rfl ?_
      have ka_187 := mr_ok_cm (W := (fun x => mx_w cn go ch (s ^^^ 1 <<< p.toNat) x)) (k := ka) (mx_rw_ok q6 _) q2
      have kb_187 := mr_ok_cm (W := (fun x => mx_w cn go ch (s ^^^ 1 <<< p.toNat) x)) (k := kb) (mx_rw_ok q6 _) q3
      have Fa_187 := mr_F_b ka_187 kb_187 fa (show 0 ≤ fb by omega)
      have Fb_187 := mr_F_b kb_187 ka_187 fb (show 0 ≤ fa by omega)
      have el_187 : l0_187 = mr_F0 (mf_cm (fun x => mx_w cn go ch (s ^^^ 1 <<< p.toNat) x) (pl - 1) ka pa) fa (mf_cm (fun x => mx_w cn go ch (s ^^^ 1 <<< p.toNat) x) (pl - 1) kb pb) fb ∧ l1_187 = mr_F0 (mf_cm (fun x => mx_w cn go ch (s ^^^ 1 <<< p.toNat) x) (pl - 1) kb pb) fb (mf_cm (fun x => mx_w cn go ch (s ^^^ 1 <<< p.toNat) x) (pl - 1) ka pa) fa := by
        rcases p_187_1 with e | e
        · exact ⟨e.1, e.2.1⟩
        · omega
      have ew_187 : (l0_187 / 1000 : Int) = (mr_w (mf_cm (fun x => mx_w cn go ch (s ^^^ 1 <<< p.toNat) x) (pl - 1) ka pa) fa (mf_cm (fun x => mx_w cn go ch (s ^^^ 1 <<< p.toNat) x) (pl - 1) kb pb) fb 0 : Int) := by rw [mr_w_0, el_187.1]
      have wb_187 := mr_w_b ka_187 kb_187 (show 0 ≤ fa by omega) (show 0 ≤ fb by omega) 0
      have ev : (mk_vm cn go ch s pl ka pa fa kb pb fb 0) p = (l0_187 / 1000 - nw : Int) := by show mk_lw cn go ch (s ^^^ 1 <<< p.toNat) pl ka pa fa kb pb fb 0 - mk_lw cn go ch s pl ka pa fa kb pb fb 0 = _; rw [← hnw, ew_187]; rfl
      refine ik_Wk 1 (pc' := 48) (loc' := [some (.ref 17), some (fI 0), some (fI nw), some (fI p), x4]) (st' := [.ref 17]) (h' := h_187) (cl' := 0) (sl' := 0) rfl ?_
      refine fw_gf rfl rfl g_187_17 rfl ?_
      refine ik_Wk 1 (pc' := 52) (loc' := [some (.ref 17), some (fI 0), some (fI nw), some (fI p), x4]) (st' := [fI p, .ref 7]) (h' := h_187) (cl' := 0) (sl' := 0) rfl ?_
      refine fw_call 14 2 0 [.ref 7, fI p] [] rfl rfl rfl (by decide) rfl rfl (fw_rec k_187 (fw_ftx rfl wv_n (wl_c rfl (wl_c rfl (wl_c rfl (wl_c rfl (wl_c w4 wl_n)))))) g_187_7 rfl (by decide)) (cs_turn (p := p) (pl := pl) (lo := lo) (s := s ^^^ 1 <<< p.toNat) (cn := cn) (go := go) (ch := ch) (wg := wg'_186) (wc := wc'_186) (we := we1.set p.toNat (5 * p + ((mx_w cn go ch (s ^^^ 1 <<< p.toNat) p).length : Int))) (by omega) (by omega) (mx_xor_lt q8 (by omega)) (by have := (q6 p (by omega) (by omega)).1; omega) (mx_rw_ch q6 p (by omega) (by omega)).2 (mx_rw_ch q6 p (by omega) (by omega)).1 g_187_7 g_187_8 n8 g_187_9 n9 g_187_10 n10 g_187_11 m_186_11 g_187_12 m_186_12 g_187_13 m_186_13 k_187) ?_
      rintro _ h_188 ⟨wg'_188, wc'_188, rfl, e_188_7, e_188_11, m_188_11, e_188_12, m_188_12, e_188_13, m_188_13, p_188_0, p_188_1, p_188_2, F_188⟩
      have k_188 := F_188.1.trans k_187
      have fr_188 := hfr_c fr_187 F_188 (by decide)
      have g_188_8 := (F_188.2 8 (by decide +kernel)).trans g_187_8
      have g_188_9 := (F_188.2 9 (by decide +kernel)).trans g_187_9
      have g_188_10 := (F_188.2 10 (by decide +kernel)).trans g_187_10
      have g_188_15 := (F_188.2 15 (by decide +kernel)).trans g_187_15
      have g_188_17 := (F_188.2 17 (by decide +kernel)).trans g_187_17
      have g_188_18 := (F_188.2 18 (by decide +kernel)).trans g_187_18
      have g_188_19 := (F_188.2 19 (by decide +kernel)).trans g_187_19
      have g_188_20 := (F_188.2 20 (by decide +kernel)).trans g_187_20
      have g_188_21 := mf_cr_f g_187_21 (F_188.2 21 (by decide)) (F_188.2 22 (by decide)) (F_188.2 23 (by decide)) (F_188.2 24 (by decide))
      have g_188_33 := mf_cr_f g_187_33 (F_188.2 33 (by decide)) (F_188.2 34 (by decide)) (F_188.2 35 (by decide)) (F_188.2 36 (by decide))
      have g_188_7 : cE h_188 7 (.inr (0, [fI pl, fI (((s ^^^ 1 <<< p.toNat) ^^^ 1 <<< p.toNat : Nat) : Int), fI lo, .ref 8, .ref 9, .ref 10, .ref 11, .ref 12, .ref 13])) := e_188_7
      have g_188_11 : cE h_188 11 (.inl (.int, fA wg'_188)) := e_188_11
      have g_188_12 : cE h_188 12 (.inl (.int, fA wc'_188)) := e_188_12
      have g_188_13 : cE h_188 13 (.inl (.int, fA ((we1.set p.toNat (5 * p + ((mx_w cn go ch (s ^^^ 1 <<< p.toNat) p).length : Int))).set p.toNat (5 * p + ((mx_w cn go ch ((s ^^^ 1 <<< p.toNat) ^^^ 1 <<< p.toNat) p).length : Int))))) := e_188_13
      refine ik_Wk 0 (pc' := 55) (loc' := [some (.ref 17), some (fI 0), some (fI nw), some (fI p), x4]) (st' := []) (h' := h_188) (cl' := 0) (sl' := 0) rfl ?_
      simp only [mx_xor2] at g_188_7 g_188_13 p_188_0
      have hl2 : ((we1.set p.toNat (5 * p + ((mx_w cn go ch (s ^^^ 1 <<< p.toNat) p).length : Int))).set p.toNat (5 * p + ((mx_w cn go ch s p).length : Int))).length = 12 := by rw [List.length_set]; exact m_186_13
      have wy_188 : ∀ x : Int, 0 ≤ x → x < pl - 1 → mx_wy wg'_188 wc'_188 ((we1.set p.toNat (5 * p + ((mx_w cn go ch (s ^^^ 1 <<< p.toNat) p).length : Int))).set p.toNat (5 * p + ((mx_w cn go ch s p).length : Int))) x (mx_w cn go ch s x) := mx_wy_one (W := (fun x => mx_w cn go ch (s ^^^ 1 <<< p.toNat) x)) (W' := (fun x => mx_w cn go ch s x)) wy_186 (mx_rw_ok q6 _) (by omega) (by omega) m_186_13 p_188_0 p_188_1 p_188_2 (fun x h0 h1 hx => (mx_w_tb (mx_tb_ne (by omega))).symm)
      refine ik_Wk 2 (pc' := 57) (loc' := [some (.ref 17), some (fI 0), some (fI nw), some (fI p), x4]) (st' := [fI 0, .ref 17]) (h' := h_188) (cl' := 0) (sl' := 0) rfl ?_
      refine ik_Wc 74 2 0 [.ref 17, fI 0] [] rfl rfl rfl (by decide) rfl rfl (fw_rec k_188 (fw_ftx rfl wv_n (wl_c rfl (wl_c rfl (wl_c rfl (wl_c rfl (wl_c w4 wl_n)))))) g_188_17 rfl (by decide)) ?_
      refine ik_Wk 0 (pc' := 0) (loc' := [some (.ref 17), some (fI 0)]) (st' := []) (h' := h_188) (cl' := 0) (sl' := 0) rfl ?_
      refine ik_Wk 1 (pc' := 1) (loc' := [some (.ref 17), some (fI 0)]) (st' := [.ref 17]) (h' := h_188) (cl' := 0) (sl' := 0) rfl ?_
      refine fw_gf rfl rfl g_188_17 rfl ?_
      refine ik_Wk 1 (pc' := 5) (loc' := [some (.ref 17), some (fI 0)]) (st' := [fI 0, .ref 19]) (h' := h_188) (cl' := 0) (sl' := 0) rfl ?_
      refine fx_lal (z := 0) rfl g_188_19 (by decide) (Nat.le_of_ble_eq_true rfl) (by decide) ?_
      refine ik_Wk 0 (pc' := 6) (loc' := [some (.ref 17), some (fI 0)]) (st' := [fJ l0_187]) (h' := h_188) (cl' := 0) (sl' := 0) rfl ?_
      refine fw_l2 1000 rfl rfl (by decide) ?_
      refine fx_ldiv rfl (by omega) (by omega) (by omega) (by omega) ?_
      refine fx_l2i rfl ?_
      refine ik_Wret rfl rfl ⟨_, _, rfl, rfl, ?_⟩
      refine ik_Wk 0 (pc' := 60) (loc' := [some (.ref 17), some (fI 0), some (fI nw), some (fI p), x4]) (st' := [fI (l0_187 / 1000)]) (h' := h_188) (cl' := 0) (sl' := 0) rfl ?_
      refine ik_Wk 1 (pc' := 61) (loc' := [some (.ref 17), some (fI 0), some (fI nw), some (fI p), x4]) (st' := [fI nw, fI (l0_187 / 1000)]) (h' := h_188) (cl' := 0) (sl' := 0) rfl ?_
      refine fw_sub rfl ?_
      refine ik_Wk 2 (pc' := 65) (loc' := [some (.ref 17), some (fI 0), some (fI nw), some (fI p), some (fI ((l0_187 / 1000) - nw))]) (st' := [fI p]) (h' := h_188) (cl' := 0) (sl' := 0) rfl ?_
      refine fw_if_eq rfl rfl (by omega) (by omega) (fun hc3 => ?_) (fun hc3 => ?_)
      · refine ik_Wk 5 (pc' := 91) (loc' := [some (.ref 17), some (fI 0), some (fI nw), some (fI p), some (fI ((l0_187 / 1000) - nw))]) (st' := [fI (-1), fI (-1), fI ((l0_187 / 1000) - nw), fI p, .ref 17]) (h' := h_188) (cl' := 0) (sl' := 0) rfl ?_
        refine ik_Wc 88 5 0 [.ref 17, fI p, fI ((l0_187 / 1000) - nw), fI (-1), fI (-1)] [] rfl rfl rfl (by decide) rfl rfl (fw_rec k_188 rfl g_188_17 rfl (by decide)) ?_
        refine ik_Wk 0 (pc' := 0) (loc' := [some (.ref 17), some (fI p), some (fI ((l0_187 / 1000) - nw)), some (fI (-1)), some (fI (-1))]) (st' := []) (h' := h_188) (cl' := 0) (sl' := 0) rfl ?_
        refine ik_Wk 1 (pc' := 1) (loc' := [some (.ref 17), some (fI p), some (fI ((l0_187 / 1000) - nw)), some (fI (-1)), some (fI (-1))]) (st' := [.ref 17]) (h' := h_188) (cl' := 0) (sl' := 0) rfl ?_
        refine fw_gf rfl rfl g_188_17 rfl ?_
        refine ik_Wk 2 (pc' := 6) (loc' := [some (.ref 17), some (fI p), some (fI ((l0_187 / 1000) - nw)), some (fI (-1)), some (fI (-1))]) (st' := [fI p, fI 0, .ref 20]) (h' := h_188) (cl' := 0) (sl' := 0) rfl ?_
        refine fx_ias (z := 0) rfl g_188_20 (by decide) (Nat.le_of_ble_eq_true rfl) (by decide) ?_
        intro h_189 e_189 f_189 l_189
        have k_189 := l_189.trans k_188
        have fr_189 := hfr_w fr_188 f_189 l_189 (by decide)
        have g_189_7 := (f_189 7 (by decide)).trans g_188_7
        have g_189_8 := (f_189 8 (by decide)).trans g_188_8
        have g_189_9 := (f_189 9 (by decide)).trans g_188_9
        have g_189_10 := (f_189 10 (by decide)).trans g_188_10
        have g_189_11 := (f_189 11 (by decide)).trans g_188_11
        have g_189_12 := (f_189 12 (by decide)).trans g_188_12
        have g_189_13 := (f_189 13 (by decide)).trans g_188_13
        have g_189_15 := (f_189 15 (by decide)).trans g_188_15
        have g_189_17 := (f_189 17 (by decide)).trans g_188_17
        have g_189_18 := (f_189 18 (by decide)).trans g_188_18
        have g_189_19 := (f_189 19 (by decide)).trans g_188_19
        have g_189_21 := mf_cr_f g_188_21 (f_189 21 (by decide)) (f_189 22 (by decide)) (f_189 23 (by decide)) (f_189 24 (by decide))
        have g_189_33 := mf_cr_f g_188_33 (f_189 33 (by decide)) (f_189 34 (by decide)) (f_189 35 (by decide)) (f_189 36 (by decide))
        have g_189_20 : cE h_189 20 (.inl (.int, fA [p, y, -1, -1])) := e_189
        refine ik_Wk 1 (pc' := 8) (loc' := [some (.ref 17), some (fI p), some (fI ((l0_187 / 1000) - nw)), some (fI (-1)), some (fI (-1))]) (st' := [.ref 17]) (h' := h_189) (cl' := 0) (sl' := 0) rfl ?_
        refine fw_gf rfl rfl g_189_17 rfl ?_
        refine ik_Wk 2 (pc' := 13) (loc' := [some (.ref 17), some (fI p), some (fI ((l0_187 / 1000) - nw)), some (fI (-1)), some (fI (-1))]) (st' := [fI ((l0_187 / 1000) - nw), fI 1, .ref 20]) (h' := h_189) (cl' := 0) (sl' := 0) rfl ?_
        refine fx_ias (z := 1) rfl g_189_20 (by decide) (Nat.le_of_ble_eq_true rfl) (by decide) ?_
        intro h_190 e_190 f_190 l_190
        have k_190 := l_190.trans k_189
        have fr_190 := hfr_w fr_189 f_190 l_190 (by decide)
        have g_190_7 := (f_190 7 (by decide)).trans g_189_7
        have g_190_8 := (f_190 8 (by decide)).trans g_189_8
        have g_190_9 := (f_190 9 (by decide)).trans g_189_9
        have g_190_10 := (f_190 10 (by decide)).trans g_189_10
        have g_190_11 := (f_190 11 (by decide)).trans g_189_11
        have g_190_12 := (f_190 12 (by decide)).trans g_189_12
        have g_190_13 := (f_190 13 (by decide)).trans g_189_13
        have g_190_15 := (f_190 15 (by decide)).trans g_189_15
        have g_190_17 := (f_190 17 (by decide)).trans g_189_17
        have g_190_18 := (f_190 18 (by decide)).trans g_189_18
        have g_190_19 := (f_190 19 (by decide)).trans g_189_19
        have g_190_21 := mf_cr_f g_189_21 (f_190 21 (by decide)) (f_190 22 (by decide)) (f_190 23 (by decide)) (f_190 24 (by decide))
        have g_190_33 := mf_cr_f g_189_33 (f_190 33 (by decide)) (f_190 34 (by decide)) (f_190 35 (by decide)) (f_190 36 (by decide))
        have g_190_20 : cE h_190 20 (.inl (.int, fA [p, (l0_187 / 1000) - nw, -1, -1])) := e_190
        refine ik_Wk 1 (pc' := 15) (loc' := [some (.ref 17), some (fI p), some (fI ((l0_187 / 1000) - nw)), some (fI (-1)), some (fI (-1))]) (st' := [.ref 17]) (h' := h_190) (cl' := 0) (sl' := 0) rfl ?_
        refine fw_gf rfl rfl g_190_17 rfl ?_
        refine ik_Wk 2 (pc' := 20) (loc' := [some (.ref 17), some (fI p), some (fI ((l0_187 / 1000) - nw)), some (fI (-1)), some (fI (-1))]) (st' := [fI (-1), fI 2, .ref 20]) (h' := h_190) (cl' := 0) (sl' := 0) rfl ?_
        refine fx_ias (z := 2) rfl g_190_20 (by decide) (Nat.le_of_ble_eq_true rfl) (by decide) ?_
        intro h_191 e_191 f_191 l_191
        have k_191 := l_191.trans k_190
        have fr_191 := hfr_w fr_190 f_191 l_191 (by decide)
        have g_191_7 := (f_191 7 (by decide)).trans g_190_7
        have g_191_8 := (f_191 8 (by decide)).trans g_190_8
        have g_191_9 := (f_191 9 (by decide)).trans g_190_9
        have g_191_10 := (f_191 10 (by decide)).trans g_190_10
        have g_191_11 := (f_191 11 (by decide)).trans g_190_11
        have g_191_12 := (f_191 12 (by decide)).trans g_190_12
        have g_191_13 := (f_191 13 (by decide)).trans g_190_13
        have g_191_15 := (f_191 15 (by decide)).trans g_190_15
        have g_191_17 := (f_191 17 (by decide)).trans g_190_17
        have g_191_18 := (f_191 18 (by decide)).trans g_190_18
        have g_191_19 := (f_191 19 (by decide)).trans g_190_19
        have g_191_21 := mf_cr_f g_190_21 (f_191 21 (by decide)) (f_191 22 (by decide)) (f_191 23 (by decide)) (f_191 24 (by decide))
        have g_191_33 := mf_cr_f g_190_33 (f_191 33 (by decide)) (f_191 34 (by decide)) (f_191 35 (by decide)) (f_191 36 (by decide))
        have g_191_20 : cE h_191 20 (.inl (.int, fA [p, (l0_187 / 1000) - nw, -1, -1])) := e_191
        refine ik_Wk 1 (pc' := 22) (loc' := [some (.ref 17), some (fI p), some (fI ((l0_187 / 1000) - nw)), some (fI (-1)), some (fI (-1))]) (st' := [.ref 17]) (h' := h_191) (cl' := 0) (sl' := 0) rfl ?_
        refine fw_gf rfl rfl g_191_17 rfl ?_
        refine ik_Wk 2 (pc' := 28) (loc' := [some (.ref 17), some (fI p), some (fI ((l0_187 / 1000) - nw)), some (fI (-1)), some (fI (-1))]) (st' := [fI (-1), fI 3, .ref 20]) (h' := h_191) (cl' := 0) (sl' := 0) rfl ?_
        refine fx_ias (z := 3) rfl g_191_20 (by decide) (Nat.le_of_ble_eq_true rfl) (by decide) ?_
        intro h_192 e_192 f_192 l_192
        have k_192 := l_192.trans k_191
        have fr_192 := hfr_w fr_191 f_192 l_192 (by decide)
        have g_192_7 := (f_192 7 (by decide)).trans g_191_7
        have g_192_8 := (f_192 8 (by decide)).trans g_191_8
        have g_192_9 := (f_192 9 (by decide)).trans g_191_9
        have g_192_10 := (f_192 10 (by decide)).trans g_191_10
        have g_192_11 := (f_192 11 (by decide)).trans g_191_11
        have g_192_12 := (f_192 12 (by decide)).trans g_191_12
        have g_192_13 := (f_192 13 (by decide)).trans g_191_13
        have g_192_15 := (f_192 15 (by decide)).trans g_191_15
        have g_192_17 := (f_192 17 (by decide)).trans g_191_17
        have g_192_18 := (f_192 18 (by decide)).trans g_191_18
        have g_192_19 := (f_192 19 (by decide)).trans g_191_19
        have g_192_21 := mf_cr_f g_191_21 (f_192 21 (by decide)) (f_192 22 (by decide)) (f_192 23 (by decide)) (f_192 24 (by decide))
        have g_192_33 := mf_cr_f g_191_33 (f_192 33 (by decide)) (f_192 34 (by decide)) (f_192 35 (by decide)) (f_192 36 (by decide))
        have g_192_20 : cE h_192 20 (.inl (.int, fA [p, (l0_187 / 1000) - nw, -1, -1])) := e_192
        refine ik_Wret rfl rfl ⟨_, _, rfl, rfl, ?_⟩
        refine ik_Wk 0 (pc' := 94) (loc' := [some (.ref 17), some (fI 0), some (fI nw), some (fI p), some (fI ((l0_187 / 1000) - nw))]) (st' := []) (h' := h_192) (cl' := 0) (sl' := 0) rfl ?_
        refine fw_inc (a := p) (loc' := [some (.ref 17), some (fI 0), some (fI nw), some (fI (p + 1)), some (fI ((l0_187 / 1000) - nw))]) rfl rfl (Nat.le_of_ble_eq_true rfl) rfl ?_
        refine ik_Wk 1 (pc' := 22) (loc' := [some (.ref 17), some (fI 0), some (fI nw), some (fI (p + 1)), some (fI ((l0_187 / 1000) - nw))]) (st' := []) (h' := h_192) (cl' := 0) (sl' := 0) rfl ?_
        exact ih  (p + 1) p ((l0_187 / 1000) - nw) l0_187 l1_187 l2_187 wg'_188 wc'_188 ((we1.set p.toNat (5 * p + ((mx_w cn go ch (s ^^^ 1 <<< p.toNat) p).length : Int))).set p.toNat (5 * p + ((mx_w cn go ch s p).length : Int))) (some (fI ((l0_187 / 1000) - nw))) h_192 g_192_7 g_192_8 n8 g_192_9 n9 g_192_10 n10 g_192_11 m_188_11 g_192_12 m_188_12 g_192_13 hl2 g_192_15 g_192_17 g_192_18 g_192_19 g_192_20 g_192_21 g_192_33 k_192 fr_192 (by omega) (by omega) wy_188 (by rw [he, show (pl - 1 - p).toNat = (pl - 1 - (p + 1)).toNat + 1 by omega]; show (if p = 0 ∨ mk_ab y < mk_ab ((mk_vm cn go ch s pl ka pa fa kb pb fb 0) p) then _ else _) = _; rw [ev, if_pos (by omega)]) rfl (by omega)
      · refine ik_Wk 1 (pc' := 70) (loc' := [some (.ref 17), some (fI 0), some (fI nw), some (fI p), some (fI ((l0_187 / 1000) - nw))]) (st' := [fI ((l0_187 / 1000) - nw)]) (h' := h_188) (cl' := 0) (sl' := 0) rfl ?_
        refine fx_ab rfl rfl rfl ⟨Nat.le_of_ble_eq_true rfl, Nat.le_of_ble_eq_true rfl, Nat.le_of_ble_eq_true rfl⟩ (by omega) (by omega) ?_
        intro mm4 qmm4
        have ab1 : mk_ab ((l0_187 / 1000) - nw) = mm4 := by unfold mk_ab; split <;> omega
        refine ik_Wk 1 (pc' := 74) (loc' := [some (.ref 17), some (fI 0), some (fI nw), some (fI p), some (fI ((l0_187 / 1000) - nw))]) (st' := [.ref 17, fI mm4]) (h' := h_188) (cl' := 0) (sl' := 0) rfl ?_
        refine fw_gf rfl rfl g_188_17 rfl ?_
        refine ik_Wk 1 (pc' := 78) (loc' := [some (.ref 17), some (fI 0), some (fI nw), some (fI p), some (fI ((l0_187 / 1000) - nw))]) (st' := [fI 1, .ref 20, fI mm4]) (h' := h_188) (cl' := 0) (sl' := 0) rfl ?_
        refine fw_ial (z := 1) rfl g_188_20 (by decide) (Nat.le_of_ble_eq_true rfl) (by decide) ?_
        refine ik_Wk 0 (pc' := 79) (loc' := [some (.ref 17), some (fI 0), some (fI nw), some (fI p), some (fI ((l0_187 / 1000) - nw))]) (st' := [fI y, fI mm4]) (h' := h_188) (cl' := 0) (sl' := 0) rfl ?_
        refine fx_ab rfl rfl rfl ⟨Nat.le_of_ble_eq_true rfl, Nat.le_of_ble_eq_true rfl, Nat.le_of_ble_eq_true rfl⟩ (by omega) (by omega) ?_
        intro mm5 qmm5
        have ab0 : mk_ab y = mm5 := by unfold mk_ab; split <;> omega
        refine fw_ic_le rfl rfl (by omega) (by omega) (by omega) (by omega) (fun hc6 => ?_) (fun hc6 => ?_)
        · refine fw_inc (a := p) (loc' := [some (.ref 17), some (fI 0), some (fI nw), some (fI (p + 1)), some (fI ((l0_187 / 1000) - nw))]) rfl rfl (Nat.le_of_ble_eq_true rfl) rfl ?_
          refine ik_Wk 1 (pc' := 22) (loc' := [some (.ref 17), some (fI 0), some (fI nw), some (fI (p + 1)), some (fI ((l0_187 / 1000) - nw))]) (st' := []) (h' := h_188) (cl' := 0) (sl' := 0) rfl ?_
          exact ih  (p + 1) b y l0_187 l1_187 l2_187 wg'_188 wc'_188 ((we1.set p.toNat (5 * p + ((mx_w cn go ch (s ^^^ 1 <<< p.toNat) p).length : Int))).set p.toNat (5 * p + ((mx_w cn go ch s p).length : Int))) (some (fI ((l0_187 / 1000) - nw))) h_188 g_188_7 g_188_8 n8 g_188_9 n9 g_188_10 n10 g_188_11 m_188_11 g_188_12 m_188_12 g_188_13 hl2 g_188_15 g_188_17 g_188_18 g_188_19 g_188_20 g_188_21 g_188_33 k_188 fr_188 (by omega) (by omega) wy_188 (by rw [he, show (pl - 1 - p).toNat = (pl - 1 - (p + 1)).toNat + 1 by omega]; show (if p = 0 ∨ mk_ab y < mk_ab ((mk_vm cn go ch s pl ka pa fa kb pb fb 0) p) then _ else _) = _; rw [ev, if_neg (by rw [ab0, ab1]; omega)]) rfl (by omega)
        · refine ik_Wk 5 (pc' := 91) (loc' := [some (.ref 17), some (fI 0), some (fI nw), some (fI p), some (fI ((l0_187 / 1000) - nw))]) (st' := [fI (-1), fI (-1), fI ((l0_187 / 1000) - nw), fI p, .ref 17]) (h' := h_188) (cl' := 0) (sl' := 0) rfl ?_
          refine ik_Wc 88 5 0 [.ref 17, fI p, fI ((l0_187 / 1000) - nw), fI (-1), fI (-1)] [] rfl rfl rfl (by decide) rfl rfl (fw_rec k_188 rfl g_188_17 rfl (by decide)) ?_
          refine ik_Wk 0 (pc' := 0) (loc' := [some (.ref 17), some (fI p), some (fI ((l0_187 / 1000) - nw)), some (fI (-1)), some (fI (-1))]) (st' := []) (h' := h_188) (cl' := 0) (sl' := 0) rfl ?_
          refine ik_Wk 1 (pc' := 1) (loc' := [some (.ref 17), some (fI p), some (fI ((l0_187 / 1000) - nw)), some (fI (-1)), some (fI (-1))]) (st' := [.ref 17]) (h' := h_188) (cl' := 0) (sl' := 0) rfl ?_
          refine fw_gf rfl rfl g_188_17 rfl ?_
          refine ik_Wk 2 (pc' := 6) (loc' := [some (.ref 17), some (fI p), some (fI ((l0_187 / 1000) - nw)), some (fI (-1)), some (fI (-1))]) (st' := [fI p, fI 0, .ref 20]) (h' := h_188) (cl' := 0) (sl' := 0) rfl ?_
          refine fx_ias (z := 0) rfl g_188_20 (by decide) (Nat.le_of_ble_eq_true rfl) (by decide) ?_
          intro h_193 e_193 f_193 l_193
          have k_193 := l_193.trans k_188
          have fr_193 := hfr_w fr_188 f_193 l_193 (by decide)
          have g_193_7 := (f_193 7 (by decide)).trans g_188_7
          have g_193_8 := (f_193 8 (by decide)).trans g_188_8
          have g_193_9 := (f_193 9 (by decide)).trans g_188_9
          have g_193_10 := (f_193 10 (by decide)).trans g_188_10
          have g_193_11 := (f_193 11 (by decide)).trans g_188_11
          have g_193_12 := (f_193 12 (by decide)).trans g_188_12
          have g_193_13 := (f_193 13 (by decide)).trans g_188_13
          have g_193_15 := (f_193 15 (by decide)).trans g_188_15
          have g_193_17 := (f_193 17 (by decide)).trans g_188_17
          have g_193_18 := (f_193 18 (by decide)).trans g_188_18
          have g_193_19 := (f_193 19 (by decide)).trans g_188_19
          have g_193_21 := mf_cr_f g_188_21 (f_193 21 (by decide)) (f_193 22 (by decide)) (f_193 23 (by decide)) (f_193 24 (by decide))
          have g_193_33 := mf_cr_f g_188_33 (f_193 33 (by decide)) (f_193 34 (by decide)) (f_193 35 (by decide)) (f_193 36 (by decide))
          have g_193_20 : cE h_193 20 (.inl (.int, fA [p, y, -1, -1])) := e_193
          refine ik_Wk 1 (pc' := 8) (loc' := [some (.ref 17), some (fI p), some (fI ((l0_187 / 1000) - nw)), some (fI (-1)), some (fI (-1))]) (st' := [.ref 17]) (h' := h_193) (cl' := 0) (sl' := 0) rfl ?_
          refine fw_gf rfl rfl g_193_17 rfl ?_
          refine ik_Wk 2 (pc' := 13) (loc' := [some (.ref 17), some (fI p), some (fI ((l0_187 / 1000) - nw)), some (fI (-1)), some (fI (-1))]) (st' := [fI ((l0_187 / 1000) - nw), fI 1, .ref 20]) (h' := h_193) (cl' := 0) (sl' := 0) rfl ?_
          refine fx_ias (z := 1) rfl g_193_20 (by decide) (Nat.le_of_ble_eq_true rfl) (by decide) ?_
          intro h_194 e_194 f_194 l_194
          have k_194 := l_194.trans k_193
          have fr_194 := hfr_w fr_193 f_194 l_194 (by decide)
          have g_194_7 := (f_194 7 (by decide)).trans g_193_7
          have g_194_8 := (f_194 8 (by decide)).trans g_193_8
          have g_194_9 := (f_194 9 (by decide)).trans g_193_9
          have g_194_10 := (f_194 10 (by decide)).trans g_193_10
          have g_194_11 := (f_194 11 (by decide)).trans g_193_11
          have g_194_12 := (f_194 12 (by decide)).trans g_193_12
          have g_194_13 := (f_194 13 (by decide)).trans g_193_13
          have g_194_15 := (f_194 15 (by decide)).trans g_193_15
          have g_194_17 := (f_194 17 (by decide)).trans g_193_17
          have g_194_18 := (f_194 18 (by decide)).trans g_193_18
          have g_194_19 := (f_194 19 (by decide)).trans g_193_19
          have g_194_21 := mf_cr_f g_193_21 (f_194 21 (by decide)) (f_194 22 (by decide)) (f_194 23 (by decide)) (f_194 24 (by decide))
          have g_194_33 := mf_cr_f g_193_33 (f_194 33 (by decide)) (f_194 34 (by decide)) (f_194 35 (by decide)) (f_194 36 (by decide))
          have g_194_20 : cE h_194 20 (.inl (.int, fA [p, (l0_187 / 1000) - nw, -1, -1])) := e_194
          refine ik_Wk 1 (pc' := 15) (loc' := [some (.ref 17), some (fI p), some (fI ((l0_187 / 1000) - nw)), some (fI (-1)), some (fI (-1))]) (st' := [.ref 17]) (h' := h_194) (cl' := 0) (sl' := 0) rfl ?_
          refine fw_gf rfl rfl g_194_17 rfl ?_
          refine ik_Wk 2 (pc' := 20) (loc' := [some (.ref 17), some (fI p), some (fI ((l0_187 / 1000) - nw)), some (fI (-1)), some (fI (-1))]) (st' := [fI (-1), fI 2, .ref 20]) (h' := h_194) (cl' := 0) (sl' := 0) rfl ?_
          refine fx_ias (z := 2) rfl g_194_20 (by decide) (Nat.le_of_ble_eq_true rfl) (by decide) ?_
          intro h_195 e_195 f_195 l_195
          have k_195 := l_195.trans k_194
          have fr_195 := hfr_w fr_194 f_195 l_195 (by decide)
          have g_195_7 := (f_195 7 (by decide)).trans g_194_7
          have g_195_8 := (f_195 8 (by decide)).trans g_194_8
          have g_195_9 := (f_195 9 (by decide)).trans g_194_9
          have g_195_10 := (f_195 10 (by decide)).trans g_194_10
          have g_195_11 := (f_195 11 (by decide)).trans g_194_11
          have g_195_12 := (f_195 12 (by decide)).trans g_194_12
          have g_195_13 := (f_195 13 (by decide)).trans g_194_13
          have g_195_15 := (f_195 15 (by decide)).trans g_194_15
          have g_195_17 := (f_195 17 (by decide)).trans g_194_17
          have g_195_18 := (f_195 18 (by decide)).trans g_194_18
          have g_195_19 := (f_195 19 (by decide)).trans g_194_19
          have g_195_21 := mf_cr_f g_194_21 (f_195 21 (by decide)) (f_195 22 (by decide)) (f_195 23 (by decide)) (f_195 24 (by decide))
          have g_195_33 := mf_cr_f g_194_33 (f_195 33 (by decide)) (f_195 34 (by decide)) (f_195 35 (by decide)) (f_195 36 (by decide))
          have g_195_20 : cE h_195 20 (.inl (.int, fA [p, (l0_187 / 1000) - nw, -1, -1])) := e_195
          refine ik_Wk 1 (pc' := 22) (loc' := [some (.ref 17), some (fI p), some (fI ((l0_187 / 1000) - nw)), some (fI (-1)), some (fI (-1))]) (st' := [.ref 17]) (h' := h_195) (cl' := 0) (sl' := 0) rfl ?_
          refine fw_gf rfl rfl g_195_17 rfl ?_
          refine ik_Wk 2 (pc' := 28) (loc' := [some (.ref 17), some (fI p), some (fI ((l0_187 / 1000) - nw)), some (fI (-1)), some (fI (-1))]) (st' := [fI (-1), fI 3, .ref 20]) (h' := h_195) (cl' := 0) (sl' := 0) rfl ?_
          refine fx_ias (z := 3) rfl g_195_20 (by decide) (Nat.le_of_ble_eq_true rfl) (by decide) ?_
          intro h_196 e_196 f_196 l_196
          have k_196 := l_196.trans k_195
          have fr_196 := hfr_w fr_195 f_196 l_196 (by decide)
          have g_196_7 := (f_196 7 (by decide)).trans g_195_7
          have g_196_8 := (f_196 8 (by decide)).trans g_195_8
          have g_196_9 := (f_196 9 (by decide)).trans g_195_9
          have g_196_10 := (f_196 10 (by decide)).trans g_195_10
          have g_196_11 := (f_196 11 (by decide)).trans g_195_11
          have g_196_12 := (f_196 12 (by decide)).trans g_195_12
          have g_196_13 := (f_196 13 (by decide)).trans g_195_13
          have g_196_15 := (f_196 15 (by decide)).trans g_195_15
          have g_196_17 := (f_196 17 (by decide)).trans g_195_17
          have g_196_18 := (f_196 18 (by decide)).trans g_195_18
          have g_196_19 := (f_196 19 (by decide)).trans g_195_19
          have g_196_21 := mf_cr_f g_195_21 (f_196 21 (by decide)) (f_196 22 (by decide)) (f_196 23 (by decide)) (f_196 24 (by decide))
          have g_196_33 := mf_cr_f g_195_33 (f_196 33 (by decide)) (f_196 34 (by decide)) (f_196 35 (by decide)) (f_196 36 (by decide))
          have g_196_20 : cE h_196 20 (.inl (.int, fA [p, (l0_187 / 1000) - nw, -1, -1])) := e_196
          refine ik_Wret rfl rfl ⟨_, _, rfl, rfl, ?_⟩
          refine ik_Wk 0 (pc' := 94) (loc' := [some (.ref 17), some (fI 0), some (fI nw), some (fI p), some (fI ((l0_187 / 1000) - nw))]) (st' := []) (h' := h_196) (cl' := 0) (sl' := 0) rfl ?_
          refine fw_inc (a := p) (loc' := [some (.ref 17), some (fI 0), some (fI nw), some (fI (p + 1)), some (fI ((l0_187 / 1000) - nw))]) rfl rfl (Nat.le_of_ble_eq_true rfl) rfl ?_
          refine ik_Wk 1 (pc' := 22) (loc' := [some (.ref 17), some (fI 0), some (fI nw), some (fI (p + 1)), some (fI ((l0_187 / 1000) - nw))]) (st' := []) (h' := h_196) (cl' := 0) (sl' := 0) rfl ?_
          exact ih  (p + 1) p ((l0_187 / 1000) - nw) l0_187 l1_187 l2_187 wg'_188 wc'_188 ((we1.set p.toNat (5 * p + ((mx_w cn go ch (s ^^^ 1 <<< p.toNat) p).length : Int))).set p.toNat (5 * p + ((mx_w cn go ch s p).length : Int))) (some (fI ((l0_187 / 1000) - nw))) h_196 g_196_7 g_196_8 n8 g_196_9 n9 g_196_10 n10 g_196_11 m_188_11 g_196_12 m_188_12 g_196_13 hl2 g_196_15 g_196_17 g_196_18 g_196_19 g_196_20 g_196_21 g_196_33 k_196 fr_196 (by omega) (by omega) wy_188 (by rw [he, show (pl - 1 - p).toNat = (pl - 1 - (p + 1)).toNat + 1 by omega]; show (if p = 0 ∨ mk_ab y < mk_ab ((mk_vm cn go ch s pl ka pa fa kb pb fb 0) p) then _ else _) = _; rw [ev, if_pos (by rw [ab0, ab1]; omega)]) rfl (by omega)

theorem cs_most0 {h : List ik_E} {pl : Int} {lo : Int} {s : Nat} {ka : Int} {pa : Int} {fa : Int} {kb : Int} {pb : Int} {fb : Int} {bo : Int} {la : Int} {lb : Int} {t0 : Int} {t1 : Int} {t2 : Int} {t3 : Int} {wg : List Int} {wc : List Int} {we : List Int} {cn : List Int} {go : List Int} {ch : List Int} (q0 : 2 ≤ pl ∧ pl ≤ 12) (q1 : 0 ≤ ka ∧ ka ≤ 2 ∧ 0 ≤ kb ∧ kb ≤ 2) (q2 : 0 ≤ pa ∧ pa < pl - 1) (q3 : 0 ≤ pb ∧ pb < pl - 1) (q4 : 0 ≤ fa ∧ fa ≤ 30 ∧ 0 ≤ fb ∧ fb ≤ 30) (q5 : ∀ x : Int, 0 ≤ x → x < pl - 1 → mx_wy wg wc we x (mx_w cn go ch s x)) (q6 : mx_rw pl cn go ch) (q7 : True) (q8 : s < 4096) (h7 : cE h 7 (.inr (0, [fI pl, fI ((s : Nat) : Int), fI lo, .ref 8, .ref 9, .ref 10, .ref 11, .ref 12, .ref 13]))) (h8 : cE h 8 (.inl (.int, fA cn))) (n8 : cn.length = 12) (h9 : cE h 9 (.inl (.int, fA go))) (n9 : go.length = 48) (h10 : cE h 10 (.inl (.int, fA ch))) (n10 : ch.length = 48) (h11 : cE h 11 (.inl (.int, fA wg))) (n11 : wg.length = 60) (h12 : cE h 12 (.inl (.int, fA wc))) (n12 : wc.length = 60) (h13 : cE h 13 (.inl (.int, fA we))) (n13 : we.length = 12) (h15 : cE h 15 (.inl (.int, fA [ka, pa, fa, kb, pb, fb]))) (h17 : cE h 17 (.inr (8, [.ref 7, .ref 15, .ref 18, .ref 19, fJ bo, .ref 20]))) (h18 : cE h 18 (.inl (.object "SlowerCork$Course", [.ref 21, .ref 25, .ref 29, .ref 33, .ref 37, .ref 41]))) (h19 : cE h 19 (.inl (.long, fL [la, lb]))) (h20 : cE h 20 (.inl (.int, fA [t0, t1, t2, t3]))) (h21 : mf_cr h 21 ) (h33 : mf_cr h 33 ) (hl : h.length = 94) : ik_F 85 [.ref 17, fI 0] h (fun rv h' => ∃ (l0 : Int) (l1 : Int) (l2 : Int) (wg' : List Int) (wc' : List Int) (we' : List Int), rv = [] ∧ cE h' 7 (.inr (0, [fI pl, fI ((s : Nat) : Int), fI lo, .ref 8, .ref 9, .ref 10, .ref 11, .ref 12, .ref 13])) ∧ cE h' 11 (.inl (.int, fA wg')) ∧ wg'.length = 60 ∧ cE h' 12 (.inl (.int, fA wc')) ∧ wc'.length = 60 ∧ cE h' 13 (.inl (.int, fA we')) ∧ we'.length = 12 ∧ cE h' 17 (.inr (8, [.ref 7, .ref 15, .ref 18, .ref 19, fJ l2, .ref 20])) ∧ cE h' 19 (.inl (.long, fL [l0, l1])) ∧ cE h' 20 (.inl (.int, fA [(mk_mo (mk_vm cn go ch s pl ka pa fa kb pb fb 0) (pl - 1).toNat 0 (-1) 0).1, (mk_mo (mk_vm cn go ch s pl ka pa fa kb pb fb 0) (pl - 1).toNat 0 (-1) 0).2, -1, -1])) ∧ mf_cr h' 21  ∧ mf_cr h' 33  ∧ (∀ x : Int, 0 ≤ x → x < pl - 1 → mx_wy wg' wc' we' x (mx_w cn go ch s x)) ∧ hfr [7, 11, 12, 13, 17, 19, 20, 21, 22, 23, 24, 33, 34, 35, 36] h h') := by
  refine ik_Wk 1 (pc' := 1) (loc' := [some (.ref 17), some (fI 0), none, none, none]) (st' := [.ref 17]) (h' := h) (cl' := 0) (sl' := 0) rfl ?_
  refine fw_ld 1000000 rfl rfl (by decide) ?_
  refine fw_call 79 2 0 [.ref 17, fI 1000000] [] rfl rfl rfl (by decide) rfl rfl (fw_rec hl rfl h17 rfl (by decide)) (cs_raceAsSet (pl := pl) (lo := lo) (s := s) (ka := ka) (pa := pa) (fa := fa) (kb := kb) (pb := pb) (fb := fb) (lim := 1000000) (bo := bo) (la := la) (lb := lb) (wg := wg) (wc := wc) (we := we) (W := (fun x => mx_w cn go ch s x)) (by omega) (by omega) (by omega) (by omega) (by omega) (by omega) q5 (mx_rw_ok q6 _) h7 h11 n11 h12 n12 h13 n13 h15 h17 h18 h19 h21 h33 hl) ?_
  rintro _ h_197 ⟨l0_197, l1_197, l2_197, rfl, e_197_17, e_197_19, e_197_21, e_197_33, p_197_0, p_197_1, F_197⟩
  have k_197 := F_197.1.trans hl
  have fr_197 := hfr_c (hfr_refl [7, 11, 12, 13, 17, 19, 20, 21, 22, 23, 24, 33, 34, 35, 36] h) F_197 (by decide)
  have g_197_7 := (F_197.2 7 (by decide +kernel)).trans h7
  have g_197_8 := (F_197.2 8 (by decide +kernel)).trans h8
  have g_197_9 := (F_197.2 9 (by decide +kernel)).trans h9
  have g_197_10 := (F_197.2 10 (by decide +kernel)).trans h10
  have g_197_11 := (F_197.2 11 (by decide +kernel)).trans h11
  have g_197_12 := (F_197.2 12 (by decide +kernel)).trans h12
  have g_197_13 := (F_197.2 13 (by decide +kernel)).trans h13
  have g_197_15 := (F_197.2 15 (by decide +kernel)).trans h15
  have g_197_18 := (F_197.2 18 (by decide +kernel)).trans h18
  have g_197_20 := (F_197.2 20 (by decide +kernel)).trans h20
  have g_197_17 : cE h_197 17 (.inr (8, [.ref 7, .ref 15, .ref 18, .ref 19, fJ l2_197, .ref 20])) := e_197_17
  have g_197_19 : cE h_197 19 (.inl (.long, fL [l0_197, l1_197])) := e_197_19
  have g_197_21 : mf_cr h_197 21  := e_197_21
  have g_197_33 : mf_cr h_197 33  := e_197_33
  refine ik_Wk 0 (pc' := 6) (loc' := [some (.ref 17), some (fI 0), none, none, none]) (st' := []) (h' := h_197) (cl' := 0) (sl' := 0) rfl ?_
  have ka_197 := mr_ok_cm (W := (fun x => mx_w cn go ch s x)) (k := ka) (mx_rw_ok q6 _) q2
  have kb_197 := mr_ok_cm (W := (fun x => mx_w cn go ch s x)) (k := kb) (mx_rw_ok q6 _) q3
  have Fa_197 := mr_F_b ka_197 kb_197 fa (show 0 ≤ fb by omega)
  have Fb_197 := mr_F_b kb_197 ka_197 fb (show 0 ≤ fa by omega)
  have el_197 : l0_197 = mr_F0 (mf_cm (fun x => mx_w cn go ch s x) (pl - 1) ka pa) fa (mf_cm (fun x => mx_w cn go ch s x) (pl - 1) kb pb) fb ∧ l1_197 = mr_F0 (mf_cm (fun x => mx_w cn go ch s x) (pl - 1) kb pb) fb (mf_cm (fun x => mx_w cn go ch s x) (pl - 1) ka pa) fa := by
    rcases p_197_1 with e | e
    · exact ⟨e.1, e.2.1⟩
    · omega
  have ew_197 : (l0_197 / 1000 : Int) = (mr_w (mf_cm (fun x => mx_w cn go ch s x) (pl - 1) ka pa) fa (mf_cm (fun x => mx_w cn go ch s x) (pl - 1) kb pb) fb 0 : Int) := by rw [mr_w_0, el_197.1]
  have wb_197 := mr_w_b ka_197 kb_197 (show 0 ≤ fa by omega) (show 0 ≤ fb by omega) 0
  refine ik_Wk 2 (pc' := 8) (loc' := [some (.ref 17), some (fI 0), none, none, none]) (st' := [fI 0, .ref 17]) (h' := h_197) (cl' := 0) (sl' := 0) rfl ?_
  refine ik_Wc 74 2 0 [.ref 17, fI 0] [] rfl rfl rfl (by decide) rfl rfl (fw_rec k_197 rfl g_197_17 rfl (by decide)) ?_
  refine ik_Wk 0 (pc' := 0) (loc' := [some (.ref 17), some (fI 0)]) (st' := []) (h' := h_197) (cl' := 0) (sl' := 0) rfl ?_
  refine ik_Wk 1 (pc' := 1) (loc' := [some (.ref 17), some (fI 0)]) (st' := [.ref 17]) (h' := h_197) (cl' := 0) (sl' := 0) rfl ?_
  refine fw_gf rfl rfl g_197_17 rfl ?_
  refine ik_Wk 1 (pc' := 5) (loc' := [some (.ref 17), some (fI 0)]) (st' := [fI 0, .ref 19]) (h' := h_197) (cl' := 0) (sl' := 0) rfl ?_
  refine fx_lal (z := 0) rfl g_197_19 (by decide) (Nat.le_of_ble_eq_true rfl) (by decide) ?_
  refine ik_Wk 0 (pc' := 6) (loc' := [some (.ref 17), some (fI 0)]) (st' := [fJ l0_197]) (h' := h_197) (cl' := 0) (sl' := 0) rfl ?_
  refine fw_l2 1000 rfl rfl (by decide) ?_
  refine fx_ldiv rfl (by omega) (by omega) (by omega) (by omega) ?_
  refine fx_l2i rfl ?_
  refine ik_Wret rfl rfl ⟨_, _, rfl, rfl, ?_⟩
  refine ik_Wk 0 (pc' := 11) (loc' := [some (.ref 17), some (fI 0), none, none, none]) (st' := [fI (l0_197 / 1000)]) (h' := h_197) (cl' := 0) (sl' := 0) rfl ?_
  refine ik_Wk 6 (pc' := 17) (loc' := [some (.ref 17), some (fI 0), some (fI (l0_197 / 1000)), none, none]) (st' := [fI (-1), fI (-1), fI 0, fI (-1), .ref 17]) (h' := h_197) (cl' := 0) (sl' := 0) rfl ?_
  refine ik_Wc 88 5 0 [.ref 17, fI (-1), fI 0, fI (-1), fI (-1)] [] rfl rfl rfl (by decide) rfl rfl (fw_rec k_197 rfl g_197_17 rfl (by decide)) ?_
  refine ik_Wk 0 (pc' := 0) (loc' := [some (.ref 17), some (fI (-1)), some (fI 0), some (fI (-1)), some (fI (-1))]) (st' := []) (h' := h_197) (cl' := 0) (sl' := 0) rfl ?_
  refine ik_Wk 1 (pc' := 1) (loc' := [some (.ref 17), some (fI (-1)), some (fI 0), some (fI (-1)), some (fI (-1))]) (st' := [.ref 17]) (h' := h_197) (cl' := 0) (sl' := 0) rfl ?_
  refine fw_gf rfl rfl g_197_17 rfl ?_
  refine ik_Wk 2 (pc' := 6) (loc' := [some (.ref 17), some (fI (-1)), some (fI 0), some (fI (-1)), some (fI (-1))]) (st' := [fI (-1), fI 0, .ref 20]) (h' := h_197) (cl' := 0) (sl' := 0) rfl ?_
  refine fx_ias (z := 0) rfl g_197_20 (by decide) (Nat.le_of_ble_eq_true rfl) (by decide) ?_
  intro h_198 e_198 f_198 l_198
  have k_198 := l_198.trans k_197
  have fr_198 := hfr_w fr_197 f_198 l_198 (by decide)
  have g_198_7 := (f_198 7 (by decide)).trans g_197_7
  have g_198_8 := (f_198 8 (by decide)).trans g_197_8
  have g_198_9 := (f_198 9 (by decide)).trans g_197_9
  have g_198_10 := (f_198 10 (by decide)).trans g_197_10
  have g_198_11 := (f_198 11 (by decide)).trans g_197_11
  have g_198_12 := (f_198 12 (by decide)).trans g_197_12
  have g_198_13 := (f_198 13 (by decide)).trans g_197_13
  have g_198_15 := (f_198 15 (by decide)).trans g_197_15
  have g_198_17 := (f_198 17 (by decide)).trans g_197_17
  have g_198_18 := (f_198 18 (by decide)).trans g_197_18
  have g_198_19 := (f_198 19 (by decide)).trans g_197_19
  have g_198_21 := mf_cr_f g_197_21 (f_198 21 (by decide)) (f_198 22 (by decide)) (f_198 23 (by decide)) (f_198 24 (by decide))
  have g_198_33 := mf_cr_f g_197_33 (f_198 33 (by decide)) (f_198 34 (by decide)) (f_198 35 (by decide)) (f_198 36 (by decide))
  have g_198_20 : cE h_198 20 (.inl (.int, fA [-1, t1, t2, t3])) := e_198
  refine ik_Wk 1 (pc' := 8) (loc' := [some (.ref 17), some (fI (-1)), some (fI 0), some (fI (-1)), some (fI (-1))]) (st' := [.ref 17]) (h' := h_198) (cl' := 0) (sl' := 0) rfl ?_
  refine fw_gf rfl rfl g_198_17 rfl ?_
  refine ik_Wk 2 (pc' := 13) (loc' := [some (.ref 17), some (fI (-1)), some (fI 0), some (fI (-1)), some (fI (-1))]) (st' := [fI 0, fI 1, .ref 20]) (h' := h_198) (cl' := 0) (sl' := 0) rfl ?_
  refine fx_ias (z := 1) rfl g_198_20 (by decide) (Nat.le_of_ble_eq_true rfl) (by decide) ?_
  intro h_199 e_199 f_199 l_199
  have k_199 := l_199.trans k_198
  have fr_199 := hfr_w fr_198 f_199 l_199 (by decide)
  have g_199_7 := (f_199 7 (by decide)).trans g_198_7
  have g_199_8 := (f_199 8 (by decide)).trans g_198_8
  have g_199_9 := (f_199 9 (by decide)).trans g_198_9
  have g_199_10 := (f_199 10 (by decide)).trans g_198_10
  have g_199_11 := (f_199 11 (by decide)).trans g_198_11
  have g_199_12 := (f_199 12 (by decide)).trans g_198_12
  have g_199_13 := (f_199 13 (by decide)).trans g_198_13
  have g_199_15 := (f_199 15 (by decide)).trans g_198_15
  have g_199_17 := (f_199 17 (by decide)).trans g_198_17
  have g_199_18 := (f_199 18 (by decide)).trans g_198_18
  have g_199_19 := (f_199 19 (by decide)).trans g_198_19
  have g_199_21 := mf_cr_f g_198_21 (f_199 21 (by decide)) (f_199 22 (by decide)) (f_199 23 (by decide)) (f_199 24 (by decide))
  have g_199_33 := mf_cr_f g_198_33 (f_199 33 (by decide)) (f_199 34 (by decide)) (f_199 35 (by decide)) (f_199 36 (by decide))
  have g_199_20 : cE h_199 20 (.inl (.int, fA [-1, 0, t2, t3])) := e_199
  refine ik_Wk 1 (pc' := 15) (loc' := [some (.ref 17), some (fI (-1)), some (fI 0), some (fI (-1)), some (fI (-1))]) (st' := [.ref 17]) (h' := h_199) (cl' := 0) (sl' := 0) rfl ?_
  refine fw_gf rfl rfl g_199_17 rfl ?_
  refine ik_Wk 2 (pc' := 20) (loc' := [some (.ref 17), some (fI (-1)), some (fI 0), some (fI (-1)), some (fI (-1))]) (st' := [fI (-1), fI 2, .ref 20]) (h' := h_199) (cl' := 0) (sl' := 0) rfl ?_
  refine fx_ias (z := 2) rfl g_199_20 (by decide) (Nat.le_of_ble_eq_true rfl) (by decide) ?_
  intro h_200 e_200 f_200 l_200
  have k_200 := l_200.trans k_199
  have fr_200 := hfr_w fr_199 f_200 l_200 (by decide)
  have g_200_7 := (f_200 7 (by decide)).trans g_199_7
  have g_200_8 := (f_200 8 (by decide)).trans g_199_8
  have g_200_9 := (f_200 9 (by decide)).trans g_199_9
  have g_200_10 := (f_200 10 (by decide)).trans g_199_10
  have g_200_11 := (f_200 11 (by decide)).trans g_199_11
  have g_200_12 := (f_200 12 (by decide)).trans g_199_12
  have g_200_13 := (f_200 13 (by decide)).trans g_199_13
  have g_200_15 := (f_200 15 (by decide)).trans g_199_15
  have g_200_17 := (f_200 17 (by decide)).trans g_199_17
  have g_200_18 := (f_200 18 (by decide)).trans g_199_18
  have g_200_19 := (f_200 19 (by decide)).trans g_199_19
  have g_200_21 := mf_cr_f g_199_21 (f_200 21 (by decide)) (f_200 22 (by decide)) (f_200 23 (by decide)) (f_200 24 (by decide))
  have g_200_33 := mf_cr_f g_199_33 (f_200 33 (by decide)) (f_200 34 (by decide)) (f_200 35 (by decide)) (f_200 36 (by decide))
  have g_200_20 : cE h_200 20 (.inl (.int, fA [-1, 0, -1, t3])) := e_200
  refine ik_Wk 1 (pc' := 22) (loc' := [some (.ref 17), some (fI (-1)), some (fI 0), some (fI (-1)), some (fI (-1))]) (st' := [.ref 17]) (h' := h_200) (cl' := 0) (sl' := 0) rfl ?_
  refine fw_gf rfl rfl g_200_17 rfl ?_
  refine ik_Wk 2 (pc' := 28) (loc' := [some (.ref 17), some (fI (-1)), some (fI 0), some (fI (-1)), some (fI (-1))]) (st' := [fI (-1), fI 3, .ref 20]) (h' := h_200) (cl' := 0) (sl' := 0) rfl ?_
  refine fx_ias (z := 3) rfl g_200_20 (by decide) (Nat.le_of_ble_eq_true rfl) (by decide) ?_
  intro h_201 e_201 f_201 l_201
  have k_201 := l_201.trans k_200
  have fr_201 := hfr_w fr_200 f_201 l_201 (by decide)
  have g_201_7 := (f_201 7 (by decide)).trans g_200_7
  have g_201_8 := (f_201 8 (by decide)).trans g_200_8
  have g_201_9 := (f_201 9 (by decide)).trans g_200_9
  have g_201_10 := (f_201 10 (by decide)).trans g_200_10
  have g_201_11 := (f_201 11 (by decide)).trans g_200_11
  have g_201_12 := (f_201 12 (by decide)).trans g_200_12
  have g_201_13 := (f_201 13 (by decide)).trans g_200_13
  have g_201_15 := (f_201 15 (by decide)).trans g_200_15
  have g_201_17 := (f_201 17 (by decide)).trans g_200_17
  have g_201_18 := (f_201 18 (by decide)).trans g_200_18
  have g_201_19 := (f_201 19 (by decide)).trans g_200_19
  have g_201_21 := mf_cr_f g_200_21 (f_201 21 (by decide)) (f_201 22 (by decide)) (f_201 23 (by decide)) (f_201 24 (by decide))
  have g_201_33 := mf_cr_f g_200_33 (f_201 33 (by decide)) (f_201 34 (by decide)) (f_201 35 (by decide)) (f_201 36 (by decide))
  have g_201_20 : cE h_201 20 (.inl (.int, fA [-1, 0, -1, -1])) := e_201
  refine ik_Wret rfl rfl ⟨_, _, rfl, rfl, ?_⟩
  refine ik_Wk 0 (pc' := 20) (loc' := [some (.ref 17), some (fI 0), some (fI (l0_197 / 1000)), none, none]) (st' := []) (h' := h_201) (cl' := 0) (sl' := 0) rfl ?_
  refine ik_Wk 2 (pc' := 22) (loc' := [some (.ref 17), some (fI 0), some (fI (l0_197 / 1000)), some (fI 0), none]) (st' := []) (h' := h_201) (cl' := 0) (sl' := 0) rfl ?_
  exact cs_most0L (pl := pl) (lo := lo) (s := s) (ka := ka) (pa := pa) (fa := fa) (kb := kb) (pb := pb) (fb := fb) (bo := bo) (la := la) (lb := lb) (t0 := t0) (t1 := t1) (t2 := t2) (t3 := t3) (wg := wg) (wc := wc) (we := we) (cn := cn) (go := go) (ch := ch) q0 q1 q2 q3 q4 q5 q6 q7 q8 (nw := l0_197 / 1000) ew_197 (by omega) (pl.toNat + 1) 0 (-1) 0 l0_197 l1_197 l2_197 wg wc we none h_201 g_201_7 g_201_8 n8 g_201_9 n9 g_201_10 n10 g_201_11 n11 g_201_12 n12 g_201_13 n13 g_201_15 g_201_17 g_201_18 g_201_19 g_201_20 g_201_21 g_201_33 k_201 fr_201 (by omega) (by omega) q5 (by rw [Int.sub_zero]) rfl (by omega)

theorem cs_most1L {h : List ik_E} {pl : Int} {lo : Int} {s : Nat} {ka : Int} {pa : Int} {fa : Int} {kb : Int} {pb : Int} {fb : Int} {bo : Int} {la : Int} {lb : Int} {t0 : Int} {t1 : Int} {t2 : Int} {t3 : Int} {wg : List Int} {wc : List Int} {we : List Int} {cn : List Int} {go : List Int} {ch : List Int} (q0 : 2 ≤ pl ∧ pl ≤ 12) (q1 : 0 ≤ ka ∧ ka ≤ 2 ∧ 0 ≤ kb ∧ kb ≤ 2) (q2 : 0 ≤ pa ∧ pa < pl - 1) (q3 : 0 ≤ pb ∧ pb < pl - 1) (q4 : 0 ≤ fa ∧ fa ≤ 30 ∧ 0 ≤ fb ∧ fb ≤ 30) (q5 : ∀ x : Int, 0 ≤ x → x < pl - 1 → mx_wy wg wc we x (mx_w cn go ch s x)) (q6 : mx_rw pl cn go ch) (q7 : True) (q8 : s < 4096) {nw : Int} (hnw : nw = mk_lw cn go ch s pl ka pa fa kb pb fb 1) (hnb : 0 ≤ nw ∧ nw ≤ 1000000) : ∀ (k : Nat) (p : Int) (b : Int) (y : Int) (l0 : Int) (l1 : Int) (l2 : Int) (wg1 : List Int) (wc1 : List Int) (we1 : List Int) (x4 : Option Value) (u : List ik_E) (u7 : cE u 7 (.inr (0, [fI pl, fI ((s : Nat) : Int), fI lo, .ref 8, .ref 9, .ref 10, .ref 11, .ref 12, .ref 13]))) (u8 : cE u 8 (.inl (.int, fA cn))) (n8 : cn.length = 12) (u9 : cE u 9 (.inl (.int, fA go))) (n9 : go.length = 48) (u10 : cE u 10 (.inl (.int, fA ch))) (n10 : ch.length = 48) (u11 : cE u 11 (.inl (.int, fA wg1))) (n11 : wg1.length = 60) (u12 : cE u 12 (.inl (.int, fA wc1))) (n12 : wc1.length = 60) (u13 : cE u 13 (.inl (.int, fA we1))) (n13 : we1.length = 12) (u15 : cE u 15 (.inl (.int, fA [ka, pa, fa, kb, pb, fb]))) (u17 : cE u 17 (.inr (8, [.ref 7, .ref 15, .ref 18, .ref 19, fJ l2, .ref 20]))) (u18 : cE u 18 (.inl (.object "SlowerCork$Course", [.ref 21, .ref 25, .ref 29, .ref 33, .ref 37, .ref 41]))) (u19 : cE u 19 (.inl (.long, fL [l0, l1]))) (u20 : cE u 20 (.inl (.int, fA [b, y, -1, -1]))) (u21 : mf_cr u 21 ) (u33 : mf_cr u 33 ) (ul : u.length = 94) (F : hfr [7, 11, 12, 13, 17, 19, 20, 21, 22, 23, 24, 33, 34, 35, 36] h u) (hp : 0 ≤ p ∧ p ≤ pl - 1) (hyb : -1000000 ≤ y ∧ y ≤ 1000000) (hy : ∀ x : Int, 0 ≤ x → x < pl - 1 → mx_wy wg1 wc1 we1 x (mx_w cn go ch s x)) (he : (mk_mo (mk_vm cn go ch s pl ka pa fa kb pb fb 1) (pl - 1).toNat 0 (-1) 0) = mk_mo (mk_vm cn go ch s pl ka pa fa kb pb fb 1) (pl - 1 - p).toNat p b y) (w4 : ik_wl 94 x4 = true) (hk : pl - p < (k : Int)), ik_G 85 22 [some (.ref 17), some (fI 1), some (fI nw), some (fI p), x4] [] u (fun rv h' => ∃ (l0 : Int) (l1 : Int) (l2 : Int) (wg' : List Int) (wc' : List Int) (we' : List Int), rv = [] ∧ cE h' 7 (.inr (0, [fI pl, fI ((s : Nat) : Int), fI lo, .ref 8, .ref 9, .ref 10, .ref 11, .ref 12, .ref 13])) ∧ cE h' 11 (.inl (.int, fA wg')) ∧ wg'.length = 60 ∧ cE h' 12 (.inl (.int, fA wc')) ∧ wc'.length = 60 ∧ cE h' 13 (.inl (.int, fA we')) ∧ we'.length = 12 ∧ cE h' 17 (.inr (8, [.ref 7, .ref 15, .ref 18, .ref 19, fJ l2, .ref 20])) ∧ cE h' 19 (.inl (.long, fL [l0, l1])) ∧ cE h' 20 (.inl (.int, fA [(mk_mo (mk_vm cn go ch s pl ka pa fa kb pb fb 1) (pl - 1).toNat 0 (-1) 0).1, (mk_mo (mk_vm cn go ch s pl ka pa fa kb pb fb 1) (pl - 1).toNat 0 (-1) 0).2, -1, -1])) ∧ mf_cr h' 21  ∧ mf_cr h' 33  ∧ (∀ x : Int, 0 ≤ x → x < pl - 1 → mx_wy wg' wc' we' x (mx_w cn go ch s x)) ∧ hfr [7, 11, 12, 13, 17, 19, 20, 21, 22, 23, 24, 33, 34, 35, 36] h h') := by
  intro k
  induction k with
  | zero => intro p b y l0 l1 l2 wg1 wc1 we1 x4 u u7 u8 n8 u9 n9 u10 n10 u11 n11 u12 n12 u13 n13 u15 u17 u18 u19 u20 u21 u33 ul F hp hyb hy he w4 hk; omega
  | succ k ih =>
    intro p b y l0 l1 l2 wg1 wc1 we1 x4 u u7 u8 n8 u9 n9 u10 n10 u11 n11 u12 n12 u13 n13 u15 u17 u18 u19 u20 u21 u33 ul F hp hyb hy he w4 hk
    refine ik_Wk 2 (pc' := 24) (loc' := [some (.ref 17), some (fI 1), some (fI nw), some (fI p), x4]) (st' := [.ref 17, fI p]) (h' := u) (cl' := 0) (sl' := 0) rfl ?_
    refine fw_gf rfl rfl u17 rfl ?_
    refine ik_Wc 2 1 0 [.ref 7] [fI p] rfl rfl rfl (by decide) rfl rfl (fw_rec ul (fw_ftx rfl (wv_c rfl wv_n) (wl_c rfl (wl_c rfl (wl_c rfl (wl_c rfl (wl_c w4 wl_n)))))) u7 rfl (by decide)) ?_
    refine ik_Wk 0 (pc' := 0) (loc' := [some (.ref 7)]) (st' := []) (h' := u) (cl' := 0) (sl' := 0) rfl ?_
    refine ik_Wk 1 (pc' := 1) (loc' := [some (.ref 7)]) (st' := [.ref 7]) (h' := u) (cl' := 0) (sl' := 0) rfl ?_
    refine fw_gf rfl rfl u7 rfl ?_
    refine ik_Wk 1 (pc' := 5) (loc' := [some (.ref 7)]) (st' := [fI 1, fI pl]) (h' := u) (cl' := 0) (sl' := 0) rfl ?_
    refine fw_sub rfl ?_
    refine ik_Wret rfl rfl ⟨_, _, rfl, rfl, ?_⟩
    refine ik_Wk 0 (pc' := 30) (loc' := [some (.ref 17), some (fI 1), some (fI nw), some (fI p), x4]) (st' := [fI (pl - 1), fI p]) (h' := u) (cl' := 0) (sl' := 0) rfl ?_
    refine fw_ic_ge rfl rfl (by omega) (by omega) (by omega) (by omega) (fun hc1 => ?_) (fun hc1 => ?_)
    · have e0 : (pl - 1 - p).toNat = 0 := by omega
      rw [e0] at he
      rw [he]
      exact ik_Wret rfl rfl ⟨_, _, rfl, rfl, rfl, rfl, ⟨l0, l1, l2, wg1, wc1, we1, rfl, u7, u11, n11, u12, n12, u13, n13, u17, u19, u20, u21, u33, hy, F⟩⟩
    · refine ik_Wk 1 (pc' := 34) (loc' := [some (.ref 17), some (fI 1), some (fI nw), some (fI p), x4]) (st' := [.ref 17]) (h' := u) (cl' := 0) (sl' := 0) rfl ?_
      refine fw_gf rfl rfl u17 rfl ?_
      refine ik_Wk 1 (pc' := 38) (loc' := [some (.ref 17), some (fI 1), some (fI nw), some (fI p), x4]) (st' := [fI p, .ref 7]) (h' := u) (cl' := 0) (sl' := 0) rfl ?_
      refine fw_call 14 2 0 [.ref 7, fI p] [] rfl rfl rfl (by decide) rfl rfl (fw_rec ul (fw_ftx rfl wv_n (wl_c rfl (wl_c rfl (wl_c rfl (wl_c rfl (wl_c w4 wl_n)))))) u7 rfl (by decide)) (cs_turn (p := p) (pl := pl) (lo := lo) (s := s) (cn := cn) (go := go) (ch := ch) (wg := wg1) (wc := wc1) (we := we1) (by omega) (by omega) q8 (by have := (q6 p (by omega) (by omega)).1; omega) (mx_rw_ch q6 p (by omega) (by omega)).2 (mx_rw_ch q6 p (by omega) (by omega)).1 u7 u8 n8 u9 n9 u10 n10 u11 n11 u12 n12 u13 n13 ul) ?_
      rintro _ h_202 ⟨wg'_202, wc'_202, rfl, e_202_7, e_202_11, m_202_11, e_202_12, m_202_12, e_202_13, m_202_13, p_202_0, p_202_1, p_202_2, F_202⟩
      have k_202 := F_202.1.trans ul
      have fr_202 := hfr_c F F_202 (by decide)
      have g_202_8 := (F_202.2 8 (by decide +kernel)).trans u8
      have g_202_9 := (F_202.2 9 (by decide +kernel)).trans u9
      have g_202_10 := (F_202.2 10 (by decide +kernel)).trans u10
      have g_202_15 := (F_202.2 15 (by decide +kernel)).trans u15
      have g_202_17 := (F_202.2 17 (by decide +kernel)).trans u17
      have g_202_18 := (F_202.2 18 (by decide +kernel)).trans u18
      have g_202_19 := (F_202.2 19 (by decide +kernel)).trans u19
      have g_202_20 := (F_202.2 20 (by decide +kernel)).trans u20
      have g_202_21 := mf_cr_f u21 (F_202.2 21 (by decide)) (F_202.2 22 (by decide)) (F_202.2 23 (by decide)) (F_202.2 24 (by decide))
      have g_202_33 := mf_cr_f u33 (F_202.2 33 (by decide)) (F_202.2 34 (by decide)) (F_202.2 35 (by decide)) (F_202.2 36 (by decide))
      have g_202_7 : cE h_202 7 (.inr (0, [fI pl, fI ((s ^^^ 1 <<< p.toNat : Nat) : Int), fI lo, .ref 8, .ref 9, .ref 10, .ref 11, .ref 12, .ref 13])) := e_202_7
      have g_202_11 : cE h_202 11 (.inl (.int, fA wg'_202)) := e_202_11
      have g_202_12 : cE h_202 12 (.inl (.int, fA wc'_202)) := e_202_12
      have g_202_13 : cE h_202 13 (.inl (.int, fA (we1.set p.toNat (5 * p + ((mx_w cn go ch (s ^^^ 1 <<< p.toNat) p).length : Int))))) := e_202_13
      refine ik_Wk 0 (pc' := 41) (loc' := [some (.ref 17), some (fI 1), some (fI nw), some (fI p), x4]) (st' := []) (h' := h_202) (cl' := 0) (sl' := 0) rfl ?_
      have wy_202 : ∀ x : Int, 0 ≤ x → x < pl - 1 → mx_wy wg'_202 wc'_202 (we1.set p.toNat (5 * p + ((mx_w cn go ch (s ^^^ 1 <<< p.toNat) p).length : Int))) x (mx_w cn go ch (s ^^^ 1 <<< p.toNat) x) := mx_wy_one (W := (fun x => mx_w cn go ch s x)) (W' := (fun x => mx_w cn go ch (s ^^^ 1 <<< p.toNat) x)) hy (mx_rw_ok q6 _) (by omega) (by omega) n13 p_202_0 p_202_1 p_202_2 (fun x h0 h1 hx => mx_w_tb (mx_tb_ne (by omega)))
      refine ik_Wk 1 (pc' := 42) (loc' := [some (.ref 17), some (fI 1), some (fI nw), some (fI p), x4]) (st' := [.ref 17]) (h' := h_202) (cl' := 0) (sl' := 0) rfl ?_
      refine fw_ld 1000000 rfl rfl (by decide) ?_
      refine fw_call 79 2 0 [.ref 17, fI 1000000] [] rfl rfl rfl (by decide) rfl rfl (fw_rec k_202 (fw_ftx rfl wv_n (wl_c rfl (wl_c rfl (wl_c rfl (wl_c rfl (wl_c w4 wl_n)))))) g_202_17 rfl (by decide)) (cs_raceAsSet (pl := pl) (lo := lo) (s := s ^^^ 1 <<< p.toNat) (ka := ka) (pa := pa) (fa := fa) (kb := kb) (pb := pb) (fb := fb) (lim := 1000000) (bo := l2) (la := l0) (lb := l1) (wg := wg'_202) (wc := wc'_202) (we := we1.set p.toNat (5 * p + ((mx_w cn go ch (s ^^^ 1 <<< p.toNat) p).length : Int))) (W := (fun x => mx_w cn go ch (s ^^^ 1 <<< p.toNat) x)) (by omega) (by omega) (by omega) (by omega) (by omega) (by omega) wy_202 (mx_rw_ok q6 _) g_202_7 g_202_11 m_202_11 g_202_12 m_202_12 g_202_13 m_202_13 g_202_15 g_202_17 g_202_18 g_202_19 g_202_21 g_202_33 k_202) ?_
      rintro _ h_203 ⟨l0_203, l1_203, l2_203, rfl, e_203_17, e_203_19, e_203_21, e_203_33, p_203_0, p_203_1, F_203⟩
      have k_203 := F_203.1.trans k_202
      have fr_203 := hfr_c fr_202 F_203 (by decide)
      have g_203_7 := (F_203.2 7 (by decide +kernel)).trans g_202_7
      have g_203_8 := (F_203.2 8 (by decide +kernel)).trans g_202_8
      have g_203_9 := (F_203.2 9 (by decide +kernel)).trans g_202_9
      have g_203_10 := (F_203.2 10 (by decide +kernel)).trans g_202_10
      have g_203_11 := (F_203.2 11 (by decide +kernel)).trans g_202_11
      have g_203_12 := (F_203.2 12 (by decide +kernel)).trans g_202_12
      have g_203_13 := (F_203.2 13 (by decide +kernel)).trans g_202_13
      have g_203_15 := (F_203.2 15 (by decide +kernel)).trans g_202_15
      have g_203_18 := (F_203.2 18 (by decide +kernel)).trans g_202_18
      have g_203_20 := (F_203.2 20 (by decide +kernel)).trans g_202_20
      have g_203_17 : cE h_203 17 (.inr (8, [.ref 7, .ref 15, .ref 18, .ref 19, fJ l2_203, .ref 20])) := e_203_17
      have g_203_19 : cE h_203 19 (.inl (.long, fL [l0_203, l1_203])) := e_203_19
      have g_203_21 : mf_cr h_203 21  := e_203_21
      have g_203_33 : mf_cr h_203 33  := e_203_33
      refine ik_Wk 0 (pc' := 47) (loc' := [some (.ref 17), some (fI 1), some (fI nw), some (fI p), x4]) (st' := []) (h' := h_203) (cl' := 0) (sl' := 0) rfl ?_
      have ka_203 := mr_ok_cm (W := (fun x => mx_w cn go ch (s ^^^ 1 <<< p.toNat) x)) (k := ka) (mx_rw_ok q6 _) q2
      have kb_203 := mr_ok_cm (W := (fun x => mx_w cn go ch (s ^^^ 1 <<< p.toNat) x)) (k := kb) (mx_rw_ok q6 _) q3
      have Fa_203 := mr_F_b ka_203 kb_203 fa (show 0 ≤ fb by omega)
      have Fb_203 := mr_F_b kb_203 ka_203 fb (show 0 ≤ fa by omega)
      have el_203 : l0_203 = mr_F0 (mf_cm (fun x => mx_w cn go ch (s ^^^ 1 <<< p.toNat) x) (pl - 1) ka pa) fa (mf_cm (fun x => mx_w cn go ch (s ^^^ 1 <<< p.toNat) x) (pl - 1) kb pb) fb ∧ l1_203 = mr_F0 (mf_cm (fun x => mx_w cn go ch (s ^^^ 1 <<< p.toNat) x) (pl - 1) kb pb) fb (mf_cm (fun x => mx_w cn go ch (s ^^^ 1 <<< p.toNat) x) (pl - 1) ka pa) fa := by
        rcases p_203_1 with e | e
        · exact ⟨e.1, e.2.1⟩
        · omega
      have ew_203 : (l1_203 / 1000 : Int) = (mr_w (mf_cm (fun x => mx_w cn go ch (s ^^^ 1 <<< p.toNat) x) (pl - 1) ka pa) fa (mf_cm (fun x => mx_w cn go ch (s ^^^ 1 <<< p.toNat) x) (pl - 1) kb pb) fb 1 : Int) := by rw [mr_w_1, el_203.2]
      have wb_203 := mr_w_b ka_203 kb_203 (show 0 ≤ fa by omega) (show 0 ≤ fb by omega) 1
      have ev : (mk_vm cn go ch s pl ka pa fa kb pb fb 1) p = (l1_203 / 1000 - nw : Int) := by show mk_lw cn go ch (s ^^^ 1 <<< p.toNat) pl ka pa fa kb pb fb 1 - mk_lw cn go ch s pl ka pa fa kb pb fb 1 = _; rw [← hnw, ew_203]; rfl
      refine ik_Wk 1 (pc' := 48) (loc' := [some (.ref 17), some (fI 1), some (fI nw), some (fI p), x4]) (st' := [.ref 17]) (h' := h_203) (cl' := 0) (sl' := 0) rfl ?_
      refine fw_gf rfl rfl g_203_17 rfl ?_
      refine ik_Wk 1 (pc' := 52) (loc' := [some (.ref 17), some (fI 1), some (fI nw), some (fI p), x4]) (st' := [fI p, .ref 7]) (h' := h_203) (cl' := 0) (sl' := 0) rfl ?_
      refine fw_call 14 2 0 [.ref 7, fI p] [] rfl rfl rfl (by decide) rfl rfl (fw_rec k_203 (fw_ftx rfl wv_n (wl_c rfl (wl_c rfl (wl_c rfl (wl_c rfl (wl_c w4 wl_n)))))) g_203_7 rfl (by decide)) (cs_turn (p := p) (pl := pl) (lo := lo) (s := s ^^^ 1 <<< p.toNat) (cn := cn) (go := go) (ch := ch) (wg := wg'_202) (wc := wc'_202) (we := we1.set p.toNat (5 * p + ((mx_w cn go ch (s ^^^ 1 <<< p.toNat) p).length : Int))) (by omega) (by omega) (mx_xor_lt q8 (by omega)) (by have := (q6 p (by omega) (by omega)).1; omega) (mx_rw_ch q6 p (by omega) (by omega)).2 (mx_rw_ch q6 p (by omega) (by omega)).1 g_203_7 g_203_8 n8 g_203_9 n9 g_203_10 n10 g_203_11 m_202_11 g_203_12 m_202_12 g_203_13 m_202_13 k_203) ?_
      rintro _ h_204 ⟨wg'_204, wc'_204, rfl, e_204_7, e_204_11, m_204_11, e_204_12, m_204_12, e_204_13, m_204_13, p_204_0, p_204_1, p_204_2, F_204⟩
      have k_204 := F_204.1.trans k_203
      have fr_204 := hfr_c fr_203 F_204 (by decide)
      have g_204_8 := (F_204.2 8 (by decide +kernel)).trans g_203_8
      have g_204_9 := (F_204.2 9 (by decide +kernel)).trans g_203_9
      have g_204_10 := (F_204.2 10 (by decide +kernel)).trans g_203_10
      have g_204_15 := (F_204.2 15 (by decide +kernel)).trans g_203_15
      have g_204_17 := (F_204.2 17 (by decide +kernel)).trans g_203_17
      have g_204_18 := (F_204.2 18 (by decide +kernel)).trans g_203_18
      have g_204_19 := (F_204.2 19 (by decide +kernel)).trans g_203_19
      have g_204_20 := (F_204.2 20 (by decide +kernel)).trans g_203_20
      have g_204_21 := mf_cr_f g_203_21 (F_204.2 21 (by decide)) (F_204.2 22 (by decide)) (F_204.2 23 (by decide)) (F_204.2 24 (by decide))
      have g_204_33 := mf_cr_f g_203_33 (F_204.2 33 (by decide)) (F_204.2 34 (by decide)) (F_204.2 35 (by decide)) (F_204.2 36 (by decide))
      have g_204_7 : cE h_204 7 (.inr (0, [fI pl, fI (((s ^^^ 1 <<< p.toNat) ^^^ 1 <<< p.toNat : Nat) : Int), fI lo, .ref 8, .ref 9, .ref 10, .ref 11, .ref 12, .ref 13])) := e_204_7
      have g_204_11 : cE h_204 11 (.inl (.int, fA wg'_204)) := e_204_11
      have g_204_12 : cE h_204 12 (.inl (.int, fA wc'_204)) := e_204_12
      have g_204_13 : cE h_204 13 (.inl (.int, fA ((we1.set p.toNat (5 * p + ((mx_w cn go ch (s ^^^ 1 <<< p.toNat) p).length : Int))).set p.toNat (5 * p + ((mx_w cn go ch ((s ^^^ 1 <<< p.toNat) ^^^ 1 <<< p.toNat) p).length : Int))))) := e_204_13
      refine ik_Wk 0 (pc' := 55) (loc' := [some (.ref 17), some (fI 1), some (fI nw), some (fI p), x4]) (st' := []) (h' := h_204) (cl' := 0) (sl' := 0) rfl ?_
      simp only [mx_xor2] at g_204_7 g_204_13 p_204_0
      have hl2 : ((we1.set p.toNat (5 * p + ((mx_w cn go ch (s ^^^ 1 <<< p.toNat) p).length : Int))).set p.toNat (5 * p + ((mx_w cn go ch s p).length : Int))).length = 12 := by rw [List.length_set]; exact m_202_13
      have wy_204 : ∀ x : Int, 0 ≤ x → x < pl - 1 → mx_wy wg'_204 wc'_204 ((we1.set p.toNat (5 * p + ((mx_w cn go ch (s ^^^ 1 <<< p.toNat) p).length : Int))).set p.toNat (5 * p + ((mx_w cn go ch s p).length : Int))) x (mx_w cn go ch s x) := mx_wy_one (W := (fun x => mx_w cn go ch (s ^^^ 1 <<< p.toNat) x)) (W' := (fun x => mx_w cn go ch s x)) wy_202 (mx_rw_ok q6 _) (by omega) (by omega) m_202_13 p_204_0 p_204_1 p_204_2 (fun x h0 h1 hx => (mx_w_tb (mx_tb_ne (by omega))).symm)
      refine ik_Wk 2 (pc' := 57) (loc' := [some (.ref 17), some (fI 1), some (fI nw), some (fI p), x4]) (st' := [fI 1, .ref 17]) (h' := h_204) (cl' := 0) (sl' := 0) rfl ?_
      refine ik_Wc 74 2 0 [.ref 17, fI 1] [] rfl rfl rfl (by decide) rfl rfl (fw_rec k_204 (fw_ftx rfl wv_n (wl_c rfl (wl_c rfl (wl_c rfl (wl_c rfl (wl_c w4 wl_n)))))) g_204_17 rfl (by decide)) ?_
      refine ik_Wk 0 (pc' := 0) (loc' := [some (.ref 17), some (fI 1)]) (st' := []) (h' := h_204) (cl' := 0) (sl' := 0) rfl ?_
      refine ik_Wk 1 (pc' := 1) (loc' := [some (.ref 17), some (fI 1)]) (st' := [.ref 17]) (h' := h_204) (cl' := 0) (sl' := 0) rfl ?_
      refine fw_gf rfl rfl g_204_17 rfl ?_
      refine ik_Wk 1 (pc' := 5) (loc' := [some (.ref 17), some (fI 1)]) (st' := [fI 1, .ref 19]) (h' := h_204) (cl' := 0) (sl' := 0) rfl ?_
      refine fx_lal (z := 1) rfl g_204_19 (by decide) (Nat.le_of_ble_eq_true rfl) (by decide) ?_
      refine ik_Wk 0 (pc' := 6) (loc' := [some (.ref 17), some (fI 1)]) (st' := [fJ l1_203]) (h' := h_204) (cl' := 0) (sl' := 0) rfl ?_
      refine fw_l2 1000 rfl rfl (by decide) ?_
      refine fx_ldiv rfl (by omega) (by omega) (by omega) (by omega) ?_
      refine fx_l2i rfl ?_
      refine ik_Wret rfl rfl ⟨_, _, rfl, rfl, ?_⟩
      refine ik_Wk 0 (pc' := 60) (loc' := [some (.ref 17), some (fI 1), some (fI nw), some (fI p), x4]) (st' := [fI (l1_203 / 1000)]) (h' := h_204) (cl' := 0) (sl' := 0) rfl ?_
      refine ik_Wk 1 (pc' := 61) (loc' := [some (.ref 17), some (fI 1), some (fI nw), some (fI p), x4]) (st' := [fI nw, fI (l1_203 / 1000)]) (h' := h_204) (cl' := 0) (sl' := 0) rfl ?_
      refine fw_sub rfl ?_
      refine ik_Wk 2 (pc' := 65) (loc' := [some (.ref 17), some (fI 1), some (fI nw), some (fI p), some (fI ((l1_203 / 1000) - nw))]) (st' := [fI p]) (h' := h_204) (cl' := 0) (sl' := 0) rfl ?_
      refine fw_if_eq rfl rfl (by omega) (by omega) (fun hc3 => ?_) (fun hc3 => ?_)
      · refine ik_Wk 5 (pc' := 91) (loc' := [some (.ref 17), some (fI 1), some (fI nw), some (fI p), some (fI ((l1_203 / 1000) - nw))]) (st' := [fI (-1), fI (-1), fI ((l1_203 / 1000) - nw), fI p, .ref 17]) (h' := h_204) (cl' := 0) (sl' := 0) rfl ?_
        refine ik_Wc 88 5 0 [.ref 17, fI p, fI ((l1_203 / 1000) - nw), fI (-1), fI (-1)] [] rfl rfl rfl (by decide) rfl rfl (fw_rec k_204 rfl g_204_17 rfl (by decide)) ?_
        refine ik_Wk 0 (pc' := 0) (loc' := [some (.ref 17), some (fI p), some (fI ((l1_203 / 1000) - nw)), some (fI (-1)), some (fI (-1))]) (st' := []) (h' := h_204) (cl' := 0) (sl' := 0) rfl ?_
        refine ik_Wk 1 (pc' := 1) (loc' := [some (.ref 17), some (fI p), some (fI ((l1_203 / 1000) - nw)), some (fI (-1)), some (fI (-1))]) (st' := [.ref 17]) (h' := h_204) (cl' := 0) (sl' := 0) rfl ?_
        refine fw_gf rfl rfl g_204_17 rfl ?_
        refine ik_Wk 2 (pc' := 6) (loc' := [some (.ref 17), some (fI p), some (fI ((l1_203 / 1000) - nw)), some (fI (-1)), some (fI (-1))]) (st' := [fI p, fI 0, .ref 20]) (h' := h_204) (cl' := 0) (sl' := 0) rfl ?_
        refine fx_ias (z := 0) rfl g_204_20 (by decide) (Nat.le_of_ble_eq_true rfl) (by decide) ?_
        intro h_205 e_205 f_205 l_205
        have k_205 := l_205.trans k_204
        have fr_205 := hfr_w fr_204 f_205 l_205 (by decide)
        have g_205_7 := (f_205 7 (by decide)).trans g_204_7
        have g_205_8 := (f_205 8 (by decide)).trans g_204_8
        have g_205_9 := (f_205 9 (by decide)).trans g_204_9
        have g_205_10 := (f_205 10 (by decide)).trans g_204_10
        have g_205_11 := (f_205 11 (by decide)).trans g_204_11
        have g_205_12 := (f_205 12 (by decide)).trans g_204_12
        have g_205_13 := (f_205 13 (by decide)).trans g_204_13
        have g_205_15 := (f_205 15 (by decide)).trans g_204_15
        have g_205_17 := (f_205 17 (by decide)).trans g_204_17
        have g_205_18 := (f_205 18 (by decide)).trans g_204_18
        have g_205_19 := (f_205 19 (by decide)).trans g_204_19
        have g_205_21 := mf_cr_f g_204_21 (f_205 21 (by decide)) (f_205 22 (by decide)) (f_205 23 (by decide)) (f_205 24 (by decide))
        have g_205_33 := mf_cr_f g_204_33 (f_205 33 (by decide)) (f_205 34 (by decide)) (f_205 35 (by decide)) (f_205 36 (by decide))
        have g_205_20 : cE h_205 20 (.inl (.int, fA [p, y, -1, -1])) := e_205
        refine ik_Wk 1 (pc' := 8) (loc' := [some (.ref 17), some (fI p), some (fI ((l1_203 / 1000) - nw)), some (fI (-1)), some (fI (-1))]) (st' := [.ref 17]) (h' := h_205) (cl' := 0) (sl' := 0) rfl ?_
        refine fw_gf rfl rfl g_205_17 rfl ?_
        refine ik_Wk 2 (pc' := 13) (loc' := [some (.ref 17), some (fI p), some (fI ((l1_203 / 1000) - nw)), some (fI (-1)), some (fI (-1))]) (st' := [fI ((l1_203 / 1000) - nw), fI 1, .ref 20]) (h' := h_205) (cl' := 0) (sl' := 0) rfl ?_
        refine fx_ias (z := 1) rfl g_205_20 (by decide) (Nat.le_of_ble_eq_true rfl) (by decide) ?_
        intro h_206 e_206 f_206 l_206
        have k_206 := l_206.trans k_205
        have fr_206 := hfr_w fr_205 f_206 l_206 (by decide)
        have g_206_7 := (f_206 7 (by decide)).trans g_205_7
        have g_206_8 := (f_206 8 (by decide)).trans g_205_8
        have g_206_9 := (f_206 9 (by decide)).trans g_205_9
        have g_206_10 := (f_206 10 (by decide)).trans g_205_10
        have g_206_11 := (f_206 11 (by decide)).trans g_205_11
        have g_206_12 := (f_206 12 (by decide)).trans g_205_12
        have g_206_13 := (f_206 13 (by decide)).trans g_205_13
        have g_206_15 := (f_206 15 (by decide)).trans g_205_15
        have g_206_17 := (f_206 17 (by decide)).trans g_205_17
        have g_206_18 := (f_206 18 (by decide)).trans g_205_18
        have g_206_19 := (f_206 19 (by decide)).trans g_205_19
        have g_206_21 := mf_cr_f g_205_21 (f_206 21 (by decide)) (f_206 22 (by decide)) (f_206 23 (by decide)) (f_206 24 (by decide))
        have g_206_33 := mf_cr_f g_205_33 (f_206 33 (by decide)) (f_206 34 (by decide)) (f_206 35 (by decide)) (f_206 36 (by decide))
        have g_206_20 : cE h_206 20 (.inl (.int, fA [p, (l1_203 / 1000) - nw, -1, -1])) := e_206
        refine ik_Wk 1 (pc' := 15) (loc' := [some (.ref 17), some (fI p), some (fI ((l1_203 / 1000) - nw)), some (fI (-1)), some (fI (-1))]) (st' := [.ref 17]) (h' := h_206) (cl' := 0) (sl' := 0) rfl ?_
        refine fw_gf rfl rfl g_206_17 rfl ?_
        refine ik_Wk 2 (pc' := 20) (loc' := [some (.ref 17), some (fI p), some (fI ((l1_203 / 1000) - nw)), some (fI (-1)), some (fI (-1))]) (st' := [fI (-1), fI 2, .ref 20]) (h' := h_206) (cl' := 0) (sl' := 0) rfl ?_
        refine fx_ias (z := 2) rfl g_206_20 (by decide) (Nat.le_of_ble_eq_true rfl) (by decide) ?_
        intro h_207 e_207 f_207 l_207
        have k_207 := l_207.trans k_206
        have fr_207 := hfr_w fr_206 f_207 l_207 (by decide)
        have g_207_7 := (f_207 7 (by decide)).trans g_206_7
        have g_207_8 := (f_207 8 (by decide)).trans g_206_8
        have g_207_9 := (f_207 9 (by decide)).trans g_206_9
        have g_207_10 := (f_207 10 (by decide)).trans g_206_10
        have g_207_11 := (f_207 11 (by decide)).trans g_206_11
        have g_207_12 := (f_207 12 (by decide)).trans g_206_12
        have g_207_13 := (f_207 13 (by decide)).trans g_206_13
        have g_207_15 := (f_207 15 (by decide)).trans g_206_15
        have g_207_17 := (f_207 17 (by decide)).trans g_206_17
        have g_207_18 := (f_207 18 (by decide)).trans g_206_18
        have g_207_19 := (f_207 19 (by decide)).trans g_206_19
        have g_207_21 := mf_cr_f g_206_21 (f_207 21 (by decide)) (f_207 22 (by decide)) (f_207 23 (by decide)) (f_207 24 (by decide))
        have g_207_33 := mf_cr_f g_206_33 (f_207 33 (by decide)) (f_207 34 (by decide)) (f_207 35 (by decide)) (f_207 36 (by decide))
        have g_207_20 : cE h_207 20 (.inl (.int, fA [p, (l1_203 / 1000) - nw, -1, -1])) := e_207
        refine ik_Wk 1 (pc' := 22) (loc' := [some (.ref 17), some (fI p), some (fI ((l1_203 / 1000) - nw)), some (fI (-1)), some (fI (-1))]) (st' := [.ref 17]) (h' := h_207) (cl' := 0) (sl' := 0) rfl ?_
        refine fw_gf rfl rfl g_207_17 rfl ?_
        refine ik_Wk 2 (pc' := 28) (loc' := [some (.ref 17), some (fI p), some (fI ((l1_203 / 1000) - nw)), some (fI (-1)), some (fI (-1))]) (st' := [fI (-1), fI 3, .ref 20]) (h' := h_207) (cl' := 0) (sl' := 0) rfl ?_
        refine fx_ias (z := 3) rfl g_207_20 (by decide) (Nat.le_of_ble_eq_true rfl) (by decide) ?_
        intro h_208 e_208 f_208 l_208
        have k_208 := l_208.trans k_207
        have fr_208 := hfr_w fr_207 f_208 l_208 (by decide)
        have g_208_7 := (f_208 7 (by decide)).trans g_207_7
        have g_208_8 := (f_208 8 (by decide)).trans g_207_8
        have g_208_9 := (f_208 9 (by decide)).trans g_207_9
        have g_208_10 := (f_208 10 (by decide)).trans g_207_10
        have g_208_11 := (f_208 11 (by decide)).trans g_207_11
        have g_208_12 := (f_208 12 (by decide)).trans g_207_12
        have g_208_13 := (f_208 13 (by decide)).trans g_207_13
        have g_208_15 := (f_208 15 (by decide)).trans g_207_15
        have g_208_17 := (f_208 17 (by decide)).trans g_207_17
        have g_208_18 := (f_208 18 (by decide)).trans g_207_18
        have g_208_19 := (f_208 19 (by decide)).trans g_207_19
        have g_208_21 := mf_cr_f g_207_21 (f_208 21 (by decide)) (f_208 22 (by decide)) (f_208 23 (by decide)) (f_208 24 (by decide))
        have g_208_33 := mf_cr_f g_207_33 (f_208 33 (by decide)) (f_208 34 (by decide)) (f_208 35 (by decide)) (f_208 36 (by decide))
        have g_208_20 : cE h_208 20 (.inl (.int, fA [p, (l1_203 / 1000) - nw, -1, -1])) := e_208
        refine ik_Wret rfl rfl ⟨_, _, rfl, rfl, ?_⟩
        refine ik_Wk 0 (pc' := 94) (loc' := [some (.ref 17), some (fI 1), some (fI nw), some (fI p), some (fI ((l1_203 / 1000) - nw))]) (st' := []) (h' := h_208) (cl' := 0) (sl' := 0) rfl ?_
        refine fw_inc (a := p) (loc' := [some (.ref 17), some (fI 1), some (fI nw), some (fI (p + 1)), some (fI ((l1_203 / 1000) - nw))]) rfl rfl (Nat.le_of_ble_eq_true rfl) rfl ?_
        refine ik_Wk 1 (pc' := 22) (loc' := [some (.ref 17), some (fI 1), some (fI nw), some (fI (p + 1)), some (fI ((l1_203 / 1000) - nw))]) (st' := []) (h' := h_208) (cl' := 0) (sl' := 0) rfl ?_
        exact ih  (p + 1) p ((l1_203 / 1000) - nw) l0_203 l1_203 l2_203 wg'_204 wc'_204 ((we1.set p.toNat (5 * p + ((mx_w cn go ch (s ^^^ 1 <<< p.toNat) p).length : Int))).set p.toNat (5 * p + ((mx_w cn go ch s p).length : Int))) (some (fI ((l1_203 / 1000) - nw))) h_208 g_208_7 g_208_8 n8 g_208_9 n9 g_208_10 n10 g_208_11 m_204_11 g_208_12 m_204_12 g_208_13 hl2 g_208_15 g_208_17 g_208_18 g_208_19 g_208_20 g_208_21 g_208_33 k_208 fr_208 (by omega) (by omega) wy_204 (by rw [he, show (pl - 1 - p).toNat = (pl - 1 - (p + 1)).toNat + 1 by omega]; show (if p = 0 ∨ mk_ab y < mk_ab ((mk_vm cn go ch s pl ka pa fa kb pb fb 1) p) then _ else _) = _; rw [ev, if_pos (by omega)]) rfl (by omega)
      · refine ik_Wk 1 (pc' := 70) (loc' := [some (.ref 17), some (fI 1), some (fI nw), some (fI p), some (fI ((l1_203 / 1000) - nw))]) (st' := [fI ((l1_203 / 1000) - nw)]) (h' := h_204) (cl' := 0) (sl' := 0) rfl ?_
        refine fx_ab rfl rfl rfl ⟨Nat.le_of_ble_eq_true rfl, Nat.le_of_ble_eq_true rfl, Nat.le_of_ble_eq_true rfl⟩ (by omega) (by omega) ?_
        intro mm4 qmm4
        have ab1 : mk_ab ((l1_203 / 1000) - nw) = mm4 := by unfold mk_ab; split <;> omega
        refine ik_Wk 1 (pc' := 74) (loc' := [some (.ref 17), some (fI 1), some (fI nw), some (fI p), some (fI ((l1_203 / 1000) - nw))]) (st' := [.ref 17, fI mm4]) (h' := h_204) (cl' := 0) (sl' := 0) rfl ?_
        refine fw_gf rfl rfl g_204_17 rfl ?_
        refine ik_Wk 1 (pc' := 78) (loc' := [some (.ref 17), some (fI 1), some (fI nw), some (fI p), some (fI ((l1_203 / 1000) - nw))]) (st' := [fI 1, .ref 20, fI mm4]) (h' := h_204) (cl' := 0) (sl' := 0) rfl ?_
        refine fw_ial (z := 1) rfl g_204_20 (by decide) (Nat.le_of_ble_eq_true rfl) (by decide) ?_
        refine ik_Wk 0 (pc' := 79) (loc' := [some (.ref 17), some (fI 1), some (fI nw), some (fI p), some (fI ((l1_203 / 1000) - nw))]) (st' := [fI y, fI mm4]) (h' := h_204) (cl' := 0) (sl' := 0) rfl ?_
        refine fx_ab rfl rfl rfl ⟨Nat.le_of_ble_eq_true rfl, Nat.le_of_ble_eq_true rfl, Nat.le_of_ble_eq_true rfl⟩ (by omega) (by omega) ?_
        intro mm5 qmm5
        have ab0 : mk_ab y = mm5 := by unfold mk_ab; split <;> omega
        refine fw_ic_le rfl rfl (by omega) (by omega) (by omega) (by omega) (fun hc6 => ?_) (fun hc6 => ?_)
        · refine fw_inc (a := p) (loc' := [some (.ref 17), some (fI 1), some (fI nw), some (fI (p + 1)), some (fI ((l1_203 / 1000) - nw))]) rfl rfl (Nat.le_of_ble_eq_true rfl) rfl ?_
          refine ik_Wk 1 (pc' := 22) (loc' := [some (.ref 17), some (fI 1), some (fI nw), some (fI (p + 1)), some (fI ((l1_203 / 1000) - nw))]) (st' := []) (h' := h_204) (cl' := 0) (sl' := 0) rfl ?_
          exact ih  (p + 1) b y l0_203 l1_203 l2_203 wg'_204 wc'_204 ((we1.set p.toNat (5 * p + ((mx_w cn go ch (s ^^^ 1 <<< p.toNat) p).length : Int))).set p.toNat (5 * p + ((mx_w cn go ch s p).length : Int))) (some (fI ((l1_203 / 1000) - nw))) h_204 g_204_7 g_204_8 n8 g_204_9 n9 g_204_10 n10 g_204_11 m_204_11 g_204_12 m_204_12 g_204_13 hl2 g_204_15 g_204_17 g_204_18 g_204_19 g_204_20 g_204_21 g_204_33 k_204 fr_204 (by omega) (by omega) wy_204 (by rw [he, show (pl - 1 - p).toNat = (pl - 1 - (p + 1)).toNat + 1 by omega]; show (if p = 0 ∨ mk_ab y < mk_ab ((mk_vm cn go ch s pl ka pa fa kb pb fb 1) p) then _ else _) = _; rw [ev, if_neg (by rw [ab0, ab1]; omega)]) rfl (by omega)
        · refine ik_Wk 5 (pc' := 91) (loc' := [some (.ref 17), some (fI 1), some (fI nw), some (fI p), some (fI ((l1_203 / 1000) - nw))]) (st' := [fI (-1), fI (-1), fI ((l1_203 / 1000) - nw), fI p, .ref 17]) (h' := h_204) (cl' := 0) (sl' := 0) rfl ?_
          refine ik_Wc 88 5 0 [.ref 17, fI p, fI ((l1_203 / 1000) - nw), fI (-1), fI (-1)] [] rfl rfl rfl (by decide) rfl rfl (fw_rec k_204 rfl g_204_17 rfl (by decide)) ?_
          refine ik_Wk 0 (pc' := 0) (loc' := [some (.ref 17), some (fI p), some (fI ((l1_203 / 1000) - nw)), some (fI (-1)), some (fI (-1))]) (st' := []) (h' := h_204) (cl' := 0) (sl' := 0) rfl ?_
          refine ik_Wk 1 (pc' := 1) (loc' := [some (.ref 17), some (fI p), some (fI ((l1_203 / 1000) - nw)), some (fI (-1)), some (fI (-1))]) (st' := [.ref 17]) (h' := h_204) (cl' := 0) (sl' := 0) rfl ?_
          refine fw_gf rfl rfl g_204_17 rfl ?_
          refine ik_Wk 2 (pc' := 6) (loc' := [some (.ref 17), some (fI p), some (fI ((l1_203 / 1000) - nw)), some (fI (-1)), some (fI (-1))]) (st' := [fI p, fI 0, .ref 20]) (h' := h_204) (cl' := 0) (sl' := 0) rfl ?_
          refine fx_ias (z := 0) rfl g_204_20 (by decide) (Nat.le_of_ble_eq_true rfl) (by decide) ?_
          intro h_209 e_209 f_209 l_209
          have k_209 := l_209.trans k_204
          have fr_209 := hfr_w fr_204 f_209 l_209 (by decide)
          have g_209_7 := (f_209 7 (by decide)).trans g_204_7
          have g_209_8 := (f_209 8 (by decide)).trans g_204_8
          have g_209_9 := (f_209 9 (by decide)).trans g_204_9
          have g_209_10 := (f_209 10 (by decide)).trans g_204_10
          have g_209_11 := (f_209 11 (by decide)).trans g_204_11
          have g_209_12 := (f_209 12 (by decide)).trans g_204_12
          have g_209_13 := (f_209 13 (by decide)).trans g_204_13
          have g_209_15 := (f_209 15 (by decide)).trans g_204_15
          have g_209_17 := (f_209 17 (by decide)).trans g_204_17
          have g_209_18 := (f_209 18 (by decide)).trans g_204_18
          have g_209_19 := (f_209 19 (by decide)).trans g_204_19
          have g_209_21 := mf_cr_f g_204_21 (f_209 21 (by decide)) (f_209 22 (by decide)) (f_209 23 (by decide)) (f_209 24 (by decide))
          have g_209_33 := mf_cr_f g_204_33 (f_209 33 (by decide)) (f_209 34 (by decide)) (f_209 35 (by decide)) (f_209 36 (by decide))
          have g_209_20 : cE h_209 20 (.inl (.int, fA [p, y, -1, -1])) := e_209
          refine ik_Wk 1 (pc' := 8) (loc' := [some (.ref 17), some (fI p), some (fI ((l1_203 / 1000) - nw)), some (fI (-1)), some (fI (-1))]) (st' := [.ref 17]) (h' := h_209) (cl' := 0) (sl' := 0) rfl ?_
          refine fw_gf rfl rfl g_209_17 rfl ?_
          refine ik_Wk 2 (pc' := 13) (loc' := [some (.ref 17), some (fI p), some (fI ((l1_203 / 1000) - nw)), some (fI (-1)), some (fI (-1))]) (st' := [fI ((l1_203 / 1000) - nw), fI 1, .ref 20]) (h' := h_209) (cl' := 0) (sl' := 0) rfl ?_
          refine fx_ias (z := 1) rfl g_209_20 (by decide) (Nat.le_of_ble_eq_true rfl) (by decide) ?_
          intro h_210 e_210 f_210 l_210
          have k_210 := l_210.trans k_209
          have fr_210 := hfr_w fr_209 f_210 l_210 (by decide)
          have g_210_7 := (f_210 7 (by decide)).trans g_209_7
          have g_210_8 := (f_210 8 (by decide)).trans g_209_8
          have g_210_9 := (f_210 9 (by decide)).trans g_209_9
          have g_210_10 := (f_210 10 (by decide)).trans g_209_10
          have g_210_11 := (f_210 11 (by decide)).trans g_209_11
          have g_210_12 := (f_210 12 (by decide)).trans g_209_12
          have g_210_13 := (f_210 13 (by decide)).trans g_209_13
          have g_210_15 := (f_210 15 (by decide)).trans g_209_15
          have g_210_17 := (f_210 17 (by decide)).trans g_209_17
          have g_210_18 := (f_210 18 (by decide)).trans g_209_18
          have g_210_19 := (f_210 19 (by decide)).trans g_209_19
          have g_210_21 := mf_cr_f g_209_21 (f_210 21 (by decide)) (f_210 22 (by decide)) (f_210 23 (by decide)) (f_210 24 (by decide))
          have g_210_33 := mf_cr_f g_209_33 (f_210 33 (by decide)) (f_210 34 (by decide)) (f_210 35 (by decide)) (f_210 36 (by decide))
          have g_210_20 : cE h_210 20 (.inl (.int, fA [p, (l1_203 / 1000) - nw, -1, -1])) := e_210
          refine ik_Wk 1 (pc' := 15) (loc' := [some (.ref 17), some (fI p), some (fI ((l1_203 / 1000) - nw)), some (fI (-1)), some (fI (-1))]) (st' := [.ref 17]) (h' := h_210) (cl' := 0) (sl' := 0) rfl ?_
          refine fw_gf rfl rfl g_210_17 rfl ?_
          refine ik_Wk 2 (pc' := 20) (loc' := [some (.ref 17), some (fI p), some (fI ((l1_203 / 1000) - nw)), some (fI (-1)), some (fI (-1))]) (st' := [fI (-1), fI 2, .ref 20]) (h' := h_210) (cl' := 0) (sl' := 0) rfl ?_
          refine fx_ias (z := 2) rfl g_210_20 (by decide) (Nat.le_of_ble_eq_true rfl) (by decide) ?_
          intro h_211 e_211 f_211 l_211
          have k_211 := l_211.trans k_210
          have fr_211 := hfr_w fr_210 f_211 l_211 (by decide)
          have g_211_7 := (f_211 7 (by decide)).trans g_210_7
          have g_211_8 := (f_211 8 (by decide)).trans g_210_8
          have g_211_9 := (f_211 9 (by decide)).trans g_210_9
          have g_211_10 := (f_211 10 (by decide)).trans g_210_10
          have g_211_11 := (f_211 11 (by decide)).trans g_210_11
          have g_211_12 := (f_211 12 (by decide)).trans g_210_12
          have g_211_13 := (f_211 13 (by decide)).trans g_210_13
          have g_211_15 := (f_211 15 (by decide)).trans g_210_15
          have g_211_17 := (f_211 17 (by decide)).trans g_210_17
          have g_211_18 := (f_211 18 (by decide)).trans g_210_18
          have g_211_19 := (f_211 19 (by decide)).trans g_210_19
          have g_211_21 := mf_cr_f g_210_21 (f_211 21 (by decide)) (f_211 22 (by decide)) (f_211 23 (by decide)) (f_211 24 (by decide))
          have g_211_33 := mf_cr_f g_210_33 (f_211 33 (by decide)) (f_211 34 (by decide)) (f_211 35 (by decide)) (f_211 36 (by decide))
          have g_211_20 : cE h_211 20 (.inl (.int, fA [p, (l1_203 / 1000) - nw, -1, -1])) := e_211
          refine ik_Wk 1 (pc' := 22) (loc' := [some (.ref 17), some (fI p), some (fI ((l1_203 / 1000) - nw)), some (fI (-1)), some (fI (-1))]) (st' := [.ref 17]) (h' := h_211) (cl' := 0) (sl' := 0) rfl ?_
          refine fw_gf rfl rfl g_211_17 rfl ?_
          refine ik_Wk 2 (pc' := 28) (loc' := [some (.ref 17), some (fI p), some (fI ((l1_203 / 1000) - nw)), some (fI (-1)), some (fI (-1))]) (st' := [fI (-1), fI 3, .ref 20]) (h' := h_211) (cl' := 0) (sl' := 0) rfl ?_
          refine fx_ias (z := 3) rfl g_211_20 (by decide) (Nat.le_of_ble_eq_true rfl) (by decide) ?_
          intro h_212 e_212 f_212 l_212
          have k_212 := l_212.trans k_211
          have fr_212 := hfr_w fr_211 f_212 l_212 (by decide)
          have g_212_7 := (f_212 7 (by decide)).trans g_211_7
          have g_212_8 := (f_212 8 (by decide)).trans g_211_8
          have g_212_9 := (f_212 9 (by decide)).trans g_211_9
          have g_212_10 := (f_212 10 (by decide)).trans g_211_10
          have g_212_11 := (f_212 11 (by decide)).trans g_211_11
          have g_212_12 := (f_212 12 (by decide)).trans g_211_12
          have g_212_13 := (f_212 13 (by decide)).trans g_211_13
          have g_212_15 := (f_212 15 (by decide)).trans g_211_15
          have g_212_17 := (f_212 17 (by decide)).trans g_211_17
          have g_212_18 := (f_212 18 (by decide)).trans g_211_18
          have g_212_19 := (f_212 19 (by decide)).trans g_211_19
          have g_212_21 := mf_cr_f g_211_21 (f_212 21 (by decide)) (f_212 22 (by decide)) (f_212 23 (by decide)) (f_212 24 (by decide))
          have g_212_33 := mf_cr_f g_211_33 (f_212 33 (by decide)) (f_212 34 (by decide)) (f_212 35 (by decide)) (f_212 36 (by decide))
          have g_212_20 : cE h_212 20 (.inl (.int, fA [p, (l1_203 / 1000) - nw, -1, -1])) := e_212
          refine ik_Wret rfl rfl ⟨_, _, rfl, rfl, ?_⟩
          refine ik_Wk 0 (pc' := 94) (loc' := [some (.ref 17), some (fI 1), some (fI nw), some (fI p), some (fI ((l1_203 / 1000) - nw))]) (st' := []) (h' := h_212) (cl' := 0) (sl' := 0) rfl ?_
          refine fw_inc (a := p) (loc' := [some (.ref 17), some (fI 1), some (fI nw), some (fI (p + 1)), some (fI ((l1_203 / 1000) - nw))]) rfl rfl (Nat.le_of_ble_eq_true rfl) rfl ?_
          refine ik_Wk 1 (pc' := 22) (loc' := [some (.ref 17), some (fI 1), some (fI nw), some (fI (p + 1)), some (fI ((l1_203 / 1000) - nw))]) (st' := []) (h' := h_212) (cl' := 0) (sl' := 0) rfl ?_
          exact ih  (p + 1) p ((l1_203 / 1000) - nw) l0_203 l1_203 l2_203 wg'_204 wc'_204 ((we1.set p.toNat (5 * p + ((mx_w cn go ch (s ^^^ 1 <<< p.toNat) p).length : Int))).set p.toNat (5 * p + ((mx_w cn go ch s p).length : Int))) (some (fI ((l1_203 / 1000) - nw))) h_212 g_212_7 g_212_8 n8 g_212_9 n9 g_212_10 n10 g_212_11 m_204_11 g_212_12 m_204_12 g_212_13 hl2 g_212_15 g_212_17 g_212_18 g_212_19 g_212_20 g_212_21 g_212_33 k_212 fr_212 (by omega) (by omega) wy_204 (by rw [he, show (pl - 1 - p).toNat = (pl - 1 - (p + 1)).toNat + 1 by omega]; show (if p = 0 ∨ mk_ab y < mk_ab ((mk_vm cn go ch s pl ka pa fa kb pb fb 1) p) then _ else _) = _; rw [ev, if_pos (by rw [ab0, ab1]; omega)]) rfl (by omega)

theorem cs_most1 {h : List ik_E} {pl : Int} {lo : Int} {s : Nat} {ka : Int} {pa : Int} {fa : Int} {kb : Int} {pb : Int} {fb : Int} {bo : Int} {la : Int} {lb : Int} {t0 : Int} {t1 : Int} {t2 : Int} {t3 : Int} {wg : List Int} {wc : List Int} {we : List Int} {cn : List Int} {go : List Int} {ch : List Int} (q0 : 2 ≤ pl ∧ pl ≤ 12) (q1 : 0 ≤ ka ∧ ka ≤ 2 ∧ 0 ≤ kb ∧ kb ≤ 2) (q2 : 0 ≤ pa ∧ pa < pl - 1) (q3 : 0 ≤ pb ∧ pb < pl - 1) (q4 : 0 ≤ fa ∧ fa ≤ 30 ∧ 0 ≤ fb ∧ fb ≤ 30) (q5 : ∀ x : Int, 0 ≤ x → x < pl - 1 → mx_wy wg wc we x (mx_w cn go ch s x)) (q6 : mx_rw pl cn go ch) (q7 : True) (q8 : s < 4096) (h7 : cE h 7 (.inr (0, [fI pl, fI ((s : Nat) : Int), fI lo, .ref 8, .ref 9, .ref 10, .ref 11, .ref 12, .ref 13]))) (h8 : cE h 8 (.inl (.int, fA cn))) (n8 : cn.length = 12) (h9 : cE h 9 (.inl (.int, fA go))) (n9 : go.length = 48) (h10 : cE h 10 (.inl (.int, fA ch))) (n10 : ch.length = 48) (h11 : cE h 11 (.inl (.int, fA wg))) (n11 : wg.length = 60) (h12 : cE h 12 (.inl (.int, fA wc))) (n12 : wc.length = 60) (h13 : cE h 13 (.inl (.int, fA we))) (n13 : we.length = 12) (h15 : cE h 15 (.inl (.int, fA [ka, pa, fa, kb, pb, fb]))) (h17 : cE h 17 (.inr (8, [.ref 7, .ref 15, .ref 18, .ref 19, fJ bo, .ref 20]))) (h18 : cE h 18 (.inl (.object "SlowerCork$Course", [.ref 21, .ref 25, .ref 29, .ref 33, .ref 37, .ref 41]))) (h19 : cE h 19 (.inl (.long, fL [la, lb]))) (h20 : cE h 20 (.inl (.int, fA [t0, t1, t2, t3]))) (h21 : mf_cr h 21 ) (h33 : mf_cr h 33 ) (hl : h.length = 94) : ik_F 85 [.ref 17, fI 1] h (fun rv h' => ∃ (l0 : Int) (l1 : Int) (l2 : Int) (wg' : List Int) (wc' : List Int) (we' : List Int), rv = [] ∧ cE h' 7 (.inr (0, [fI pl, fI ((s : Nat) : Int), fI lo, .ref 8, .ref 9, .ref 10, .ref 11, .ref 12, .ref 13])) ∧ cE h' 11 (.inl (.int, fA wg')) ∧ wg'.length = 60 ∧ cE h' 12 (.inl (.int, fA wc')) ∧ wc'.length = 60 ∧ cE h' 13 (.inl (.int, fA we')) ∧ we'.length = 12 ∧ cE h' 17 (.inr (8, [.ref 7, .ref 15, .ref 18, .ref 19, fJ l2, .ref 20])) ∧ cE h' 19 (.inl (.long, fL [l0, l1])) ∧ cE h' 20 (.inl (.int, fA [(mk_mo (mk_vm cn go ch s pl ka pa fa kb pb fb 1) (pl - 1).toNat 0 (-1) 0).1, (mk_mo (mk_vm cn go ch s pl ka pa fa kb pb fb 1) (pl - 1).toNat 0 (-1) 0).2, -1, -1])) ∧ mf_cr h' 21  ∧ mf_cr h' 33  ∧ (∀ x : Int, 0 ≤ x → x < pl - 1 → mx_wy wg' wc' we' x (mx_w cn go ch s x)) ∧ hfr [7, 11, 12, 13, 17, 19, 20, 21, 22, 23, 24, 33, 34, 35, 36] h h') := by
  refine ik_Wk 1 (pc' := 1) (loc' := [some (.ref 17), some (fI 1), none, none, none]) (st' := [.ref 17]) (h' := h) (cl' := 0) (sl' := 0) rfl ?_
  refine fw_ld 1000000 rfl rfl (by decide) ?_
  refine fw_call 79 2 0 [.ref 17, fI 1000000] [] rfl rfl rfl (by decide) rfl rfl (fw_rec hl rfl h17 rfl (by decide)) (cs_raceAsSet (pl := pl) (lo := lo) (s := s) (ka := ka) (pa := pa) (fa := fa) (kb := kb) (pb := pb) (fb := fb) (lim := 1000000) (bo := bo) (la := la) (lb := lb) (wg := wg) (wc := wc) (we := we) (W := (fun x => mx_w cn go ch s x)) (by omega) (by omega) (by omega) (by omega) (by omega) (by omega) q5 (mx_rw_ok q6 _) h7 h11 n11 h12 n12 h13 n13 h15 h17 h18 h19 h21 h33 hl) ?_
  rintro _ h_213 ⟨l0_213, l1_213, l2_213, rfl, e_213_17, e_213_19, e_213_21, e_213_33, p_213_0, p_213_1, F_213⟩
  have k_213 := F_213.1.trans hl
  have fr_213 := hfr_c (hfr_refl [7, 11, 12, 13, 17, 19, 20, 21, 22, 23, 24, 33, 34, 35, 36] h) F_213 (by decide)
  have g_213_7 := (F_213.2 7 (by decide +kernel)).trans h7
  have g_213_8 := (F_213.2 8 (by decide +kernel)).trans h8
  have g_213_9 := (F_213.2 9 (by decide +kernel)).trans h9
  have g_213_10 := (F_213.2 10 (by decide +kernel)).trans h10
  have g_213_11 := (F_213.2 11 (by decide +kernel)).trans h11
  have g_213_12 := (F_213.2 12 (by decide +kernel)).trans h12
  have g_213_13 := (F_213.2 13 (by decide +kernel)).trans h13
  have g_213_15 := (F_213.2 15 (by decide +kernel)).trans h15
  have g_213_18 := (F_213.2 18 (by decide +kernel)).trans h18
  have g_213_20 := (F_213.2 20 (by decide +kernel)).trans h20
  have g_213_17 : cE h_213 17 (.inr (8, [.ref 7, .ref 15, .ref 18, .ref 19, fJ l2_213, .ref 20])) := e_213_17
  have g_213_19 : cE h_213 19 (.inl (.long, fL [l0_213, l1_213])) := e_213_19
  have g_213_21 : mf_cr h_213 21  := e_213_21
  have g_213_33 : mf_cr h_213 33  := e_213_33
  refine ik_Wk 0 (pc' := 6) (loc' := [some (.ref 17), some (fI 1), none, none, none]) (st' := []) (h' := h_213) (cl' := 0) (sl' := 0) rfl ?_
  have ka_213 := mr_ok_cm (W := (fun x => mx_w cn go ch s x)) (k := ka) (mx_rw_ok q6 _) q2
  have kb_213 := mr_ok_cm (W := (fun x => mx_w cn go ch s x)) (k := kb) (mx_rw_ok q6 _) q3
  have Fa_213 := mr_F_b ka_213 kb_213 fa (show 0 ≤ fb by omega)
  have Fb_213 := mr_F_b kb_213 ka_213 fb (show 0 ≤ fa by omega)
  have el_213 : l0_213 = mr_F0 (mf_cm (fun x => mx_w cn go ch s x) (pl - 1) ka pa) fa (mf_cm (fun x => mx_w cn go ch s x) (pl - 1) kb pb) fb ∧ l1_213 = mr_F0 (mf_cm (fun x => mx_w cn go ch s x) (pl - 1) kb pb) fb (mf_cm (fun x => mx_w cn go ch s x) (pl - 1) ka pa) fa := by
    rcases p_213_1 with e | e
    · exact ⟨e.1, e.2.1⟩
    · omega
  have ew_213 : (l1_213 / 1000 : Int) = (mr_w (mf_cm (fun x => mx_w cn go ch s x) (pl - 1) ka pa) fa (mf_cm (fun x => mx_w cn go ch s x) (pl - 1) kb pb) fb 1 : Int) := by rw [mr_w_1, el_213.2]
  have wb_213 := mr_w_b ka_213 kb_213 (show 0 ≤ fa by omega) (show 0 ≤ fb by omega) 1
  refine ik_Wk 2 (pc' := 8) (loc' := [some (.ref 17), some (fI 1), none, none, none]) (st' := [fI 1, .ref 17]) (h' := h_213) (cl' := 0) (sl' := 0) rfl ?_
  refine ik_Wc 74 2 0 [.ref 17, fI 1] [] rfl rfl rfl (by decide) rfl rfl (fw_rec k_213 rfl g_213_17 rfl (by decide)) ?_
  refine ik_Wk 0 (pc' := 0) (loc' := [some (.ref 17), some (fI 1)]) (st' := []) (h' := h_213) (cl' := 0) (sl' := 0) rfl ?_
  refine ik_Wk 1 (pc' := 1) (loc' := [some (.ref 17), some (fI 1)]) (st' := [.ref 17]) (h' := h_213) (cl' := 0) (sl' := 0) rfl ?_
  refine fw_gf rfl rfl g_213_17 rfl ?_
  refine ik_Wk 1 (pc' := 5) (loc' := [some (.ref 17), some (fI 1)]) (st' := [fI 1, .ref 19]) (h' := h_213) (cl' := 0) (sl' := 0) rfl ?_
  refine fx_lal (z := 1) rfl g_213_19 (by decide) (Nat.le_of_ble_eq_true rfl) (by decide) ?_
  refine ik_Wk 0 (pc' := 6) (loc' := [some (.ref 17), some (fI 1)]) (st' := [fJ l1_213]) (h' := h_213) (cl' := 0) (sl' := 0) rfl ?_
  refine fw_l2 1000 rfl rfl (by decide) ?_
  refine fx_ldiv rfl (by omega) (by omega) (by omega) (by omega) ?_
  refine fx_l2i rfl ?_
  refine ik_Wret rfl rfl ⟨_, _, rfl, rfl, ?_⟩
  refine ik_Wk 0 (pc' := 11) (loc' := [some (.ref 17), some (fI 1), none, none, none]) (st' := [fI (l1_213 / 1000)]) (h' := h_213) (cl' := 0) (sl' := 0) rfl ?_
  refine ik_Wk 6 (pc' := 17) (loc' := [some (.ref 17), some (fI 1), some (fI (l1_213 / 1000)), none, none]) (st' := [fI (-1), fI (-1), fI 0, fI (-1), .ref 17]) (h' := h_213) (cl' := 0) (sl' := 0) rfl ?_
  refine ik_Wc 88 5 0 [.ref 17, fI (-1), fI 0, fI (-1), fI (-1)] [] rfl rfl rfl (by decide) rfl rfl (fw_rec k_213 rfl g_213_17 rfl (by decide)) ?_
  refine ik_Wk 0 (pc' := 0) (loc' := [some (.ref 17), some (fI (-1)), some (fI 0), some (fI (-1)), some (fI (-1))]) (st' := []) (h' := h_213) (cl' := 0) (sl' := 0) rfl ?_
  refine ik_Wk 1 (pc' := 1) (loc' := [some (.ref 17), some (fI (-1)), some (fI 0), some (fI (-1)), some (fI (-1))]) (st' := [.ref 17]) (h' := h_213) (cl' := 0) (sl' := 0) rfl ?_
  refine fw_gf rfl rfl g_213_17 rfl ?_
  refine ik_Wk 2 (pc' := 6) (loc' := [some (.ref 17), some (fI (-1)), some (fI 0), some (fI (-1)), some (fI (-1))]) (st' := [fI (-1), fI 0, .ref 20]) (h' := h_213) (cl' := 0) (sl' := 0) rfl ?_
  refine fx_ias (z := 0) rfl g_213_20 (by decide) (Nat.le_of_ble_eq_true rfl) (by decide) ?_
  intro h_214 e_214 f_214 l_214
  have k_214 := l_214.trans k_213
  have fr_214 := hfr_w fr_213 f_214 l_214 (by decide)
  have g_214_7 := (f_214 7 (by decide)).trans g_213_7
  have g_214_8 := (f_214 8 (by decide)).trans g_213_8
  have g_214_9 := (f_214 9 (by decide)).trans g_213_9
  have g_214_10 := (f_214 10 (by decide)).trans g_213_10
  have g_214_11 := (f_214 11 (by decide)).trans g_213_11
  have g_214_12 := (f_214 12 (by decide)).trans g_213_12
  have g_214_13 := (f_214 13 (by decide)).trans g_213_13
  have g_214_15 := (f_214 15 (by decide)).trans g_213_15
  have g_214_17 := (f_214 17 (by decide)).trans g_213_17
  have g_214_18 := (f_214 18 (by decide)).trans g_213_18
  have g_214_19 := (f_214 19 (by decide)).trans g_213_19
  have g_214_21 := mf_cr_f g_213_21 (f_214 21 (by decide)) (f_214 22 (by decide)) (f_214 23 (by decide)) (f_214 24 (by decide))
  have g_214_33 := mf_cr_f g_213_33 (f_214 33 (by decide)) (f_214 34 (by decide)) (f_214 35 (by decide)) (f_214 36 (by decide))
  have g_214_20 : cE h_214 20 (.inl (.int, fA [-1, t1, t2, t3])) := e_214
  refine ik_Wk 1 (pc' := 8) (loc' := [some (.ref 17), some (fI (-1)), some (fI 0), some (fI (-1)), some (fI (-1))]) (st' := [.ref 17]) (h' := h_214) (cl' := 0) (sl' := 0) rfl ?_
  refine fw_gf rfl rfl g_214_17 rfl ?_
  refine ik_Wk 2 (pc' := 13) (loc' := [some (.ref 17), some (fI (-1)), some (fI 0), some (fI (-1)), some (fI (-1))]) (st' := [fI 0, fI 1, .ref 20]) (h' := h_214) (cl' := 0) (sl' := 0) rfl ?_
  refine fx_ias (z := 1) rfl g_214_20 (by decide) (Nat.le_of_ble_eq_true rfl) (by decide) ?_
  intro h_215 e_215 f_215 l_215
  have k_215 := l_215.trans k_214
  have fr_215 := hfr_w fr_214 f_215 l_215 (by decide)
  have g_215_7 := (f_215 7 (by decide)).trans g_214_7
  have g_215_8 := (f_215 8 (by decide)).trans g_214_8
  have g_215_9 := (f_215 9 (by decide)).trans g_214_9
  have g_215_10 := (f_215 10 (by decide)).trans g_214_10
  have g_215_11 := (f_215 11 (by decide)).trans g_214_11
  have g_215_12 := (f_215 12 (by decide)).trans g_214_12
  have g_215_13 := (f_215 13 (by decide)).trans g_214_13
  have g_215_15 := (f_215 15 (by decide)).trans g_214_15
  have g_215_17 := (f_215 17 (by decide)).trans g_214_17
  have g_215_18 := (f_215 18 (by decide)).trans g_214_18
  have g_215_19 := (f_215 19 (by decide)).trans g_214_19
  have g_215_21 := mf_cr_f g_214_21 (f_215 21 (by decide)) (f_215 22 (by decide)) (f_215 23 (by decide)) (f_215 24 (by decide))
  have g_215_33 := mf_cr_f g_214_33 (f_215 33 (by decide)) (f_215 34 (by decide)) (f_215 35 (by decide)) (f_215 36 (by decide))
  have g_215_20 : cE h_215 20 (.inl (.int, fA [-1, 0, t2, t3])) := e_215
  refine ik_Wk 1 (pc' := 15) (loc' := [some (.ref 17), some (fI (-1)), some (fI 0), some (fI (-1)), some (fI (-1))]) (st' := [.ref 17]) (h' := h_215) (cl' := 0) (sl' := 0) rfl ?_
  refine fw_gf rfl rfl g_215_17 rfl ?_
  refine ik_Wk 2 (pc' := 20) (loc' := [some (.ref 17), some (fI (-1)), some (fI 0), some (fI (-1)), some (fI (-1))]) (st' := [fI (-1), fI 2, .ref 20]) (h' := h_215) (cl' := 0) (sl' := 0) rfl ?_
  refine fx_ias (z := 2) rfl g_215_20 (by decide) (Nat.le_of_ble_eq_true rfl) (by decide) ?_
  intro h_216 e_216 f_216 l_216
  have k_216 := l_216.trans k_215
  have fr_216 := hfr_w fr_215 f_216 l_216 (by decide)
  have g_216_7 := (f_216 7 (by decide)).trans g_215_7
  have g_216_8 := (f_216 8 (by decide)).trans g_215_8
  have g_216_9 := (f_216 9 (by decide)).trans g_215_9
  have g_216_10 := (f_216 10 (by decide)).trans g_215_10
  have g_216_11 := (f_216 11 (by decide)).trans g_215_11
  have g_216_12 := (f_216 12 (by decide)).trans g_215_12
  have g_216_13 := (f_216 13 (by decide)).trans g_215_13
  have g_216_15 := (f_216 15 (by decide)).trans g_215_15
  have g_216_17 := (f_216 17 (by decide)).trans g_215_17
  have g_216_18 := (f_216 18 (by decide)).trans g_215_18
  have g_216_19 := (f_216 19 (by decide)).trans g_215_19
  have g_216_21 := mf_cr_f g_215_21 (f_216 21 (by decide)) (f_216 22 (by decide)) (f_216 23 (by decide)) (f_216 24 (by decide))
  have g_216_33 := mf_cr_f g_215_33 (f_216 33 (by decide)) (f_216 34 (by decide)) (f_216 35 (by decide)) (f_216 36 (by decide))
  have g_216_20 : cE h_216 20 (.inl (.int, fA [-1, 0, -1, t3])) := e_216
  refine ik_Wk 1 (pc' := 22) (loc' := [some (.ref 17), some (fI (-1)), some (fI 0), some (fI (-1)), some (fI (-1))]) (st' := [.ref 17]) (h' := h_216) (cl' := 0) (sl' := 0) rfl ?_
  refine fw_gf rfl rfl g_216_17 rfl ?_
  refine ik_Wk 2 (pc' := 28) (loc' := [some (.ref 17), some (fI (-1)), some (fI 0), some (fI (-1)), some (fI (-1))]) (st' := [fI (-1), fI 3, .ref 20]) (h' := h_216) (cl' := 0) (sl' := 0) rfl ?_
  refine fx_ias (z := 3) rfl g_216_20 (by decide) (Nat.le_of_ble_eq_true rfl) (by decide) ?_
  intro h_217 e_217 f_217 l_217
  have k_217 := l_217.trans k_216
  have fr_217 := hfr_w fr_216 f_217 l_217 (by decide)
  have g_217_7 := (f_217 7 (by decide)).trans g_216_7
  have g_217_8 := (f_217 8 (by decide)).trans g_216_8
  have g_217_9 := (f_217 9 (by decide)).trans g_216_9
  have g_217_10 := (f_217 10 (by decide)).trans g_216_10
  have g_217_11 := (f_217 11 (by decide)).trans g_216_11
  have g_217_12 := (f_217 12 (by decide)).trans g_216_12
  have g_217_13 := (f_217 13 (by decide)).trans g_216_13
  have g_217_15 := (f_217 15 (by decide)).trans g_216_15
  have g_217_17 := (f_217 17 (by decide)).trans g_216_17
  have g_217_18 := (f_217 18 (by decide)).trans g_216_18
  have g_217_19 := (f_217 19 (by decide)).trans g_216_19
  have g_217_21 := mf_cr_f g_216_21 (f_217 21 (by decide)) (f_217 22 (by decide)) (f_217 23 (by decide)) (f_217 24 (by decide))
  have g_217_33 := mf_cr_f g_216_33 (f_217 33 (by decide)) (f_217 34 (by decide)) (f_217 35 (by decide)) (f_217 36 (by decide))
  have g_217_20 : cE h_217 20 (.inl (.int, fA [-1, 0, -1, -1])) := e_217
  refine ik_Wret rfl rfl ⟨_, _, rfl, rfl, ?_⟩
  refine ik_Wk 0 (pc' := 20) (loc' := [some (.ref 17), some (fI 1), some (fI (l1_213 / 1000)), none, none]) (st' := []) (h' := h_217) (cl' := 0) (sl' := 0) rfl ?_
  refine ik_Wk 2 (pc' := 22) (loc' := [some (.ref 17), some (fI 1), some (fI (l1_213 / 1000)), some (fI 0), none]) (st' := []) (h' := h_217) (cl' := 0) (sl' := 0) rfl ?_
  exact cs_most1L (pl := pl) (lo := lo) (s := s) (ka := ka) (pa := pa) (fa := fa) (kb := kb) (pb := pb) (fb := fb) (bo := bo) (la := la) (lb := lb) (t0 := t0) (t1 := t1) (t2 := t2) (t3 := t3) (wg := wg) (wc := wc) (we := we) (cn := cn) (go := go) (ch := ch) q0 q1 q2 q3 q4 q5 q6 q7 q8 (nw := l1_213 / 1000) ew_213 (by omega) (pl.toNat + 1) 0 (-1) 0 l0_213 l1_213 l2_213 wg wc we none h_217 g_217_7 g_217_8 n8 g_217_9 n9 g_217_10 n10 g_217_11 n11 g_217_12 n12 g_217_13 n13 g_217_15 g_217_17 g_217_18 g_217_19 g_217_20 g_217_21 g_217_33 k_217 fr_217 (by omega) (by omega) q5 (by rw [Int.sub_zero]) rfl (by omega)

end