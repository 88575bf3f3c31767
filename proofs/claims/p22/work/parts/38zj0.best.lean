/-! 38zj0.best -/
noncomputable section
theorem cs_best0I {h : List ik_E} {pl : Int} {lo : Int} {s : Nat} {m : Int} {ka : Int} {pa : Int} {fa : Int} {kb : Int} {pb : Int} {fb : Int} {bo : Int} {la : Int} {lb : Int} {t0 : Int} {t1 : Int} {t2 : Int} {t3 : Int} {wg : List Int} {wc : List Int} {we : List Int} {W : Int → List (Int × Int)} (q0 : 2 ≤ pl ∧ pl ≤ 12) (q1 : 0 ≤ ka ∧ ka ≤ 2 ∧ 0 ≤ kb ∧ kb ≤ 2) (q2 : 0 ≤ pa ∧ pa < pl - 1) (q3 : 0 ≤ pb ∧ pb < pl - 1) (q4 : 0 ≤ fa ∧ fa ≤ 30 ∧ 0 ≤ fb ∧ fb ≤ 30) (q5 : ∀ x : Int, (0 : Int) ≤ x → x < pl - 1 → mx_wy wg wc we x (W x)) (q6 : ∀ x : Int, (0 : Int) ≤ x → x < pl - 1 → mx_ok pl (W x)) (q7 : (0 : Int) ≤ m ∧ m ≤ (10 : Int)) (p : Int) (hp : (0 : Int) ≤ p ∧ p < pl - 1) (X : Int × Int × Int) {R : List Value → List ik_E → Prop} (K : ∀ (w : List ik_E) (x : Int) (y : Int) (l : Int) (z0 : Int) (z1 : Int) (z2 : Int) (z3 : Int) (l0 : Int) (l1 : Int) (l2 : Int) (uo : Int) (i2 : Int) (uw : Int) (x6 : Option Value) (x7 : Option Value) (w7 : cE w 7 (.inr (0, [fI pl, fI ((s : Nat) : Int), fI lo, .ref 8, .ref 9, .ref 10, .ref 11, .ref 12, .ref 13]))) (w11 : cE w 11 (.inl (.int, fA wg))) (nw_11 : wg.length = (60 : Nat)) (w12 : cE w 12 (.inl (.int, fA wc))) (nw_12 : wc.length = (60 : Nat)) (w13 : cE w 13 (.inl (.int, fA we))) (nw_13 : we.length = (12 : Nat)) (w15 : cE w 15 (.inl (.int, fA [ka, pa, fa, kb, pb, fb]))) (w17 : cE w 17 (.inr (8, [.ref 7, .ref 15, .ref 18, .ref 19, fJ l2, .ref 20]))) (w18 : cE w 18 (.inl (.object "SlowerCork$Course", [.ref 21, .ref 25, .ref 29, .ref 33, .ref 37, .ref 41]))) (w19 : cE w 19 (.inl (.long, fL [l0, l1]))) (w20 : cE w 20 (.inl (.int, fA [z0, z1, z2, z3]))) (w21 : mf_cv w 21 W pl ka p uw) (w33 : mf_cv w 33 W pl kb pb uo) (wl : w.length = (94 : Nat)) (F : hfr [17, 19, 20, 21, 22, 23, 24, 33, 34, 35, 36] h w) (hl : (0 : Int) ≤ l ∧ l ≤ (1000001 : Int)) (hz : z0 = x ∧ z1 = y ∧ z2 = l) (hX : X = (x, y, l)) (w6 : ik_wl 94 x6 = true) (w7 : ik_wl 94 x7 = true), ik_G 83 141 [some (.ref 17), some (fI 0), some (fI m), some (fI l), some (fI p), some (fI i2), x6, x7] [] w R) : ∀ (k : Nat) (i : Int) (x : Int) (y : Int) (l : Int) (z0 : Int) (z1 : Int) (z2 : Int) (z3 : Int) (l0 : Int) (l1 : Int) (l2 : Int) (uo : Int) (uw : Int) (x6 : Option Value) (x7 : Option Value) (u : List ik_E) (u7 : cE u 7 (.inr (0, [fI pl, fI ((s : Nat) : Int), fI lo, .ref 8, .ref 9, .ref 10, .ref 11, .ref 12, .ref 13]))) (u11 : cE u 11 (.inl (.int, fA wg))) (n11 : wg.length = (60 : Nat)) (u12 : cE u 12 (.inl (.int, fA wc))) (n12 : wc.length = (60 : Nat)) (u13 : cE u 13 (.inl (.int, fA we))) (n13 : we.length = (12 : Nat)) (u15 : cE u 15 (.inl (.int, fA [ka, pa, fa, kb, pb, fb]))) (u17 : cE u 17 (.inr (8, [.ref 7, .ref 15, .ref 18, .ref 19, fJ l2, .ref 20]))) (u18 : cE u 18 (.inl (.object "SlowerCork$Course", [.ref 21, .ref 25, .ref 29, .ref 33, .ref 37, .ref 41]))) (u19 : cE u 19 (.inl (.long, fL [l0, l1]))) (u20 : cE u 20 (.inl (.int, fA [z0, z1, z2, z3]))) (u21 : mf_cv u 21 W pl ka p uw) (u33 : mf_cv u 33 W pl kb pb uo) (ul : u.length = (94 : Nat)) (F : hfr [17, 19, 20, 21, 22, 23, 24, 33, 34, 35, 36] h u) (hi : (0 : Int) ≤ i ∧ i ≤ m + 1) (hl : (0 : Int) ≤ l ∧ l ≤ (1000001 : Int)) (hz : mk_fs (p = 0 ∧ i = 0) x y l z0 z1 z2) (he : X = (mk_bk (mk_vb W pl ka pa fa kb pb fb 0) p (m + 1 - i).toNat i x y l)) (w6 : ik_wl 94 x6 = true) (w7 : ik_wl 94 x7 = true) (hk : m + 1 - i < (k : Int)), ik_G 83 49 [some (.ref 17), some (fI 0), some (fI m), some (fI l), some (fI p), some (fI i), x6, x7] [] u R := by
  intro k
  induction k with
  | zero => intro i x y l z0 z1 z2 z3 l0 l1 l2 uo uw x6 x7 u u7 u11 n11 u12 n12 u13 n13 u15 u17 u18 u19 u20 u21 u33 ul F hi hl hz he w6 w7 hk; omega
  | succ k ih =>
    intro i x y l z0 z1 z2 z3 l0 l1 l2 uo uw x6 x7 u u7 u11 n11 u12 n12 u13 n13 u15 u17 u18 u19 u20 u21 u33 ul F hi hl hz he w6 w7 hk
    refine ik_Wk 2 (pc_q := 52) (loc_q := [some (.ref 17), some (fI 0), some (fI m), some (fI l), some (fI p), some (fI i), x6, x7]) (st_q := [fI m, fI i]) (h_q := u) (cl_q := 0) (sl_q := 0) rfl ?_
    refine fw_ic_gt rfl rfl (by omega) (by omega) (by omega) (by omega) (fun hc1 => ?_) (fun hc1 => ?_)
    · have e0 : (m + 1 - i).toNat = 0 := by omega
      rw [e0] at he
      exact K u x y l z0 z1 z2 z3 l0 l1 l2 uo i uw x6 x7 u7 u11 n11 u12 n12 u13 n13 u15 u17 u18 u19 u20 u21 u33 ul F hl (hz.elim (fun w => absurd w (by omega)) id) he w6 w7
    · refine ik_Wk 1 (pc_q := 56) (loc_q := [some (.ref 17), some (fI 0), some (fI m), some (fI l), some (fI p), some (fI i), x6, x7]) (st_q := [fI 0]) (h_q := u) (cl_q := 0) (sl_q := 0) rfl ?_
      refine fw_if_ne rfl rfl (by decide +kernel) (by decide +kernel) (fun hc2 => ?_) (fun hc2 => absurd hc2 (by decide +kernel))
      refine ik_Wk 5 (pc_q := 74) (loc_q := [some (.ref 17), some (fI 0), some (fI m), some (fI l), some (fI p), some (fI i), some (fI i), x7]) (st_q := [fI 1, fI 0]) (h_q := u) (cl_q := 0) (sl_q := 0) rfl ?_
      refine fw_ic_ne rfl rfl (by decide +kernel) (by decide +kernel) (by decide +kernel) (by decide +kernel) (fun hc3 => absurd hc3 (by decide +kernel)) (fun hc3 => ?_)
      refine ik_Wk 1 (pc_q := 83) (loc_q := [some (.ref 17), some (fI 0), some (fI m), some (fI l), some (fI p), some (fI i), some (fI i), x7]) (st_q := [.ref 17]) (h_q := u) (cl_q := 0) (sl_q := 0) rfl ?_
      refine fw_gf rfl rfl u17 rfl ?_
      refine ik_Wk 1 (pc_q := 87) (loc_q := [some (.ref 17), some (fI 0), some (fI m), some (fI l), some (fI p), some (fI i), some (fI i), x7]) (st_q := [fI 5, .ref 15]) (h_q := u) (cl_q := 0) (sl_q := 0) rfl ?_
      refine fw_ial (z := 5) rfl u15 (by decide +kernel) (Nat.le_of_ble_eq_true rfl) (by decide +kernel) ?_
      refine ik_Wk 0 (pc_q := 88) (loc_q := [some (.ref 17), some (fI 0), some (fI m), some (fI l), some (fI p), some (fI i), some (fI i), x7]) (st_q := [fI fb]) (h_q := u) (cl_q := 0) (sl_q := 0) rfl ?_
      refine ik_Wk 4 (pc_q := 93) (loc_q := [some (.ref 17), some (fI 0), some (fI m), some (fI l), some (fI p), some (fI i), some (fI i), some (fI fb)]) (st_q := [fI 0, .ref 17, .ref 17]) (h_q := u) (cl_q := 0) (sl_q := 0) rfl ?_
      refine ik_Wc 77 2 0 [.ref 17, fI 0] [.ref 17] rfl rfl rfl (by decide +kernel) rfl rfl (fw_rec ul rfl u17 rfl (Nat.le_of_ble_eq_true rfl)) ?_
      refine ik_Wk 0 (pc_q := 0) (loc_q := [some (.ref 17), some (fI 0)]) (st_q := []) (h_q := u) (cl_q := 0) (sl_q := 0) rfl ?_
      refine ik_Wk 1 (pc_q := 1) (loc_q := [some (.ref 17), some (fI 0)]) (st_q := [.ref 17]) (h_q := u) (cl_q := 0) (sl_q := 0) rfl ?_
      refine fw_gf rfl rfl u17 rfl ?_
      refine ik_Wk 2 (pc_q := 6) (loc_q := [some (.ref 17), some (fI 0)]) (st_q := [fI 3, fI 0, .ref 18]) (h_q := u) (cl_q := 0) (sl_q := 0) rfl ?_
      refine fw_mul rfl ?_
      refine fx_aal (z := 0) rfl u18 (by decide +kernel) (by decide +kernel) rfl ?_
      refine ik_Wret rfl rfl ⟨_, _, rfl, rfl, ?_⟩
      refine ik_Wk 0 (pc_q := 96) (loc_q := [some (.ref 17), some (fI 0), some (fI m), some (fI l), some (fI p), some (fI i), some (fI i), some (fI fb)]) (st_q := [.ref 21, .ref 17]) (h_q := u) (cl_q := 0) (sl_q := 0) rfl ?_
      refine ik_Wk 3 (pc_q := 100) (loc_q := [some (.ref 17), some (fI 0), some (fI m), some (fI l), some (fI p), some (fI i), some (fI i), some (fI fb)]) (st_q := [fI 1, .ref 17, fI i, .ref 21, .ref 17]) (h_q := u) (cl_q := 0) (sl_q := 0) rfl ?_
      refine ik_Wc 77 2 0 [.ref 17, fI 1] [fI i, .ref 21, .ref 17] rfl rfl rfl (by decide +kernel) rfl rfl (fw_rec ul rfl u17 rfl (Nat.le_of_ble_eq_true rfl)) ?_
      refine ik_Wk 0 (pc_q := 0) (loc_q := [some (.ref 17), some (fI 1)]) (st_q := []) (h_q := u) (cl_q := 0) (sl_q := 0) rfl ?_
      refine ik_Wk 1 (pc_q := 1) (loc_q := [some (.ref 17), some (fI 1)]) (st_q := [.ref 17]) (h_q := u) (cl_q := 0) (sl_q := 0) rfl ?_
      refine fw_gf rfl rfl u17 rfl ?_
      refine ik_Wk 2 (pc_q := 6) (loc_q := [some (.ref 17), some (fI 1)]) (st_q := [fI 3, fI 1, .ref 18]) (h_q := u) (cl_q := 0) (sl_q := 0) rfl ?_
      refine fw_mul rfl ?_
      refine fx_aal (z := 3) rfl u18 (by decide +kernel) (by decide +kernel) rfl ?_
      refine ik_Wret rfl rfl ⟨_, _, rfl, rfl, ?_⟩
      refine ik_Wk 0 (pc_q := 103) (loc_q := [some (.ref 17), some (fI 0), some (fI m), some (fI l), some (fI p), some (fI i), some (fI i), some (fI fb)]) (st_q := [.ref 33, fI i, .ref 21, .ref 17]) (h_q := u) (cl_q := 0) (sl_q := 0) rfl ?_
      refine ik_Wk 1 (pc_q := 105) (loc_q := [some (.ref 17), some (fI 0), some (fI m), some (fI l), some (fI p), some (fI i), some (fI i), some (fI fb)]) (st_q := [fI fb, .ref 33, fI i, .ref 21, .ref 17]) (h_q := u) (cl_q := 0) (sl_q := 0) rfl ?_
      refine fw_ld 1000000 rfl rfl (by decide +kernel) ?_
      refine fw_call 80 6 0 [.ref 17, .ref 21, fI i, .ref 33, fI fb, fI 1000000] [] rfl rfl rfl (Nat.le_of_ble_eq_true rfl) rfl rfl (fw_rec ul rfl u17 rfl (Nat.le_of_ble_eq_true rfl)) (cs_race (C := 21) (E := 33) (pl := pl) (lo := lo) (s := s) (ka := ka) (pa := p) (ma := i) (kb := kb) (pb := pb) (mb := fb) (ua := uw) (ub := uo) (lim := 1000000) (bo := l2) (la := l0) (lb := l1) (wg := wg) (wc := wc) (we := we) (W := W) (by omega) (by omega) (by omega) (by omega) (by omega) (by omega) (by omega) q5 q6 u7 u11 n11 u12 n12 u13 n13 u17 u19 u21 u33 ul) ?_
      rintro _ h_218 ⟨l0_218, l1_218, l2_218, ua'_218, ub'_218, rfl, e_218_17, e_218_19, e_218_C, e_218_E, p_218_0, p_218_1, F_218⟩
      have k_218 : cL h_218 := F_218.1.trans ul
      have fr_218 := hfr_cb F F_218 rfl
      have g_218_7 := (hfr_g F_218 7 rfl).trans u7
      have g_218_11 := (hfr_g F_218 11 rfl).trans u11
      have g_218_12 := (hfr_g F_218 12 rfl).trans u12
      have g_218_13 := (hfr_g F_218 13 rfl).trans u13
      have g_218_15 := (hfr_g F_218 15 rfl).trans u15
      have g_218_18 := (hfr_g F_218 18 rfl).trans u18
      have g_218_20 := (hfr_g F_218 20 rfl).trans u20
      have g_218_17 : cE h_218 17 (.inr (8, [.ref 7, .ref 15, .ref 18, .ref 19, fJ l2_218, .ref 20])) := e_218_17
      have g_218_19 : cE h_218 19 (.inl (.long, fL [l0_218, l1_218])) := e_218_19
      have g_218_21 : mf_cv h_218 21 W pl ka p ua'_218 := e_218_C
      have g_218_33 : mf_cv h_218 33 W pl kb pb ub'_218 := e_218_E
      refine ik_Wk 0 (pc_q := 110) (loc_q := [some (.ref 17), some (fI 0), some (fI m), some (fI l), some (fI p), some (fI i), some (fI i), some (fI fb)]) (st_q := []) (h_q := h_218) (cl_q := 0) (sl_q := 0) rfl ?_
      have ka_218 := mr_ok_cm (W := W) (k := ka) q6 hp
      have kb_218 := mr_ok_cm (W := W) (k := kb) q6 q3
      have Fa_218 := mr_F_b ka_218 kb_218 i (show 0 ≤ fb by omega)
      have Fb_218 := mr_F_b kb_218 ka_218 fb (show 0 ≤ i by omega)
      have el_218 : l0_218 = mr_F0 (mf_cm W (pl - 1) ka p) i (mf_cm W (pl - 1) kb pb) fb ∧ l1_218 = mr_F0 (mf_cm W (pl - 1) kb pb) fb (mf_cm W (pl - 1) ka p) i := by
        rcases p_218_1 with e | e
        · exact ⟨e.1, e.2.1⟩
        · omega
      have ew_218 : (l0_218 / 1000 : Int) = (mr_w (mf_cm W (pl - 1) ka p) i (mf_cm W (pl - 1) kb pb) fb 0 : Int) := by rw [mr_w_0, el_218.1]
      have wb_218 := mr_w_b ka_218 kb_218 (show 0 ≤ i by omega) (show 0 ≤ fb by omega) 0
      have ev : (mk_vb W pl ka pa fa kb pb fb 0) p i = (l0_218 / 1000 : Int) := by rw [ew_218]; exact if_pos rfl
      refine ik_Wk 2 (pc_q := 112) (loc_q := [some (.ref 17), some (fI 0), some (fI m), some (fI l), some (fI p), some (fI i), some (fI i), some (fI fb)]) (st_q := [fI 0, .ref 17]) (h_q := h_218) (cl_q := 0) (sl_q := 0) rfl ?_
      refine ik_Wc 74 2 0 [.ref 17, fI 0] [] rfl rfl rfl (by decide +kernel) rfl rfl (fw_rec k_218 rfl g_218_17 rfl (Nat.le_of_ble_eq_true rfl)) ?_
      refine ik_Wk 0 (pc_q := 0) (loc_q := [some (.ref 17), some (fI 0)]) (st_q := []) (h_q := h_218) (cl_q := 0) (sl_q := 0) rfl ?_
      refine ik_Wk 1 (pc_q := 1) (loc_q := [some (.ref 17), some (fI 0)]) (st_q := [.ref 17]) (h_q := h_218) (cl_q := 0) (sl_q := 0) rfl ?_
      refine fw_gf rfl rfl g_218_17 rfl ?_
      refine ik_Wk 1 (pc_q := 5) (loc_q := [some (.ref 17), some (fI 0)]) (st_q := [fI 0, .ref 19]) (h_q := h_218) (cl_q := 0) (sl_q := 0) rfl ?_
      refine fx_lal (z := 0) rfl g_218_19 (by decide +kernel) (Nat.le_of_ble_eq_true rfl) (by decide +kernel) ?_
      refine ik_Wk 0 (pc_q := 6) (loc_q := [some (.ref 17), some (fI 0)]) (st_q := [fJ l0_218]) (h_q := h_218) (cl_q := 0) (sl_q := 0) rfl ?_
      refine fw_l2 1000 rfl rfl (by decide +kernel) ?_
      refine fx_ldiv rfl (by omega) (by omega) (by omega) (by omega) ?_
      refine fx_l2i rfl ?_
      refine ik_Wret rfl rfl ⟨_, _, rfl, rfl, ?_⟩
      refine ik_Wk 0 (pc_q := 115) (loc_q := [some (.ref 17), some (fI 0), some (fI m), some (fI l), some (fI p), some (fI i), some (fI i), some (fI fb)]) (st_q := [fI (l0_218 / 1000)]) (h_q := h_218) (cl_q := 0) (sl_q := 0) rfl ?_
      refine ik_Wk 1 (pc_q := 116) (loc_q := [some (.ref 17), some (fI 0), some (fI m), some (fI l), some (fI p), some (fI i), some (fI i), some (fI fb)]) (st_q := [fI l, fI (l0_218 / 1000)]) (h_q := h_218) (cl_q := 0) (sl_q := 0) rfl ?_
      refine fw_ic_ge rfl rfl (by omega) (by omega) (by omega) (by omega) (fun hc4 => ?_) (fun hc4 => ?_)
      · refine fw_inc (a := i) (loc_q := [some (.ref 17), some (fI 0), some (fI m), some (fI l), some (fI p), some (fI (i + 1)), some (fI i), some (fI fb)]) rfl rfl (Nat.le_of_ble_eq_true rfl) rfl ?_
        refine ik_Wk 1 (pc_q := 49) (loc_q := [some (.ref 17), some (fI 0), some (fI m), some (fI l), some (fI p), some (fI (i + 1)), some (fI i), some (fI fb)]) (st_q := []) (h_q := h_218) (cl_q := 0) (sl_q := 0) rfl ?_
        have e1 : (m + 1 - i).toNat = (m + 1 - (i + 1)).toNat + 1 := by omega
        have he2 : X = (mk_bk (mk_vb W pl ka pa fa kb pb fb 0) p (m + 1 - (i + 1)).toNat (i + 1) x y l) := by
          rw [he, e1]
          show (if (mk_vb W pl ka pa fa kb pb fb 0) p i < l then _ else _) = _
          rw [if_neg (by omega)]
        exact ih (i + 1) x y l z0 z1 z2 z3 l0_218 l1_218 l2_218 ub'_218 ua'_218 (some (fI i)) (some (fI fb)) h_218 g_218_7 g_218_11 n11 g_218_12 n12 g_218_13 n13 g_218_15 g_218_17 g_218_18 g_218_19 g_218_20 g_218_21 g_218_33 k_218 fr_218 (by omega) (by omega) (hz.elim (fun w => absurd w (by omega)) Or.inr) he2 rfl rfl (by omega)
      · refine ik_Wk 2 (pc_q := 121) (loc_q := [some (.ref 17), some (fI 0), some (fI m), some (fI l), some (fI p), some (fI i), some (fI i), some (fI fb)]) (st_q := [fI 0, .ref 17]) (h_q := h_218) (cl_q := 0) (sl_q := 0) rfl ?_
        refine ik_Wc 74 2 0 [.ref 17, fI 0] [] rfl rfl rfl (by decide +kernel) rfl rfl (fw_rec k_218 rfl g_218_17 rfl (Nat.le_of_ble_eq_true rfl)) ?_
        refine ik_Wk 0 (pc_q := 0) (loc_q := [some (.ref 17), some (fI 0)]) (st_q := []) (h_q := h_218) (cl_q := 0) (sl_q := 0) rfl ?_
        refine ik_Wk 1 (pc_q := 1) (loc_q := [some (.ref 17), some (fI 0)]) (st_q := [.ref 17]) (h_q := h_218) (cl_q := 0) (sl_q := 0) rfl ?_
        refine fw_gf rfl rfl g_218_17 rfl ?_
        refine ik_Wk 1 (pc_q := 5) (loc_q := [some (.ref 17), some (fI 0)]) (st_q := [fI 0, .ref 19]) (h_q := h_218) (cl_q := 0) (sl_q := 0) rfl ?_
        refine fx_lal (z := 0) rfl g_218_19 (by decide +kernel) (Nat.le_of_ble_eq_true rfl) (by decide +kernel) ?_
        refine ik_Wk 0 (pc_q := 6) (loc_q := [some (.ref 17), some (fI 0)]) (st_q := [fJ l0_218]) (h_q := h_218) (cl_q := 0) (sl_q := 0) rfl ?_
        refine fw_l2 1000 rfl rfl (by decide +kernel) ?_
        refine fx_ldiv rfl (by omega) (by omega) (by omega) (by omega) ?_
        refine fx_l2i rfl ?_
        refine ik_Wret rfl rfl ⟨_, _, rfl, rfl, ?_⟩
        refine ik_Wk 0 (pc_q := 124) (loc_q := [some (.ref 17), some (fI 0), some (fI m), some (fI l), some (fI p), some (fI i), some (fI i), some (fI fb)]) (st_q := [fI (l0_218 / 1000)]) (h_q := h_218) (cl_q := 0) (sl_q := 0) rfl ?_
        refine ik_Wk 6 (pc_q := 132) (loc_q := [some (.ref 17), some (fI 0), some (fI m), some (fI (l0_218 / 1000)), some (fI p), some (fI i), some (fI i), some (fI fb)]) (st_q := [fI (-1), fI (l0_218 / 1000), fI i, fI p, .ref 17]) (h_q := h_218) (cl_q := 0) (sl_q := 0) rfl ?_
        refine ik_Wc 88 5 0 [.ref 17, fI p, fI i, fI (l0_218 / 1000), fI (-1)] [] rfl rfl rfl (by decide +kernel) rfl rfl (fw_rec k_218 rfl g_218_17 rfl (Nat.le_of_ble_eq_true rfl)) ?_
        refine ik_Wk 0 (pc_q := 0) (loc_q := [some (.ref 17), some (fI p), some (fI i), some (fI (l0_218 / 1000)), some (fI (-1))]) (st_q := []) (h_q := h_218) (cl_q := 0) (sl_q := 0) rfl ?_
        refine ik_Wk 1 (pc_q := 1) (loc_q := [some (.ref 17), some (fI p), some (fI i), some (fI (l0_218 / 1000)), some (fI (-1))]) (st_q := [.ref 17]) (h_q := h_218) (cl_q := 0) (sl_q := 0) rfl ?_
        refine fw_gf rfl rfl g_218_17 rfl ?_
        refine ik_Wk 2 (pc_q := 6) (loc_q := [some (.ref 17), some (fI p), some (fI i), some (fI (l0_218 / 1000)), some (fI (-1))]) (st_q := [fI p, fI 0, .ref 20]) (h_q := h_218) (cl_q := 0) (sl_q := 0) rfl ?_
        refine fx_ias (z := 0) rfl g_218_20 (by decide +kernel) (Nat.le_of_ble_eq_true rfl) (by decide +kernel) ?_
        intro h_219 e_219 f_219 l_219
        have k_219 : cL h_219 := l_219.trans k_218
        have fr_219 := hfr_wb fr_218 f_219 l_219 rfl
        clear l_219
        have g_219_7 := (f_219 7 (Nat.ne_of_beq_eq_false rfl)).trans g_218_7
        have g_219_11 := (f_219 11 (Nat.ne_of_beq_eq_false rfl)).trans g_218_11
        have g_219_12 := (f_219 12 (Nat.ne_of_beq_eq_false rfl)).trans g_218_12
        have g_219_13 := (f_219 13 (Nat.ne_of_beq_eq_false rfl)).trans g_218_13
        have g_219_15 := (f_219 15 (Nat.ne_of_beq_eq_false rfl)).trans g_218_15
        have g_219_17 := (f_219 17 (Nat.ne_of_beq_eq_false rfl)).trans g_218_17
        have g_219_18 := (f_219 18 (Nat.ne_of_beq_eq_false rfl)).trans g_218_18
        have g_219_19 := (f_219 19 (Nat.ne_of_beq_eq_false rfl)).trans g_218_19
        have g_219_21 := mf_cv_f g_218_21 (f_219 21 (Nat.ne_of_beq_eq_false rfl)) (f_219 22 (Nat.ne_of_beq_eq_false rfl)) (f_219 23 (Nat.ne_of_beq_eq_false rfl)) (f_219 24 (Nat.ne_of_beq_eq_false rfl))
        have g_219_33 := mf_cv_f g_218_33 (f_219 33 (Nat.ne_of_beq_eq_false rfl)) (f_219 34 (Nat.ne_of_beq_eq_false rfl)) (f_219 35 (Nat.ne_of_beq_eq_false rfl)) (f_219 36 (Nat.ne_of_beq_eq_false rfl))
        have g_219_20 : cE h_219 20 (.inl (.int, fA [p, z1, z2, z3])) := e_219
        refine ik_Wk 1 (pc_q := 8) (loc_q := [some (.ref 17), some (fI p), some (fI i), some (fI (l0_218 / 1000)), some (fI (-1))]) (st_q := [.ref 17]) (h_q := h_219) (cl_q := 0) (sl_q := 0) rfl ?_
        refine fw_gf rfl rfl g_219_17 rfl ?_
        refine ik_Wk 2 (pc_q := 13) (loc_q := [some (.ref 17), some (fI p), some (fI i), some (fI (l0_218 / 1000)), some (fI (-1))]) (st_q := [fI i, fI 1, .ref 20]) (h_q := h_219) (cl_q := 0) (sl_q := 0) rfl ?_
        refine fx_ias (z := 1) rfl g_219_20 (by decide +kernel) (Nat.le_of_ble_eq_true rfl) (by decide +kernel) ?_
        intro h_220 e_220 f_220 l_220
        have k_220 : cL h_220 := l_220.trans k_219
        have fr_220 := hfr_wb fr_219 f_220 l_220 rfl
        clear l_220
        have g_220_7 := (f_220 7 (Nat.ne_of_beq_eq_false rfl)).trans g_219_7
        have g_220_11 := (f_220 11 (Nat.ne_of_beq_eq_false rfl)).trans g_219_11
        have g_220_12 := (f_220 12 (Nat.ne_of_beq_eq_false rfl)).trans g_219_12
        have g_220_13 := (f_220 13 (Nat.ne_of_beq_eq_false rfl)).trans g_219_13
        have g_220_15 := (f_220 15 (Nat.ne_of_beq_eq_false rfl)).trans g_219_15
        have g_220_17 := (f_220 17 (Nat.ne_of_beq_eq_false rfl)).trans g_219_17
        have g_220_18 := (f_220 18 (Nat.ne_of_beq_eq_false rfl)).trans g_219_18
        have g_220_19 := (f_220 19 (Nat.ne_of_beq_eq_false rfl)).trans g_219_19
        have g_220_21 := mf_cv_f g_219_21 (f_220 21 (Nat.ne_of_beq_eq_false rfl)) (f_220 22 (Nat.ne_of_beq_eq_false rfl)) (f_220 23 (Nat.ne_of_beq_eq_false rfl)) (f_220 24 (Nat.ne_of_beq_eq_false rfl))
        have g_220_33 := mf_cv_f g_219_33 (f_220 33 (Nat.ne_of_beq_eq_false rfl)) (f_220 34 (Nat.ne_of_beq_eq_false rfl)) (f_220 35 (Nat.ne_of_beq_eq_false rfl)) (f_220 36 (Nat.ne_of_beq_eq_false rfl))
        have g_220_20 : cE h_220 20 (.inl (.int, fA [p, i, z2, z3])) := e_220
        refine ik_Wk 1 (pc_q := 15) (loc_q := [some (.ref 17), some (fI p), some (fI i), some (fI (l0_218 / 1000)), some (fI (-1))]) (st_q := [.ref 17]) (h_q := h_220) (cl_q := 0) (sl_q := 0) rfl ?_
        refine fw_gf rfl rfl g_220_17 rfl ?_
        refine ik_Wk 2 (pc_q := 20) (loc_q := [some (.ref 17), some (fI p), some (fI i), some (fI (l0_218 / 1000)), some (fI (-1))]) (st_q := [fI (l0_218 / 1000), fI 2, .ref 20]) (h_q := h_220) (cl_q := 0) (sl_q := 0) rfl ?_
        refine fx_ias (z := 2) rfl g_220_20 (by decide +kernel) (Nat.le_of_ble_eq_true rfl) (by decide +kernel) ?_
        intro h_221 e_221 f_221 l_221
        have k_221 : cL h_221 := l_221.trans k_220
        have fr_221 := hfr_wb fr_220 f_221 l_221 rfl
        clear l_221
        have g_221_7 := (f_221 7 (Nat.ne_of_beq_eq_false rfl)).trans g_220_7
        have g_221_11 := (f_221 11 (Nat.ne_of_beq_eq_false rfl)).trans g_220_11
        have g_221_12 := (f_221 12 (Nat.ne_of_beq_eq_false rfl)).trans g_220_12
        have g_221_13 := (f_221 13 (Nat.ne_of_beq_eq_false rfl)).trans g_220_13
        have g_221_15 := (f_221 15 (Nat.ne_of_beq_eq_false rfl)).trans g_220_15
        have g_221_17 := (f_221 17 (Nat.ne_of_beq_eq_false rfl)).trans g_220_17
        have g_221_18 := (f_221 18 (Nat.ne_of_beq_eq_false rfl)).trans g_220_18
        have g_221_19 := (f_221 19 (Nat.ne_of_beq_eq_false rfl)).trans g_220_19
        have g_221_21 := mf_cv_f g_220_21 (f_221 21 (Nat.ne_of_beq_eq_false rfl)) (f_221 22 (Nat.ne_of_beq_eq_false rfl)) (f_221 23 (Nat.ne_of_beq_eq_false rfl)) (f_221 24 (Nat.ne_of_beq_eq_false rfl))
        have g_221_33 := mf_cv_f g_220_33 (f_221 33 (Nat.ne_of_beq_eq_false rfl)) (f_221 34 (Nat.ne_of_beq_eq_false rfl)) (f_221 35 (Nat.ne_of_beq_eq_false rfl)) (f_221 36 (Nat.ne_of_beq_eq_false rfl))
        have g_221_20 : cE h_221 20 (.inl (.int, fA [p, i, l0_218 / 1000, z3])) := e_221
        refine ik_Wk 1 (pc_q := 22) (loc_q := [some (.ref 17), some (fI p), some (fI i), some (fI (l0_218 / 1000)), some (fI (-1))]) (st_q := [.ref 17]) (h_q := h_221) (cl_q := 0) (sl_q := 0) rfl ?_
        refine fw_gf rfl rfl g_221_17 rfl ?_
        refine ik_Wk 2 (pc_q := 28) (loc_q := [some (.ref 17), some (fI p), some (fI i), some (fI (l0_218 / 1000)), some (fI (-1))]) (st_q := [fI (-1), fI 3, .ref 20]) (h_q := h_221) (cl_q := 0) (sl_q := 0) rfl ?_
        refine fx_ias (z := 3) rfl g_221_20 (by decide +kernel) (Nat.le_of_ble_eq_true rfl) (by decide +kernel) ?_
        intro h_222 e_222 f_222 l_222
        have k_222 : cL h_222 := l_222.trans k_221
        have fr_222 := hfr_wb fr_221 f_222 l_222 rfl
        clear l_222
        have g_222_7 := (f_222 7 (Nat.ne_of_beq_eq_false rfl)).trans g_221_7
        have g_222_11 := (f_222 11 (Nat.ne_of_beq_eq_false rfl)).trans g_221_11
        have g_222_12 := (f_222 12 (Nat.ne_of_beq_eq_false rfl)).trans g_221_12
        have g_222_13 := (f_222 13 (Nat.ne_of_beq_eq_false rfl)).trans g_221_13
        have g_222_15 := (f_222 15 (Nat.ne_of_beq_eq_false rfl)).trans g_221_15
        have g_222_17 := (f_222 17 (Nat.ne_of_beq_eq_false rfl)).trans g_221_17
        have g_222_18 := (f_222 18 (Nat.ne_of_beq_eq_false rfl)).trans g_221_18
        have g_222_19 := (f_222 19 (Nat.ne_of_beq_eq_false rfl)).trans g_221_19
        have g_222_21 := mf_cv_f g_221_21 (f_222 21 (Nat.ne_of_beq_eq_false rfl)) (f_222 22 (Nat.ne_of_beq_eq_false rfl)) (f_222 23 (Nat.ne_of_beq_eq_false rfl)) (f_222 24 (Nat.ne_of_beq_eq_false rfl))
        have g_222_33 := mf_cv_f g_221_33 (f_222 33 (Nat.ne_of_beq_eq_false rfl)) (f_222 34 (Nat.ne_of_beq_eq_false rfl)) (f_222 35 (Nat.ne_of_beq_eq_false rfl)) (f_222 36 (Nat.ne_of_beq_eq_false rfl))
        have g_222_20 : cE h_222 20 (.inl (.int, fA [p, i, l0_218 / 1000, -1])) := e_222
        refine ik_Wret rfl rfl ⟨_, _, rfl, rfl, ?_⟩
        refine ik_Wk 0 (pc_q := 135) (loc_q := [some (.ref 17), some (fI 0), some (fI m), some (fI (l0_218 / 1000)), some (fI p), some (fI i), some (fI i), some (fI fb)]) (st_q := []) (h_q := h_222) (cl_q := 0) (sl_q := 0) rfl ?_
        refine fw_inc (a := i) (loc_q := [some (.ref 17), some (fI 0), some (fI m), some (fI (l0_218 / 1000)), some (fI p), some (fI (i + 1)), some (fI i), some (fI fb)]) rfl rfl (Nat.le_of_ble_eq_true rfl) rfl ?_
        refine ik_Wk 1 (pc_q := 49) (loc_q := [some (.ref 17), some (fI 0), some (fI m), some (fI (l0_218 / 1000)), some (fI p), some (fI (i + 1)), some (fI i), some (fI fb)]) (st_q := []) (h_q := h_222) (cl_q := 0) (sl_q := 0) rfl ?_
        have e1 : (m + 1 - i).toNat = (m + 1 - (i + 1)).toNat + 1 := by omega
        have he2 : X = (mk_bk (mk_vb W pl ka pa fa kb pb fb 0) p (m + 1 - (i + 1)).toNat (i + 1) p i (l0_218 / 1000)) := by
          rw [he, e1]
          show (if (mk_vb W pl ka pa fa kb pb fb 0) p i < l then _ else _) = _
          rw [if_pos (by omega), ev]
        exact ih (i + 1) p i (l0_218 / 1000) p i (l0_218 / 1000) (-1) l0_218 l1_218 l2_218 ub'_218 ua'_218 (some (fI i)) (some (fI fb)) h_222 g_222_7 g_222_11 n11 g_222_12 n12 g_222_13 n13 g_222_15 g_222_17 g_222_18 g_222_19 g_222_20 g_222_21 g_222_33 k_222 fr_222 (by omega) (by omega) (Or.inr ⟨rfl, rfl, rfl⟩) he2 rfl rfl (by omega)

theorem cs_best0L {h : List ik_E} {pl : Int} {lo : Int} {s : Nat} {m : Int} {ka : Int} {pa : Int} {fa : Int} {kb : Int} {pb : Int} {fb : Int} {bo : Int} {la : Int} {lb : Int} {t0 : Int} {t1 : Int} {t2 : Int} {t3 : Int} {wg : List Int} {wc : List Int} {we : List Int} {W : Int → List (Int × Int)} (q0 : 2 ≤ pl ∧ pl ≤ 12) (q1 : 0 ≤ ka ∧ ka ≤ 2 ∧ 0 ≤ kb ∧ kb ≤ 2) (q2 : 0 ≤ pa ∧ pa < pl - 1) (q3 : 0 ≤ pb ∧ pb < pl - 1) (q4 : 0 ≤ fa ∧ fa ≤ 30 ∧ 0 ≤ fb ∧ fb ≤ 30) (q5 : ∀ x : Int, (0 : Int) ≤ x → x < pl - 1 → mx_wy wg wc we x (W x)) (q6 : ∀ x : Int, (0 : Int) ≤ x → x < pl - 1 → mx_ok pl (W x)) (q7 : (0 : Int) ≤ m ∧ m ≤ (10 : Int))  : ∀ (k : Nat) (p : Int) (x : Int) (y : Int) (l : Int) (z0 : Int) (z1 : Int) (z2 : Int) (z3 : Int) (l0 : Int) (l1 : Int) (l2 : Int) (uo : Int) (x5 : Option Value) (x6 : Option Value) (x7 : Option Value) (u : List ik_E) (u7 : cE u 7 (.inr (0, [fI pl, fI ((s : Nat) : Int), fI lo, .ref 8, .ref 9, .ref 10, .ref 11, .ref 12, .ref 13]))) (u11 : cE u 11 (.inl (.int, fA wg))) (n11 : wg.length = (60 : Nat)) (u12 : cE u 12 (.inl (.int, fA wc))) (n12 : wc.length = (60 : Nat)) (u13 : cE u 13 (.inl (.int, fA we))) (n13 : we.length = (12 : Nat)) (u15 : cE u 15 (.inl (.int, fA [ka, pa, fa, kb, pb, fb]))) (u17 : cE u 17 (.inr (8, [.ref 7, .ref 15, .ref 18, .ref 19, fJ l2, .ref 20]))) (u18 : cE u 18 (.inl (.object "SlowerCork$Course", [.ref 21, .ref 25, .ref 29, .ref 33, .ref 37, .ref 41]))) (u19 : cE u 19 (.inl (.long, fL [l0, l1]))) (u20 : cE u 20 (.inl (.int, fA [z0, z1, z2, z3]))) (u21 : mf_cr u 21 ) (u33 : mf_cv u 33 W pl kb pb uo) (ul : u.length = (94 : Nat)) (F : hfr [17, 19, 20, 21, 22, 23, 24, 33, 34, 35, 36] h u) (hp : (0 : Int) ≤ p ∧ p ≤ pl - 1) (hl : (0 : Int) ≤ l ∧ l ≤ (1000001 : Int)) (hz : mk_fs (p = 0) x y l z0 z1 z2) (he : (mk_bp (mk_vb W pl ka pa fa kb pb fb 0) (m.toNat + 1) (pl - 1).toNat 0 0 0 1000001) = mk_bp (mk_vb W pl ka pa fa kb pb fb 0) (m.toNat + 1) (pl - 1 - p).toNat p x y l) (w5 : ik_wl 94 x5 = true) (w6 : ik_wl 94 x6 = true) (w7 : ik_wl 94 x7 = true) (hk : pl - p < (k : Int)), ik_G 83 13 [some (.ref 17), some (fI 0), some (fI m), some (fI l), some (fI p), x5, x6, x7] [] u (fun rv h_q => ∃ (l0 : Int) (l1 : Int) (l2 : Int) (t' : Int), rv = [] ∧ cE h_q 17 (.inr (8, [.ref 7, .ref 15, .ref 18, .ref 19, fJ l2, .ref 20])) ∧ cE h_q 19 (.inl (.long, fL [l0, l1])) ∧ cE h_q 20 (.inl (.int, fA [(mk_bp (mk_vb W pl ka pa fa kb pb fb 0) (m.toNat + 1) (pl - 1).toNat 0 0 0 1000001).1, (mk_bp (mk_vb W pl ka pa fa kb pb fb 0) (m.toNat + 1) (pl - 1).toNat 0 0 0 1000001).2.1, (mk_bp (mk_vb W pl ka pa fa kb pb fb 0) (m.toNat + 1) (pl - 1).toNat 0 0 0 1000001).2.2, t'])) ∧ mf_cr h_q 21  ∧ mf_cr h_q 33  ∧ hfr [17, 19, 20, 21, 22, 23, 24, 33, 34, 35, 36] h h_q) := by
  intro k
  induction k with
  | zero => intro p x y l z0 z1 z2 z3 l0 l1 l2 uo x5 x6 x7 u u7 u11 n11 u12 n12 u13 n13 u15 u17 u18 u19 u20 u21 u33 ul F hp hl hz he w5 w6 w7 hk; omega
  | succ k ih =>
    intro p x y l z0 z1 z2 z3 l0 l1 l2 uo x5 x6 x7 u u7 u11 n11 u12 n12 u13 n13 u15 u17 u18 u19 u20 u21 u33 ul F hp hl hz he w5 w6 w7 hk
    refine ik_Wk 2 (pc_q := 16) (loc_q := [some (.ref 17), some (fI 0), some (fI m), some (fI l), some (fI p), x5, x6, x7]) (st_q := [.ref 17, fI p]) (h_q := u) (cl_q := 0) (sl_q := 0) rfl ?_
    refine fw_gf rfl rfl u17 rfl ?_
    refine ik_Wc 2 1 0 [.ref 7] [fI p] rfl rfl rfl (by decide +kernel) rfl rfl (fw_rec ul (fw_ftx rfl (wv_c rfl wv_n) (wl_c rfl (wl_c rfl (wl_c rfl (wl_c rfl (wl_c rfl (wl_c w5 (wl_c w6 (wl_c w7 wl_n))))))))) u7 rfl (by decide +kernel)) ?_
    refine ik_Wk 0 (pc_q := 0) (loc_q := [some (.ref 7)]) (st_q := []) (h_q := u) (cl_q := 0) (sl_q := 0) rfl ?_
    refine ik_Wk 1 (pc_q := 1) (loc_q := [some (.ref 7)]) (st_q := [.ref 7]) (h_q := u) (cl_q := 0) (sl_q := 0) rfl ?_
    refine fw_gf rfl rfl u7 rfl ?_
    refine ik_Wk 1 (pc_q := 5) (loc_q := [some (.ref 7)]) (st_q := [fI 1, fI pl]) (h_q := u) (cl_q := 0) (sl_q := 0) rfl ?_
    refine fw_sub rfl ?_
    refine ik_Wret rfl rfl ⟨_, _, rfl, rfl, ?_⟩
    refine ik_Wk 0 (pc_q := 22) (loc_q := [some (.ref 17), some (fI 0), some (fI m), some (fI l), some (fI p), x5, x6, x7]) (st_q := [fI (pl - 1), fI p]) (h_q := u) (cl_q := 0) (sl_q := 0) rfl ?_
    refine fw_ic_ge rfl rfl (by omega) (by omega) (by omega) (by omega) (fun hc1 => ?_) (fun hc1 => ?_)
    · have e0 : (pl - 1 - p).toNat = 0 := by omega
      rw [e0] at he
      have hz2 : z0 = x ∧ z1 = y ∧ z2 = l := hz.elim (fun w => absurd w (by omega)) id
      obtain ⟨ez0, ez1, ez2⟩ := hz2
      subst ez0
      subst ez1
      subst ez2
      rw [he]
      exact ik_Wret rfl rfl ⟨_, _, rfl, rfl, rfl, rfl, ⟨l0, l1, l2, z3, rfl, u17, u19, u20, u21, (mf_cv_r u33), F⟩⟩
    · refine ik_Wk 2 (pc_q := 27) (loc_q := [some (.ref 17), some (fI 0), some (fI m), some (fI l), some (fI p), x5, x6, x7]) (st_q := [fI 0, .ref 17]) (h_q := u) (cl_q := 0) (sl_q := 0) rfl ?_
      refine ik_Wc 77 2 0 [.ref 17, fI 0] [] rfl rfl rfl (by decide +kernel) rfl rfl (fw_rec ul (fw_ftx rfl wv_n (wl_c rfl (wl_c rfl (wl_c rfl (wl_c rfl (wl_c rfl (wl_c w5 (wl_c w6 (wl_c w7 wl_n))))))))) u17 rfl (by decide +kernel)) ?_
      refine ik_Wk 0 (pc_q := 0) (loc_q := [some (.ref 17), some (fI 0)]) (st_q := []) (h_q := u) (cl_q := 0) (sl_q := 0) rfl ?_
      refine ik_Wk 1 (pc_q := 1) (loc_q := [some (.ref 17), some (fI 0)]) (st_q := [.ref 17]) (h_q := u) (cl_q := 0) (sl_q := 0) rfl ?_
      refine fw_gf rfl rfl u17 rfl ?_
      refine ik_Wk 2 (pc_q := 6) (loc_q := [some (.ref 17), some (fI 0)]) (st_q := [fI 3, fI 0, .ref 18]) (h_q := u) (cl_q := 0) (sl_q := 0) rfl ?_
      refine fw_mul rfl ?_
      refine fx_aal (z := 0) rfl u18 (by decide +kernel) (by decide +kernel) rfl ?_
      refine ik_Wret rfl rfl ⟨_, _, rfl, rfl, ?_⟩
      refine ik_Wk 0 (pc_q := 30) (loc_q := [some (.ref 17), some (fI 0), some (fI m), some (fI l), some (fI p), x5, x6, x7]) (st_q := [.ref 21]) (h_q := u) (cl_q := 0) (sl_q := 0) rfl ?_
      refine ik_Wk 1 (pc_q := 31) (loc_q := [some (.ref 17), some (fI 0), some (fI m), some (fI l), some (fI p), x5, x6, x7]) (st_q := [.ref 17, .ref 21]) (h_q := u) (cl_q := 0) (sl_q := 0) rfl ?_
      refine fw_gf rfl rfl u17 rfl ?_
      refine ik_Wk 2 (pc_q := 36) (loc_q := [some (.ref 17), some (fI 0), some (fI m), some (fI l), some (fI p), x5, x6, x7]) (st_q := [fI 3, fI 0, .ref 15, .ref 21]) (h_q := u) (cl_q := 0) (sl_q := 0) rfl ?_
      refine fw_mul rfl ?_
      refine ik_Wk 1 (pc_q := 38) (loc_q := [some (.ref 17), some (fI 0), some (fI m), some (fI l), some (fI p), x5, x6, x7]) (st_q := [fI 0, fI 0, .ref 15, .ref 21]) (h_q := u) (cl_q := 0) (sl_q := 0) rfl ?_
      refine fw_add rfl ?_
      refine fw_ial (z := 0) rfl u15 (by decide +kernel) (Nat.le_of_ble_eq_true rfl) (by decide +kernel) ?_
      refine ik_Wk 0 (pc_q := 40) (loc_q := [some (.ref 17), some (fI 0), some (fI m), some (fI l), some (fI p), x5, x6, x7]) (st_q := [fI ka, .ref 21]) (h_q := u) (cl_q := 0) (sl_q := 0) rfl ?_
      refine ik_Wk 1 (pc_q := 42) (loc_q := [some (.ref 17), some (fI 0), some (fI m), some (fI l), some (fI p), x5, x6, x7]) (st_q := [fI p, fI ka, .ref 21]) (h_q := u) (cl_q := 0) (sl_q := 0) rfl ?_
      refine fw_call 30 3 0 [.ref 21, fI ka, fI p] [] rfl rfl rfl (Nat.le_of_ble_eq_true rfl) rfl rfl (fw_rec ul (fw_ftx rfl wv_n (wl_c rfl (wl_c rfl (wl_c rfl (wl_c rfl (wl_c rfl (wl_c w5 (wl_c w6 (wl_c w7 wl_n))))))))) (mf_cr_o u21).choose_spec rfl (by decide +kernel)) (cs_setIn (C := 21) (pl := pl) (lo := lo) (s := s) (kd := ka) (qp := p) (W := W) (by omega) (by omega) (by omega) u7 u21 ul) ?_
      rintro _ h_223 ⟨rfl, e_223_C, F_223⟩
      have k_223 : cL h_223 := F_223.1.trans ul
      have fr_223 := hfr_cb F F_223 rfl
      have g_223_7 := (hfr_g F_223 7 rfl).trans u7
      have g_223_11 := (hfr_g F_223 11 rfl).trans u11
      have g_223_12 := (hfr_g F_223 12 rfl).trans u12
      have g_223_13 := (hfr_g F_223 13 rfl).trans u13
      have g_223_15 := (hfr_g F_223 15 rfl).trans u15
      have g_223_17 := (hfr_g F_223 17 rfl).trans u17
      have g_223_18 := (hfr_g F_223 18 rfl).trans u18
      have g_223_19 := (hfr_g F_223 19 rfl).trans u19
      have g_223_20 := (hfr_g F_223 20 rfl).trans u20
      have g_223_33 := mf_cv_f u33 (hfr_g F_223 33 rfl) (hfr_g F_223 34 rfl) (hfr_g F_223 35 rfl) (hfr_g F_223 36 rfl)
      have g_223_21 : mf_cv h_223 21 W pl ka p 0 := e_223_C
      refine ik_Wk 0 (pc_q := 45) (loc_q := [some (.ref 17), some (fI 0), some (fI m), some (fI l), some (fI p), x5, x6, x7]) (st_q := [.ref 21]) (h_q := h_223) (cl_q := 0) (sl_q := 0) rfl ?_
      refine ik_Wk 3 (pc_q := 49) (loc_q := [some (.ref 17), some (fI 0), some (fI m), some (fI l), some (fI p), some (fI 0), x6, x7]) (st_q := []) (h_q := h_223) (cl_q := 0) (sl_q := 0) rfl ?_
      refine cs_best0I (pl := pl) (lo := lo) (s := s) (m := m) (ka := ka) (pa := pa) (fa := fa) (kb := kb) (pb := pb) (fb := fb) (bo := bo) (la := la) (lb := lb) (t0 := t0) (t1 := t1) (t2 := t2) (t3 := t3) (wg := wg) (wc := wc) (we := we) (W := W) q0 q1 q2 q3 q4 q5 q6 q7 p (by omega) (mk_bk (mk_vb W pl ka pa fa kb pb fb 0) p (m.toNat + 1) 0 x y l) (R := (fun rv h_q => ∃ (l0 : Int) (l1 : Int) (l2 : Int) (t' : Int), rv = [] ∧ cE h_q 17 (.inr (8, [.ref 7, .ref 15, .ref 18, .ref 19, fJ l2, .ref 20])) ∧ cE h_q 19 (.inl (.long, fL [l0, l1])) ∧ cE h_q 20 (.inl (.int, fA [(mk_bp (mk_vb W pl ka pa fa kb pb fb 0) (m.toNat + 1) (pl - 1).toNat 0 0 0 1000001).1, (mk_bp (mk_vb W pl ka pa fa kb pb fb 0) (m.toNat + 1) (pl - 1).toNat 0 0 0 1000001).2.1, (mk_bp (mk_vb W pl ka pa fa kb pb fb 0) (m.toNat + 1) (pl - 1).toNat 0 0 0 1000001).2.2, t'])) ∧ mf_cr h_q 21  ∧ mf_cr h_q 33  ∧ hfr [17, 19, 20, 21, 22, 23, 24, 33, 34, 35, 36] h h_q)) (fun h_224 x_224 y_224 l_224 z0_224 z1_224 z2_224 z3_224 l0_224 l1_224 l2_224 uo_224 i2_224 uw_224 x6_224 x7_224 g_224_7 g_224_11 m_224_11 g_224_12 m_224_12 g_224_13 m_224_13 g_224_15 g_224_17 g_224_18 g_224_19 g_224_20 g_224_21 g_224_33 k_224 fr_224 hl_224 hz_224 hX_224 w6_224 w7_224 => ?_) (m.toNat + 2) 0 x y l z0 z1 z2 z3 l0 l1 l2 uo 0 x6 x7 h_223 g_223_7 g_223_11 n11 g_223_12 n12 g_223_13 n13 g_223_15 g_223_17 g_223_18 g_223_19 g_223_20 g_223_21 g_223_33 k_223 fr_223 (by omega) hl (hz.elim (fun w => Or.inl ⟨⟨w.1, rfl⟩, w.2⟩) Or.inr) (by rw [show (m + 1 - 0).toNat = m.toNat + 1 by omega]) w6 w7 (by omega)
      refine fw_inc (a := p) (loc_q := [some (.ref 17), some (fI 0), some (fI m), some (fI l_224), some (fI (p + 1)), some (fI i2_224), x6_224, x7_224]) rfl rfl (Nat.le_of_ble_eq_true rfl) rfl ?_
      refine ik_Wk 1 (pc_q := 13) (loc_q := [some (.ref 17), some (fI 0), some (fI m), some (fI l_224), some (fI (p + 1)), some (fI i2_224), x6_224, x7_224]) (st_q := []) (h_q := h_224) (cl_q := 0) (sl_q := 0) rfl ?_
      exact ih  (p + 1) x_224 y_224 l_224 z0_224 z1_224 z2_224 z3_224 l0_224 l1_224 l2_224 uo_224 (some (fI i2_224)) x6_224 x7_224 h_224 g_224_7 g_224_11 m_224_11 g_224_12 m_224_12 g_224_13 m_224_13 g_224_15 g_224_17 g_224_18 g_224_19 g_224_20 (mf_cv_r g_224_21) g_224_33 k_224 fr_224 (by omega) hl_224 (Or.inr hz_224) (by rw [he, show (pl - 1 - p).toNat = (pl - 1 - (p + 1)).toNat + 1 by omega]; show mk_bp (mk_vb W pl ka pa fa kb pb fb 0) (m.toNat + 1) _ (p + 1) _ _ _ = _; rw [hX_224]) rfl w6_224 w7_224 (by omega)

theorem cs_best0 {h : List ik_E} {pl : Int} {lo : Int} {s : Nat} {m : Int} {ka : Int} {pa : Int} {fa : Int} {kb : Int} {pb : Int} {fb : Int} {bo : Int} {la : Int} {lb : Int} {t0 : Int} {t1 : Int} {t2 : Int} {t3 : Int} {wg : List Int} {wc : List Int} {we : List Int} {W : Int → List (Int × Int)} (q0 : 2 ≤ pl ∧ pl ≤ 12) (q1 : 0 ≤ ka ∧ ka ≤ 2 ∧ 0 ≤ kb ∧ kb ≤ 2) (q2 : 0 ≤ pa ∧ pa < pl - 1) (q3 : 0 ≤ pb ∧ pb < pl - 1) (q4 : 0 ≤ fa ∧ fa ≤ 30 ∧ 0 ≤ fb ∧ fb ≤ 30) (q5 : ∀ x : Int, (0 : Int) ≤ x → x < pl - 1 → mx_wy wg wc we x (W x)) (q6 : ∀ x : Int, (0 : Int) ≤ x → x < pl - 1 → mx_ok pl (W x)) (q7 : (0 : Int) ≤ m ∧ m ≤ (10 : Int)) (h7 : cE h 7 (.inr (0, [fI pl, fI ((s : Nat) : Int), fI lo, .ref 8, .ref 9, .ref 10, .ref 11, .ref 12, .ref 13]))) (h11 : cE h 11 (.inl (.int, fA wg))) (n11 : wg.length = (60 : Nat)) (h12 : cE h 12 (.inl (.int, fA wc))) (n12 : wc.length = (60 : Nat)) (h13 : cE h 13 (.inl (.int, fA we))) (n13 : we.length = (12 : Nat)) (h15 : cE h 15 (.inl (.int, fA [ka, pa, fa, kb, pb, fb]))) (h17 : cE h 17 (.inr (8, [.ref 7, .ref 15, .ref 18, .ref 19, fJ bo, .ref 20]))) (h18 : cE h 18 (.inl (.object "SlowerCork$Course", [.ref 21, .ref 25, .ref 29, .ref 33, .ref 37, .ref 41]))) (h19 : cE h 19 (.inl (.long, fL [la, lb]))) (h20 : cE h 20 (.inl (.int, fA [t0, t1, t2, t3]))) (h21 : mf_cr h 21 ) (h33 : mf_cr h 33 ) (hl : h.length = (94 : Nat)) : ik_F 83 [.ref 17, fI 0, fI m] h (fun rv h_q => ∃ (l0 : Int) (l1 : Int) (l2 : Int) (t' : Int), rv = [] ∧ cE h_q 17 (.inr (8, [.ref 7, .ref 15, .ref 18, .ref 19, fJ l2, .ref 20])) ∧ cE h_q 19 (.inl (.long, fL [l0, l1])) ∧ cE h_q 20 (.inl (.int, fA [(mk_bp (mk_vb W pl ka pa fa kb pb fb 0) (m.toNat + 1) (pl - 1).toNat 0 0 0 1000001).1, (mk_bp (mk_vb W pl ka pa fa kb pb fb 0) (m.toNat + 1) (pl - 1).toNat 0 0 0 1000001).2.1, (mk_bp (mk_vb W pl ka pa fa kb pb fb 0) (m.toNat + 1) (pl - 1).toNat 0 0 0 1000001).2.2, t'])) ∧ mf_cr h_q 21  ∧ mf_cr h_q 33  ∧ hfr [17, 19, 20, 21, 22, 23, 24, 33, 34, 35, 36] h h_q) := by
  refine ik_Wk 3 (pc_q := 3) (loc_q := [some (.ref 17), some (fI 0), some (fI m), none, none, none, none, none]) (st_q := [fI 0, fI 1, .ref 17]) (h_q := h) (cl_q := 0) (sl_q := 0) rfl ?_
  refine fw_sub rfl ?_
  refine ik_Wc 78 2 0 [.ref 17, fI 1] [] rfl rfl rfl (by decide +kernel) rfl rfl (fw_rec hl rfl h17 rfl (Nat.le_of_ble_eq_true rfl)) ?_
  refine ik_Wk 0 (pc_q := 0) (loc_q := [some (.ref 17), some (fI 1)]) (st_q := []) (h_q := h) (cl_q := 0) (sl_q := 0) rfl ?_
  refine ik_Wk 2 (pc_q := 2) (loc_q := [some (.ref 17), some (fI 1)]) (st_q := [fI 1, .ref 17]) (h_q := h) (cl_q := 0) (sl_q := 0) rfl ?_
  refine ik_Wc 77 2 0 [.ref 17, fI 1] [] rfl rfl rfl (by decide +kernel) rfl rfl (fw_rec hl rfl h17 rfl (Nat.le_of_ble_eq_true rfl)) ?_
  refine ik_Wk 0 (pc_q := 0) (loc_q := [some (.ref 17), some (fI 1)]) (st_q := []) (h_q := h) (cl_q := 0) (sl_q := 0) rfl ?_
  refine ik_Wk 1 (pc_q := 1) (loc_q := [some (.ref 17), some (fI 1)]) (st_q := [.ref 17]) (h_q := h) (cl_q := 0) (sl_q := 0) rfl ?_
  refine fw_gf rfl rfl h17 rfl ?_
  refine ik_Wk 2 (pc_q := 6) (loc_q := [some (.ref 17), some (fI 1)]) (st_q := [fI 3, fI 1, .ref 18]) (h_q := h) (cl_q := 0) (sl_q := 0) rfl ?_
  refine fw_mul rfl ?_
  refine fx_aal (z := 3) rfl h18 (by decide +kernel) (by decide +kernel) rfl ?_
  refine ik_Wret rfl rfl ⟨_, _, rfl, rfl, ?_⟩
  refine ik_Wk 0 (pc_q := 5) (loc_q := [some (.ref 17), some (fI 1)]) (st_q := [.ref 33]) (h_q := h) (cl_q := 0) (sl_q := 0) rfl ?_
  refine ik_Wk 1 (pc_q := 6) (loc_q := [some (.ref 17), some (fI 1)]) (st_q := [.ref 17, .ref 33]) (h_q := h) (cl_q := 0) (sl_q := 0) rfl ?_
  refine fw_gf rfl rfl h17 rfl ?_
  refine ik_Wk 2 (pc_q := 11) (loc_q := [some (.ref 17), some (fI 1)]) (st_q := [fI 3, fI 1, .ref 15, .ref 33]) (h_q := h) (cl_q := 0) (sl_q := 0) rfl ?_
  refine fw_mul rfl ?_
  refine ik_Wk 1 (pc_q := 13) (loc_q := [some (.ref 17), some (fI 1)]) (st_q := [fI 0, fI 3, .ref 15, .ref 33]) (h_q := h) (cl_q := 0) (sl_q := 0) rfl ?_
  refine fw_add rfl ?_
  refine fw_ial (z := 3) rfl h15 (by decide +kernel) (Nat.le_of_ble_eq_true rfl) (by decide +kernel) ?_
  refine ik_Wk 0 (pc_q := 15) (loc_q := [some (.ref 17), some (fI 1)]) (st_q := [fI kb, .ref 33]) (h_q := h) (cl_q := 0) (sl_q := 0) rfl ?_
  refine ik_Wk 1 (pc_q := 16) (loc_q := [some (.ref 17), some (fI 1)]) (st_q := [.ref 17, fI kb, .ref 33]) (h_q := h) (cl_q := 0) (sl_q := 0) rfl ?_
  refine fw_gf rfl rfl h17 rfl ?_
  refine ik_Wk 2 (pc_q := 21) (loc_q := [some (.ref 17), some (fI 1)]) (st_q := [fI 3, fI 1, .ref 15, fI kb, .ref 33]) (h_q := h) (cl_q := 0) (sl_q := 0) rfl ?_
  refine fw_mul rfl ?_
  refine ik_Wk 1 (pc_q := 23) (loc_q := [some (.ref 17), some (fI 1)]) (st_q := [fI 1, fI 3, .ref 15, fI kb, .ref 33]) (h_q := h) (cl_q := 0) (sl_q := 0) rfl ?_
  refine fw_add rfl ?_
  refine fw_ial (z := 4) rfl h15 (by decide +kernel) (Nat.le_of_ble_eq_true rfl) (by decide +kernel) ?_
  refine ik_Wk 0 (pc_q := 25) (loc_q := [some (.ref 17), some (fI 1)]) (st_q := [fI pb, fI kb, .ref 33]) (h_q := h) (cl_q := 0) (sl_q := 0) rfl ?_
  refine fw_call 30 3 0 [.ref 33, fI kb, fI pb] [] rfl rfl rfl (Nat.le_of_ble_eq_true rfl) rfl rfl (fw_rec hl rfl (mf_cr_o h33).choose_spec rfl (by decide +kernel)) (cs_setIn (C := 33) (pl := pl) (lo := lo) (s := s) (kd := kb) (qp := pb) (W := W) (by omega) (by omega) (by omega) h7 h33 hl) ?_
  rintro _ h_225 ⟨rfl, e_225_C, F_225⟩
  have k_225 : cL h_225 := F_225.1.trans hl
  have fr_225 := hfr_cb (hfr_refl [17, 19, 20, 21, 22, 23, 24, 33, 34, 35, 36] h) F_225 rfl
  have g_225_7 := (hfr_g F_225 7 rfl).trans h7
  have g_225_11 := (hfr_g F_225 11 rfl).trans h11
  have g_225_12 := (hfr_g F_225 12 rfl).trans h12
  have g_225_13 := (hfr_g F_225 13 rfl).trans h13
  have g_225_15 := (hfr_g F_225 15 rfl).trans h15
  have g_225_17 := (hfr_g F_225 17 rfl).trans h17
  have g_225_18 := (hfr_g F_225 18 rfl).trans h18
  have g_225_19 := (hfr_g F_225 19 rfl).trans h19
  have g_225_20 := (hfr_g F_225 20 rfl).trans h20
  have g_225_21 := mf_cr_f h21 (hfr_g F_225 21 rfl) (hfr_g F_225 22 rfl) (hfr_g F_225 23 rfl) (hfr_g F_225 24 rfl)
  have g_225_33 : mf_cv h_225 33 W pl kb pb 0 := e_225_C
  refine ik_Wk 0 (pc_q := 28) (loc_q := [some (.ref 17), some (fI 1)]) (st_q := [.ref 33]) (h_q := h_225) (cl_q := 0) (sl_q := 0) rfl ?_
  refine ik_Wk 1 (pc_q := 29) (loc_q := [some (.ref 17), some (fI 1)]) (st_q := []) (h_q := h_225) (cl_q := 0) (sl_q := 0) rfl ?_
  refine ik_Wret rfl rfl ⟨_, _, rfl, rfl, ?_⟩
  refine ik_Wk 0 (pc_q := 7) (loc_q := [some (.ref 17), some (fI 0), some (fI m), none, none, none, none, none]) (st_q := []) (h_q := h_225) (cl_q := 0) (sl_q := 0) rfl ?_
  refine fw_ld 1000001 rfl rfl (by decide +kernel) ?_
  refine ik_Wk 3 (pc_q := 13) (loc_q := [some (.ref 17), some (fI 0), some (fI m), some (fI 1000001), some (fI 0), none, none, none]) (st_q := []) (h_q := h_225) (cl_q := 0) (sl_q := 0) rfl ?_
  exact cs_best0L (pl := pl) (lo := lo) (s := s) (m := m) (ka := ka) (pa := pa) (fa := fa) (kb := kb) (pb := pb) (fb := fb) (bo := bo) (la := la) (lb := lb) (t0 := t0) (t1 := t1) (t2 := t2) (t3 := t3) (wg := wg) (wc := wc) (we := we) (W := W) q0 q1 q2 q3 q4 q5 q6 q7  (pl.toNat + 1) 0 0 0 1000001 t0 t1 t2 t3 la lb bo 0 none none none h_225 g_225_7 g_225_11 n11 g_225_12 n12 g_225_13 n13 g_225_15 g_225_17 g_225_18 g_225_19 g_225_20 g_225_21 g_225_33 k_225 fr_225 (by omega) (by omega) (Or.inl ⟨rfl, rfl, rfl, rfl⟩) (by rw [Int.sub_zero]) rfl rfl rfl (by omega)

end

/-! 38zj1.best -/
noncomputable section
theorem cs_best1I {h : List ik_E} {pl : Int} {lo : Int} {s : Nat} {m : Int} {ka : Int} {pa : Int} {fa : Int} {kb : Int} {pb : Int} {fb : Int} {bo : Int} {la : Int} {lb : Int} {t0 : Int} {t1 : Int} {t2 : Int} {t3 : Int} {wg : List Int} {wc : List Int} {we : List Int} {W : Int → List (Int × Int)} (q0 : 2 ≤ pl ∧ pl ≤ 12) (q1 : 0 ≤ ka ∧ ka ≤ 2 ∧ 0 ≤ kb ∧ kb ≤ 2) (q2 : 0 ≤ pa ∧ pa < pl - 1) (q3 : 0 ≤ pb ∧ pb < pl - 1) (q4 : 0 ≤ fa ∧ fa ≤ 30 ∧ 0 ≤ fb ∧ fb ≤ 30) (q5 : ∀ x : Int, (0 : Int) ≤ x → x < pl - 1 → mx_wy wg wc we x (W x)) (q6 : ∀ x : Int, (0 : Int) ≤ x → x < pl - 1 → mx_ok pl (W x)) (q7 : (0 : Int) ≤ m ∧ m ≤ (10 : Int)) (p : Int) (hp : (0 : Int) ≤ p ∧ p < pl - 1) (X : Int × Int × Int) {R : List Value → List ik_E → Prop} (K : ∀ (w : List ik_E) (x : Int) (y : Int) (l : Int) (z0 : Int) (z1 : Int) (z2 : Int) (z3 : Int) (l0 : Int) (l1 : Int) (l2 : Int) (uo : Int) (i2 : Int) (uw : Int) (x6 : Option Value) (x7 : Option Value) (w7 : cE w 7 (.inr (0, [fI pl, fI ((s : Nat) : Int), fI lo, .ref 8, .ref 9, .ref 10, .ref 11, .ref 12, .ref 13]))) (w11 : cE w 11 (.inl (.int, fA wg))) (nw_11 : wg.length = (60 : Nat)) (w12 : cE w 12 (.inl (.int, fA wc))) (nw_12 : wc.length = (60 : Nat)) (w13 : cE w 13 (.inl (.int, fA we))) (nw_13 : we.length = (12 : Nat)) (w15 : cE w 15 (.inl (.int, fA [ka, pa, fa, kb, pb, fb]))) (w17 : cE w 17 (.inr (8, [.ref 7, .ref 15, .ref 18, .ref 19, fJ l2, .ref 20]))) (w18 : cE w 18 (.inl (.object "SlowerCork$Course", [.ref 21, .ref 25, .ref 29, .ref 33, .ref 37, .ref 41]))) (w19 : cE w 19 (.inl (.long, fL [l0, l1]))) (w20 : cE w 20 (.inl (.int, fA [z0, z1, z2, z3]))) (w21 : mf_cv w 21 W pl ka pa uo) (w33 : mf_cv w 33 W pl kb p uw) (wl : w.length = (94 : Nat)) (F : hfr [17, 19, 20, 21, 22, 23, 24, 33, 34, 35, 36] h w) (hl : (0 : Int) ≤ l ∧ l ≤ (1000001 : Int)) (hz : z0 = x ∧ z1 = y ∧ z2 = l) (hX : X = (x, y, l)) (w6 : ik_wl 94 x6 = true) (w7 : ik_wl 94 x7 = true), ik_G 83 141 [some (.ref 17), some (fI 1), some (fI m), some (fI l), some (fI p), some (fI i2), x6, x7] [] w R) : ∀ (k : Nat) (i : Int) (x : Int) (y : Int) (l : Int) (z0 : Int) (z1 : Int) (z2 : Int) (z3 : Int) (l0 : Int) (l1 : Int) (l2 : Int) (uo : Int) (uw : Int) (x6 : Option Value) (x7 : Option Value) (u : List ik_E) (u7 : cE u 7 (.inr (0, [fI pl, fI ((s : Nat) : Int), fI lo, .ref 8, .ref 9, .ref 10, .ref 11, .ref 12, .ref 13]))) (u11 : cE u 11 (.inl (.int, fA wg))) (n11 : wg.length = (60 : Nat)) (u12 : cE u 12 (.inl (.int, fA wc))) (n12 : wc.length = (60 : Nat)) (u13 : cE u 13 (.inl (.int, fA we))) (n13 : we.length = (12 : Nat)) (u15 : cE u 15 (.inl (.int, fA [ka, pa, fa, kb, pb, fb]))) (u17 : cE u 17 (.inr (8, [.ref 7, .ref 15, .ref 18, .ref 19, fJ l2, .ref 20]))) (u18 : cE u 18 (.inl (.object "SlowerCork$Course", [.ref 21, .ref 25, .ref 29, .ref 33, .ref 37, .ref 41]))) (u19 : cE u 19 (.inl (.long, fL [l0, l1]))) (u20 : cE u 20 (.inl (.int, fA [z0, z1, z2, z3]))) (u21 : mf_cv u 21 W pl ka pa uo) (u33 : mf_cv u 33 W pl kb p uw) (ul : u.length = (94 : Nat)) (F : hfr [17, 19, 20, 21, 22, 23, 24, 33, 34, 35, 36] h u) (hi : (0 : Int) ≤ i ∧ i ≤ m + 1) (hl : (0 : Int) ≤ l ∧ l ≤ (1000001 : Int)) (hz : mk_fs (p = 0 ∧ i = 0) x y l z0 z1 z2) (he : X = (mk_bk (mk_vb W pl ka pa fa kb pb fb 1) p (m + 1 - i).toNat i x y l)) (w6 : ik_wl 94 x6 = true) (w7 : ik_wl 94 x7 = true) (hk : m + 1 - i < (k : Int)), ik_G 83 49 [some (.ref 17), some (fI 1), some (fI m), some (fI l), some (fI p), some (fI i), x6, x7] [] u R := by
  intro k
  induction k with
  | zero => intro i x y l z0 z1 z2 z3 l0 l1 l2 uo uw x6 x7 u u7 u11 n11 u12 n12 u13 n13 u15 u17 u18 u19 u20 u21 u33 ul F hi hl hz he w6 w7 hk; omega
  | succ k ih =>
    intro i x y l z0 z1 z2 z3 l0 l1 l2 uo uw x6 x7 u u7 u11 n11 u12 n12 u13 n13 u15 u17 u18 u19 u20 u21 u33 ul F hi hl hz he w6 w7 hk
    refine ik_Wk 2 (pc_q := 52) (loc_q := [some (.ref 17), some (fI 1), some (fI m), some (fI l), some (fI p), some (fI i), x6, x7]) (st_q := [fI m, fI i]) (h_q := u) (cl_q := 0) (sl_q := 0) rfl ?_
    refine fw_ic_gt rfl rfl (by omega) (by omega) (by omega) (by omega) (fun hc1 => ?_) (fun hc1 => ?_)
    · have e0 : (m + 1 - i).toNat = 0 := by omega
      rw [e0] at he
      exact K u x y l z0 z1 z2 z3 l0 l1 l2 uo i uw x6 x7 u7 u11 n11 u12 n12 u13 n13 u15 u17 u18 u19 u20 u21 u33 ul F hl (hz.elim (fun w => absurd w (by omega)) id) he w6 w7
    · refine ik_Wk 1 (pc_q := 56) (loc_q := [some (.ref 17), some (fI 1), some (fI m), some (fI l), some (fI p), some (fI i), x6, x7]) (st_q := [fI 1]) (h_q := u) (cl_q := 0) (sl_q := 0) rfl ?_
      refine fw_if_ne rfl rfl (by decide +kernel) (by decide +kernel) (fun hc2 => absurd hc2 (by decide +kernel)) (fun hc2 => ?_)
      refine ik_Wk 1 (pc_q := 65) (loc_q := [some (.ref 17), some (fI 1), some (fI m), some (fI l), some (fI p), some (fI i), x6, x7]) (st_q := [.ref 17]) (h_q := u) (cl_q := 0) (sl_q := 0) rfl ?_
      refine fw_gf rfl rfl u17 rfl ?_
      refine ik_Wk 1 (pc_q := 69) (loc_q := [some (.ref 17), some (fI 1), some (fI m), some (fI l), some (fI p), some (fI i), x6, x7]) (st_q := [fI 2, .ref 15]) (h_q := u) (cl_q := 0) (sl_q := 0) rfl ?_
      refine fw_ial (z := 2) rfl u15 (by decide +kernel) (Nat.le_of_ble_eq_true rfl) (by decide +kernel) ?_
      refine ik_Wk 0 (pc_q := 70) (loc_q := [some (.ref 17), some (fI 1), some (fI m), some (fI l), some (fI p), some (fI i), x6, x7]) (st_q := [fI fa]) (h_q := u) (cl_q := 0) (sl_q := 0) rfl ?_
      refine ik_Wk 3 (pc_q := 74) (loc_q := [some (.ref 17), some (fI 1), some (fI m), some (fI l), some (fI p), some (fI i), some (fI fa), x7]) (st_q := [fI 1, fI 1]) (h_q := u) (cl_q := 0) (sl_q := 0) rfl ?_
      refine fw_ic_ne rfl rfl (by decide +kernel) (by decide +kernel) (by decide +kernel) (by decide +kernel) (fun hc3 => ?_) (fun hc3 => absurd hc3 (by decide +kernel))
      refine ik_Wk 6 (pc_q := 93) (loc_q := [some (.ref 17), some (fI 1), some (fI m), some (fI l), some (fI p), some (fI i), some (fI fa), some (fI i)]) (st_q := [fI 0, .ref 17, .ref 17]) (h_q := u) (cl_q := 0) (sl_q := 0) rfl ?_
      refine ik_Wc 77 2 0 [.ref 17, fI 0] [.ref 17] rfl rfl rfl (by decide +kernel) rfl rfl (fw_rec ul rfl u17 rfl (Nat.le_of_ble_eq_true rfl)) ?_
      refine ik_Wk 0 (pc_q := 0) (loc_q := [some (.ref 17), some (fI 0)]) (st_q := []) (h_q := u) (cl_q := 0) (sl_q := 0) rfl ?_
      refine ik_Wk 1 (pc_q := 1) (loc_q := [some (.ref 17), some (fI 0)]) (st_q := [.ref 17]) (h_q := u) (cl_q := 0) (sl_q := 0) rfl ?_
      refine fw_gf rfl rfl u17 rfl ?_
      refine ik_Wk 2 (pc_q := 6) (loc_q := [some (.ref 17), some (fI 0)]) (st_q := [fI 3, fI 0, .ref 18]) (h_q := u) (cl_q := 0) (sl_q := 0) rfl ?_
      refine fw_mul rfl ?_
      refine fx_aal (z := 0) rfl u18 (by decide +kernel) (by decide +kernel) rfl ?_
      refine ik_Wret rfl rfl ⟨_, _, rfl, rfl, ?_⟩
      refine ik_Wk 0 (pc_q := 96) (loc_q := [some (.ref 17), some (fI 1), some (fI m), some (fI l), some (fI p), some (fI i), some (fI fa), some (fI i)]) (st_q := [.ref 21, .ref 17]) (h_q := u) (cl_q := 0) (sl_q := 0) rfl ?_
      refine ik_Wk 3 (pc_q := 100) (loc_q := [some (.ref 17), some (fI 1), some (fI m), some (fI l), some (fI p), some (fI i), some (fI fa), some (fI i)]) (st_q := [fI 1, .ref 17, fI fa, .ref 21, .ref 17]) (h_q := u) (cl_q := 0) (sl_q := 0) rfl ?_
      refine ik_Wc 77 2 0 [.ref 17, fI 1] [fI fa, .ref 21, .ref 17] rfl rfl rfl (by decide +kernel) rfl rfl (fw_rec ul rfl u17 rfl (Nat.le_of_ble_eq_true rfl)) ?_
      refine ik_Wk 0 (pc_q := 0) (loc_q := [some (.ref 17), some (fI 1)]) (st_q := []) (h_q := u) (cl_q := 0) (sl_q := 0) rfl ?_
      refine ik_Wk 1 (pc_q := 1) (loc_q := [some (.ref 17), some (fI 1)]) (st_q := [.ref 17]) (h_q := u) (cl_q := 0) (sl_q := 0) rfl ?_
      refine fw_gf rfl rfl u17 rfl ?_
      refine ik_Wk 2 (pc_q := 6) (loc_q := [some (.ref 17), some (fI 1)]) (st_q := [fI 3, fI 1, .ref 18]) (h_q := u) (cl_q := 0) (sl_q := 0) rfl ?_
      refine fw_mul rfl ?_
      refine fx_aal (z := 3) rfl u18 (by decide +kernel) (by decide +kernel) rfl ?_
      refine ik_Wret rfl rfl ⟨_, _, rfl, rfl, ?_⟩
      refine ik_Wk 0 (pc_q := 103) (loc_q := [some (.ref 17), some (fI 1), some (fI m), some (fI l), some (fI p), some (fI i), some (fI fa), some (fI i)]) (st_q := [.ref 33, fI fa, .ref 21, .ref 17]) (h_q := u) (cl_q := 0) (sl_q := 0) rfl ?_
      refine ik_Wk 1 (pc_q := 105) (loc_q := [some (.ref 17), some (fI 1), some (fI m), some (fI l), some (fI p), some (fI i), some (fI fa), some (fI i)]) (st_q := [fI i, .ref 33, fI fa, .ref 21, .ref 17]) (h_q := u) (cl_q := 0) (sl_q := 0) rfl ?_
      refine fw_ld 1000000 rfl rfl (by decide +kernel) ?_
      refine fw_call 80 6 0 [.ref 17, .ref 21, fI fa, .ref 33, fI i, fI 1000000] [] rfl rfl rfl (Nat.le_of_ble_eq_true rfl) rfl rfl (fw_rec ul rfl u17 rfl (Nat.le_of_ble_eq_true rfl)) (cs_race (C := 21) (E := 33) (pl := pl) (lo := lo) (s := s) (ka := ka) (pa := pa) (ma := fa) (kb := kb) (pb := p) (mb := i) (ua := uo) (ub := uw) (lim := 1000000) (bo := l2) (la := l0) (lb := l1) (wg := wg) (wc := wc) (we := we) (W := W) (by omega) (by omega) (by omega) (by omega) (by omega) (by omega) (by omega) q5 q6 u7 u11 n11 u12 n12 u13 n13 u17 u19 u21 u33 ul) ?_
      rintro _ h_226 ⟨l0_226, l1_226, l2_226, ua'_226, ub'_226, rfl, e_226_17, e_226_19, e_226_C, e_226_E, p_226_0, p_226_1, F_226⟩
      have k_226 : cL h_226 := F_226.1.trans ul
      have fr_226 := hfr_cb F F_226 rfl
      have g_226_7 := (hfr_g F_226 7 rfl).trans u7
      have g_226_11 := (hfr_g F_226 11 rfl).trans u11
      have g_226_12 := (hfr_g F_226 12 rfl).trans u12
      have g_226_13 := (hfr_g F_226 13 rfl).trans u13
      have g_226_15 := (hfr_g F_226 15 rfl).trans u15
      have g_226_18 := (hfr_g F_226 18 rfl).trans u18
      have g_226_20 := (hfr_g F_226 20 rfl).trans u20
      have g_226_17 : cE h_226 17 (.inr (8, [.ref 7, .ref 15, .ref 18, .ref 19, fJ l2_226, .ref 20])) := e_226_17
      have g_226_19 : cE h_226 19 (.inl (.long, fL [l0_226, l1_226])) := e_226_19
      have g_226_21 : mf_cv h_226 21 W pl ka pa ua'_226 := e_226_C
      have g_226_33 : mf_cv h_226 33 W pl kb p ub'_226 := e_226_E
      refine ik_Wk 0 (pc_q := 110) (loc_q := [some (.ref 17), some (fI 1), some (fI m), some (fI l), some (fI p), some (fI i), some (fI fa), some (fI i)]) (st_q := []) (h_q := h_226) (cl_q := 0) (sl_q := 0) rfl ?_
      have ka_226 := mr_ok_cm (W := W) (k := ka) q6 q2
      have kb_226 := mr_ok_cm (W := W) (k := kb) q6 hp
      have Fa_226 := mr_F_b ka_226 kb_226 fa (show 0 ≤ i by omega)
      have Fb_226 := mr_F_b kb_226 ka_226 i (show 0 ≤ fa by omega)
      have el_226 : l0_226 = mr_F0 (mf_cm W (pl - 1) ka pa) fa (mf_cm W (pl - 1) kb p) i ∧ l1_226 = mr_F0 (mf_cm W (pl - 1) kb p) i (mf_cm W (pl - 1) ka pa) fa := by
        rcases p_226_1 with e | e
        · exact ⟨e.1, e.2.1⟩
        · omega
      have ew_226 : (l1_226 / 1000 : Int) = (mr_w (mf_cm W (pl - 1) ka pa) fa (mf_cm W (pl - 1) kb p) i 1 : Int) := by rw [mr_w_1, el_226.2]
      have wb_226 := mr_w_b ka_226 kb_226 (show 0 ≤ fa by omega) (show 0 ≤ i by omega) 1
      have ev : (mk_vb W pl ka pa fa kb pb fb 1) p i = (l1_226 / 1000 : Int) := by rw [ew_226]; exact if_neg (by decide +kernel)
      refine ik_Wk 2 (pc_q := 112) (loc_q := [some (.ref 17), some (fI 1), some (fI m), some (fI l), some (fI p), some (fI i), some (fI fa), some (fI i)]) (st_q := [fI 1, .ref 17]) (h_q := h_226) (cl_q := 0) (sl_q := 0) rfl ?_
      refine ik_Wc 74 2 0 [.ref 17, fI 1] [] rfl rfl rfl (by decide +kernel) rfl rfl (fw_rec k_226 rfl g_226_17 rfl (Nat.le_of_ble_eq_true rfl)) ?_
      refine ik_Wk 0 (pc_q := 0) (loc_q := [some (.ref 17), some (fI 1)]) (st_q := []) (h_q := h_226) (cl_q := 0) (sl_q := 0) rfl ?_
      refine ik_Wk 1 (pc_q := 1) (loc_q := [some (.ref 17), some (fI 1)]) (st_q := [.ref 17]) (h_q := h_226) (cl_q := 0) (sl_q := 0) rfl ?_
      refine fw_gf rfl rfl g_226_17 rfl ?_
      refine ik_Wk 1 (pc_q := 5) (loc_q := [some (.ref 17), some (fI 1)]) (st_q := [fI 1, .ref 19]) (h_q := h_226) (cl_q := 0) (sl_q := 0) rfl ?_
      refine fx_lal (z := 1) rfl g_226_19 (by decide +kernel) (Nat.le_of_ble_eq_true rfl) (by decide +kernel) ?_
      refine ik_Wk 0 (pc_q := 6) (loc_q := [some (.ref 17), some (fI 1)]) (st_q := [fJ l1_226]) (h_q := h_226) (cl_q := 0) (sl_q := 0) rfl ?_
      refine fw_l2 1000 rfl rfl (by decide +kernel) ?_
      refine fx_ldiv rfl (by omega) (by omega) (by omega) (by omega) ?_
      refine fx_l2i rfl ?_
      refine ik_Wret rfl rfl ⟨_, _, rfl, rfl, ?_⟩
      refine ik_Wk 0 (pc_q := 115) (loc_q := [some (.ref 17), some (fI 1), some (fI m), some (fI l), some (fI p), some (fI i), some (fI fa), some (fI i)]) (st_q := [fI (l1_226 / 1000)]) (h_q := h_226) (cl_q := 0) (sl_q := 0) rfl ?_
      refine ik_Wk 1 (pc_q := 116) (loc_q := [some (.ref 17), some (fI 1), some (fI m), some (fI l), some (fI p), some (fI i), some (fI fa), some (fI i)]) (st_q := [fI l, fI (l1_226 / 1000)]) (h_q := h_226) (cl_q := 0) (sl_q := 0) rfl ?_
      refine fw_ic_ge rfl rfl (by omega) (by omega) (by omega) (by omega) (fun hc4 => ?_) (fun hc4 => ?_)
      · refine fw_inc (a := i) (loc_q := [some (.ref 17), some (fI 1), some (fI m), some (fI l), some (fI p), some (fI (i + 1)), some (fI fa), some (fI i)]) rfl rfl (Nat.le_of_ble_eq_true rfl) rfl ?_
        refine ik_Wk 1 (pc_q := 49) (loc_q := [some (.ref 17), some (fI 1), some (fI m), some (fI l), some (fI p), some (fI (i + 1)), some (fI fa), some (fI i)]) (st_q := []) (h_q := h_226) (cl_q := 0) (sl_q := 0) rfl ?_
        have e1 : (m + 1 - i).toNat = (m + 1 - (i + 1)).toNat + 1 := by omega
        have he2 : X = (mk_bk (mk_vb W pl ka pa fa kb pb fb 1) p (m + 1 - (i + 1)).toNat (i + 1) x y l) := by
          rw [he, e1]
          show (if (mk_vb W pl ka pa fa kb pb fb 1) p i < l then _ else _) = _
          rw [if_neg (by omega)]
        exact ih (i + 1) x y l z0 z1 z2 z3 l0_226 l1_226 l2_226 ua'_226 ub'_226 (some (fI fa)) (some (fI i)) h_226 g_226_7 g_226_11 n11 g_226_12 n12 g_226_13 n13 g_226_15 g_226_17 g_226_18 g_226_19 g_226_20 g_226_21 g_226_33 k_226 fr_226 (by omega) (by omega) (hz.elim (fun w => absurd w (by omega)) Or.inr) he2 rfl rfl (by omega)
      · refine ik_Wk 2 (pc_q := 121) (loc_q := [some (.ref 17), some (fI 1), some (fI m), some (fI l), some (fI p), some (fI i), some (fI fa), some (fI i)]) (st_q := [fI 1, .ref 17]) (h_q := h_226) (cl_q := 0) (sl_q := 0) rfl ?_
        refine ik_Wc 74 2 0 [.ref 17, fI 1] [] rfl rfl rfl (by decide +kernel) rfl rfl (fw_rec k_226 rfl g_226_17 rfl (Nat.le_of_ble_eq_true rfl)) ?_
        refine ik_Wk 0 (pc_q := 0) (loc_q := [some (.ref 17), some (fI 1)]) (st_q := []) (h_q := h_226) (cl_q := 0) (sl_q := 0) rfl ?_
        refine ik_Wk 1 (pc_q := 1) (loc_q := [some (.ref 17), some (fI 1)]) (st_q := [.ref 17]) (h_q := h_226) (cl_q := 0) (sl_q := 0) rfl ?_
        refine fw_gf rfl rfl g_226_17 rfl ?_
        refine ik_Wk 1 (pc_q := 5) (loc_q := [some (.ref 17), some (fI 1)]) (st_q := [fI 1, .ref 19]) (h_q := h_226) (cl_q := 0) (sl_q := 0) rfl ?_
        refine fx_lal (z := 1) rfl g_226_19 (by decide +kernel) (Nat.le_of_ble_eq_true rfl) (by decide +kernel) ?_
        refine ik_Wk 0 (pc_q := 6) (loc_q := [some (.ref 17), some (fI 1)]) (st_q := [fJ l1_226]) (h_q := h_226) (cl_q := 0) (sl_q := 0) rfl ?_
        refine fw_l2 1000 rfl rfl (by decide +kernel) ?_
        refine fx_ldiv rfl (by omega) (by omega) (by omega) (by omega) ?_
        refine fx_l2i rfl ?_
        refine ik_Wret rfl rfl ⟨_, _, rfl, rfl, ?_⟩
        refine ik_Wk 0 (pc_q := 124) (loc_q := [some (.ref 17), some (fI 1), some (fI m), some (fI l), some (fI p), some (fI i), some (fI fa), some (fI i)]) (st_q := [fI (l1_226 / 1000)]) (h_q := h_226) (cl_q := 0) (sl_q := 0) rfl ?_
        refine ik_Wk 6 (pc_q := 132) (loc_q := [some (.ref 17), some (fI 1), some (fI m), some (fI (l1_226 / 1000)), some (fI p), some (fI i), some (fI fa), some (fI i)]) (st_q := [fI (-1), fI (l1_226 / 1000), fI i, fI p, .ref 17]) (h_q := h_226) (cl_q := 0) (sl_q := 0) rfl ?_
        refine ik_Wc 88 5 0 [.ref 17, fI p, fI i, fI (l1_226 / 1000), fI (-1)] [] rfl rfl rfl (by decide +kernel) rfl rfl (fw_rec k_226 rfl g_226_17 rfl (Nat.le_of_ble_eq_true rfl)) ?_
        refine ik_Wk 0 (pc_q := 0) (loc_q := [some (.ref 17), some (fI p), some (fI i), some (fI (l1_226 / 1000)), some (fI (-1))]) (st_q := []) (h_q := h_226) (cl_q := 0) (sl_q := 0) rfl ?_
        refine ik_Wk 1 (pc_q := 1) (loc_q := [some (.ref 17), some (fI p), some (fI i), some (fI (l1_226 / 1000)), some (fI (-1))]) (st_q := [.ref 17]) (h_q := h_226) (cl_q := 0) (sl_q := 0) rfl ?_
        refine fw_gf rfl rfl g_226_17 rfl ?_
        refine ik_Wk 2 (pc_q := 6) (loc_q := [some (.ref 17), some (fI p), some (fI i), some (fI (l1_226 / 1000)), some (fI (-1))]) (st_q := [fI p, fI 0, .ref 20]) (h_q := h_226) (cl_q := 0) (sl_q := 0) rfl ?_
        refine fx_ias (z := 0) rfl g_226_20 (by decide +kernel) (Nat.le_of_ble_eq_true rfl) (by decide +kernel) ?_
        intro h_227 e_227 f_227 l_227
        have k_227 : cL h_227 := l_227.trans k_226
        have fr_227 := hfr_wb fr_226 f_227 l_227 rfl
        clear l_227
        have g_227_7 := (f_227 7 (Nat.ne_of_beq_eq_false rfl)).trans g_226_7
        have g_227_11 := (f_227 11 (Nat.ne_of_beq_eq_false rfl)).trans g_226_11
        have g_227_12 := (f_227 12 (Nat.ne_of_beq_eq_false rfl)).trans g_226_12
        have g_227_13 := (f_227 13 (Nat.ne_of_beq_eq_false rfl)).trans g_226_13
        have g_227_15 := (f_227 15 (Nat.ne_of_beq_eq_false rfl)).trans g_226_15
        have g_227_17 := (f_227 17 (Nat.ne_of_beq_eq_false rfl)).trans g_226_17
        have g_227_18 := (f_227 18 (Nat.ne_of_beq_eq_false rfl)).trans g_226_18
        have g_227_19 := (f_227 19 (Nat.ne_of_beq_eq_false rfl)).trans g_226_19
        have g_227_21 := mf_cv_f g_226_21 (f_227 21 (Nat.ne_of_beq_eq_false rfl)) (f_227 22 (Nat.ne_of_beq_eq_false rfl)) (f_227 23 (Nat.ne_of_beq_eq_false rfl)) (f_227 24 (Nat.ne_of_beq_eq_false rfl))
        have g_227_33 := mf_cv_f g_226_33 (f_227 33 (Nat.ne_of_beq_eq_false rfl)) (f_227 34 (Nat.ne_of_beq_eq_false rfl)) (f_227 35 (Nat.ne_of_beq_eq_false rfl)) (f_227 36 (Nat.ne_of_beq_eq_false rfl))
        have g_227_20 : cE h_227 20 (.inl (.int, fA [p, z1, z2, z3])) := e_227
        refine ik_Wk 1 (pc_q := 8) (loc_q := [some (.ref 17), some (fI p), some (fI i), some (fI (l1_226 / 1000)), some (fI (-1))]) (st_q := [.ref 17]) (h_q := h_227) (cl_q := 0) (sl_q := 0) rfl ?_
        refine fw_gf rfl rfl g_227_17 rfl ?_
        refine ik_Wk 2 (pc_q := 13) (loc_q := [some (.ref 17), some (fI p), some (fI i), some (fI (l1_226 / 1000)), some (fI (-1))]) (st_q := [fI i, fI 1, .ref 20]) (h_q := h_227) (cl_q := 0) (sl_q := 0) rfl ?_
        refine fx_ias (z := 1) rfl g_227_20 (by decide +kernel) (Nat.le_of_ble_eq_true rfl) (by decide +kernel) ?_
        intro h_228 e_228 f_228 l_228
        have k_228 : cL h_228 := l_228.trans k_227
        have fr_228 := hfr_wb fr_227 f_228 l_228 rfl
        clear l_228
        have g_228_7 := (f_228 7 (Nat.ne_of_beq_eq_false rfl)).trans g_227_7
        have g_228_11 := (f_228 11 (Nat.ne_of_beq_eq_false rfl)).trans g_227_11
        have g_228_12 := (f_228 12 (Nat.ne_of_beq_eq_false rfl)).trans g_227_12
        have g_228_13 := (f_228 13 (Nat.ne_of_beq_eq_false rfl)).trans g_227_13
        have g_228_15 := (f_228 15 (Nat.ne_of_beq_eq_false rfl)).trans g_227_15
        have g_228_17 := (f_228 17 (Nat.ne_of_beq_eq_false rfl)).trans g_227_17
        have g_228_18 := (f_228 18 (Nat.ne_of_beq_eq_false rfl)).trans g_227_18
        have g_228_19 := (f_228 19 (Nat.ne_of_beq_eq_false rfl)).trans g_227_19
        have g_228_21 := mf_cv_f g_227_21 (f_228 21 (Nat.ne_of_beq_eq_false rfl)) (f_228 22 (Nat.ne_of_beq_eq_false rfl)) (f_228 23 (Nat.ne_of_beq_eq_false rfl)) (f_228 24 (Nat.ne_of_beq_eq_false rfl))
        have g_228_33 := mf_cv_f g_227_33 (f_228 33 (Nat.ne_of_beq_eq_false rfl)) (f_228 34 (Nat.ne_of_beq_eq_false rfl)) (f_228 35 (Nat.ne_of_beq_eq_false rfl)) (f_228 36 (Nat.ne_of_beq_eq_false rfl))
        have g_228_20 : cE h_228 20 (.inl (.int, fA [p, i, z2, z3])) := e_228
        refine ik_Wk 1 (pc_q := 15) (loc_q := [some (.ref 17), some (fI p), some (fI i), some (fI (l1_226 / 1000)), some (fI (-1))]) (st_q := [.ref 17]) (h_q := h_228) (cl_q := 0) (sl_q := 0) rfl ?_
        refine fw_gf rfl rfl g_228_17 rfl ?_
        refine ik_Wk 2 (pc_q := 20) (loc_q := [some (.ref 17), some (fI p), some (fI i), some (fI (l1_226 / 1000)), some (fI (-1))]) (st_q := [fI (l1_226 / 1000), fI 2, .ref 20]) (h_q := h_228) (cl_q := 0) (sl_q := 0) rfl ?_
        refine fx_ias (z := 2) rfl g_228_20 (by decide +kernel) (Nat.le_of_ble_eq_true rfl) (by decide +kernel) ?_
        intro h_229 e_229 f_229 l_229
        have k_229 : cL h_229 := l_229.trans k_228
        have fr_229 := hfr_wb fr_228 f_229 l_229 rfl
        clear l_229
        have g_229_7 := (f_229 7 (Nat.ne_of_beq_eq_false rfl)).trans g_228_7
        have g_229_11 := (f_229 11 (Nat.ne_of_beq_eq_false rfl)).trans g_228_11
        have g_229_12 := (f_229 12 (Nat.ne_of_beq_eq_false rfl)).trans g_228_12
        have g_229_13 := (f_229 13 (Nat.ne_of_beq_eq_false rfl)).trans g_228_13
        have g_229_15 := (f_229 15 (Nat.ne_of_beq_eq_false rfl)).trans g_228_15
        have g_229_17 := (f_229 17 (Nat.ne_of_beq_eq_false rfl)).trans g_228_17
        have g_229_18 := (f_229 18 (Nat.ne_of_beq_eq_false rfl)).trans g_228_18
        have g_229_19 := (f_229 19 (Nat.ne_of_beq_eq_false rfl)).trans g_228_19
        have g_229_21 := mf_cv_f g_228_21 (f_229 21 (Nat.ne_of_beq_eq_false rfl)) (f_229 22 (Nat.ne_of_beq_eq_false rfl)) (f_229 23 (Nat.ne_of_beq_eq_false rfl)) (f_229 24 (Nat.ne_of_beq_eq_false rfl))
        have g_229_33 := mf_cv_f g_228_33 (f_229 33 (Nat.ne_of_beq_eq_false rfl)) (f_229 34 (Nat.ne_of_beq_eq_false rfl)) (f_229 35 (Nat.ne_of_beq_eq_false rfl)) (f_229 36 (Nat.ne_of_beq_eq_false rfl))
        have g_229_20 : cE h_229 20 (.inl (.int, fA [p, i, l1_226 / 1000, z3])) := e_229
        refine ik_Wk 1 (pc_q := 22) (loc_q := [some (.ref 17), some (fI p), some (fI i), some (fI (l1_226 / 1000)), some (fI (-1))]) (st_q := [.ref 17]) (h_q := h_229) (cl_q := 0) (sl_q := 0) rfl ?_
        refine fw_gf rfl rfl g_229_17 rfl ?_
        refine ik_Wk 2 (pc_q := 28) (loc_q := [some (.ref 17), some (fI p), some (fI i), some (fI (l1_226 / 1000)), some (fI (-1))]) (st_q := [fI (-1), fI 3, .ref 20]) (h_q := h_229) (cl_q := 0) (sl_q := 0) rfl ?_
        refine fx_ias (z := 3) rfl g_229_20 (by decide +kernel) (Nat.le_of_ble_eq_true rfl) (by decide +kernel) ?_
        intro h_230 e_230 f_230 l_230
        have k_230 : cL h_230 := l_230.trans k_229
        have fr_230 := hfr_wb fr_229 f_230 l_230 rfl
        clear l_230
        have g_230_7 := (f_230 7 (Nat.ne_of_beq_eq_false rfl)).trans g_229_7
        have g_230_11 := (f_230 11 (Nat.ne_of_beq_eq_false rfl)).trans g_229_11
        have g_230_12 := (f_230 12 (Nat.ne_of_beq_eq_false rfl)).trans g_229_12
        have g_230_13 := (f_230 13 (Nat.ne_of_beq_eq_false rfl)).trans g_229_13
        have g_230_15 := (f_230 15 (Nat.ne_of_beq_eq_false rfl)).trans g_229_15
        have g_230_17 := (f_230 17 (Nat.ne_of_beq_eq_false rfl)).trans g_229_17
        have g_230_18 := (f_230 18 (Nat.ne_of_beq_eq_false rfl)).trans g_229_18
        have g_230_19 := (f_230 19 (Nat.ne_of_beq_eq_false rfl)).trans g_229_19
        have g_230_21 := mf_cv_f g_229_21 (f_230 21 (Nat.ne_of_beq_eq_false rfl)) (f_230 22 (Nat.ne_of_beq_eq_false rfl)) (f_230 23 (Nat.ne_of_beq_eq_false rfl)) (f_230 24 (Nat.ne_of_beq_eq_false rfl))
        have g_230_33 := mf_cv_f g_229_33 (f_230 33 (Nat.ne_of_beq_eq_false rfl)) (f_230 34 (Nat.ne_of_beq_eq_false rfl)) (f_230 35 (Nat.ne_of_beq_eq_false rfl)) (f_230 36 (Nat.ne_of_beq_eq_false rfl))
        have g_230_20 : cE h_230 20 (.inl (.int, fA [p, i, l1_226 / 1000, -1])) := e_230
        refine ik_Wret rfl rfl ⟨_, _, rfl, rfl, ?_⟩
        refine ik_Wk 0 (pc_q := 135) (loc_q := [some (.ref 17), some (fI 1), some (fI m), some (fI (l1_226 / 1000)), some (fI p), some (fI i), some (fI fa), some (fI i)]) (st_q := []) (h_q := h_230) (cl_q := 0) (sl_q := 0) rfl ?_
        refine fw_inc (a := i) (loc_q := [some (.ref 17), some (fI 1), some (fI m), some (fI (l1_226 / 1000)), some (fI p), some (fI (i + 1)), some (fI fa), some (fI i)]) rfl rfl (Nat.le_of_ble_eq_true rfl) rfl ?_
        refine ik_Wk 1 (pc_q := 49) (loc_q := [some (.ref 17), some (fI 1), some (fI m), some (fI (l1_226 / 1000)), some (fI p), some (fI (i + 1)), some (fI fa), some (fI i)]) (st_q := []) (h_q := h_230) (cl_q := 0) (sl_q := 0) rfl ?_
        have e1 : (m + 1 - i).toNat = (m + 1 - (i + 1)).toNat + 1 := by omega
        have he2 : X = (mk_bk (mk_vb W pl ka pa fa kb pb fb 1) p (m + 1 - (i + 1)).toNat (i + 1) p i (l1_226 / 1000)) := by
          rw [he, e1]
          show (if (mk_vb W pl ka pa fa kb pb fb 1) p i < l then _ else _) = _
          rw [if_pos (by omega), ev]
        exact ih (i + 1) p i (l1_226 / 1000) p i (l1_226 / 1000) (-1) l0_226 l1_226 l2_226 ua'_226 ub'_226 (some (fI fa)) (some (fI i)) h_230 g_230_7 g_230_11 n11 g_230_12 n12 g_230_13 n13 g_230_15 g_230_17 g_230_18 g_230_19 g_230_20 g_230_21 g_230_33 k_230 fr_230 (by omega) (by omega) (Or.inr ⟨rfl, rfl, rfl⟩) he2 rfl rfl (by omega)

theorem cs_best1L {h : List ik_E} {pl : Int} {lo : Int} {s : Nat} {m : Int} {ka : Int} {pa : Int} {fa : Int} {kb : Int} {pb : Int} {fb : Int} {bo : Int} {la : Int} {lb : Int} {t0 : Int} {t1 : Int} {t2 : Int} {t3 : Int} {wg : List Int} {wc : List Int} {we : List Int} {W : Int → List (Int × Int)} (q0 : 2 ≤ pl ∧ pl ≤ 12) (q1 : 0 ≤ ka ∧ ka ≤ 2 ∧ 0 ≤ kb ∧ kb ≤ 2) (q2 : 0 ≤ pa ∧ pa < pl - 1) (q3 : 0 ≤ pb ∧ pb < pl - 1) (q4 : 0 ≤ fa ∧ fa ≤ 30 ∧ 0 ≤ fb ∧ fb ≤ 30) (q5 : ∀ x : Int, (0 : Int) ≤ x → x < pl - 1 → mx_wy wg wc we x (W x)) (q6 : ∀ x : Int, (0 : Int) ≤ x → x < pl - 1 → mx_ok pl (W x)) (q7 : (0 : Int) ≤ m ∧ m ≤ (10 : Int))  : ∀ (k : Nat) (p : Int) (x : Int) (y : Int) (l : Int) (z0 : Int) (z1 : Int) (z2 : Int) (z3 : Int) (l0 : Int) (l1 : Int) (l2 : Int) (uo : Int) (x5 : Option Value) (x6 : Option Value) (x7 : Option Value) (u : List ik_E) (u7 : cE u 7 (.inr (0, [fI pl, fI ((s : Nat) : Int), fI lo, .ref 8, .ref 9, .ref 10, .ref 11, .ref 12, .ref 13]))) (u11 : cE u 11 (.inl (.int, fA wg))) (n11 : wg.length = (60 : Nat)) (u12 : cE u 12 (.inl (.int, fA wc))) (n12 : wc.length = (60 : Nat)) (u13 : cE u 13 (.inl (.int, fA we))) (n13 : we.length = (12 : Nat)) (u15 : cE u 15 (.inl (.int, fA [ka, pa, fa, kb, pb, fb]))) (u17 : cE u 17 (.inr (8, [.ref 7, .ref 15, .ref 18, .ref 19, fJ l2, .ref 20]))) (u18 : cE u 18 (.inl (.object "SlowerCork$Course", [.ref 21, .ref 25, .ref 29, .ref 33, .ref 37, .ref 41]))) (u19 : cE u 19 (.inl (.long, fL [l0, l1]))) (u20 : cE u 20 (.inl (.int, fA [z0, z1, z2, z3]))) (u21 : mf_cv u 21 W pl ka pa uo) (u33 : mf_cr u 33 ) (ul : u.length = (94 : Nat)) (F : hfr [17, 19, 20, 21, 22, 23, 24, 33, 34, 35, 36] h u) (hp : (0 : Int) ≤ p ∧ p ≤ pl - 1) (hl : (0 : Int) ≤ l ∧ l ≤ (1000001 : Int)) (hz : mk_fs (p = 0) x y l z0 z1 z2) (he : (mk_bp (mk_vb W pl ka pa fa kb pb fb 1) (m.toNat + 1) (pl - 1).toNat 0 0 0 1000001) = mk_bp (mk_vb W pl ka pa fa kb pb fb 1) (m.toNat + 1) (pl - 1 - p).toNat p x y l) (w5 : ik_wl 94 x5 = true) (w6 : ik_wl 94 x6 = true) (w7 : ik_wl 94 x7 = true) (hk : pl - p < (k : Int)), ik_G 83 13 [some (.ref 17), some (fI 1), some (fI m), some (fI l), some (fI p), x5, x6, x7] [] u (fun rv h_q => ∃ (l0 : Int) (l1 : Int) (l2 : Int) (t' : Int), rv = [] ∧ cE h_q 17 (.inr (8, [.ref 7, .ref 15, .ref 18, .ref 19, fJ l2, .ref 20])) ∧ cE h_q 19 (.inl (.long, fL [l0, l1])) ∧ cE h_q 20 (.inl (.int, fA [(mk_bp (mk_vb W pl ka pa fa kb pb fb 1) (m.toNat + 1) (pl - 1).toNat 0 0 0 1000001).1, (mk_bp (mk_vb W pl ka pa fa kb pb fb 1) (m.toNat + 1) (pl - 1).toNat 0 0 0 1000001).2.1, (mk_bp (mk_vb W pl ka pa fa kb pb fb 1) (m.toNat + 1) (pl - 1).toNat 0 0 0 1000001).2.2, t'])) ∧ mf_cr h_q 21  ∧ mf_cr h_q 33  ∧ hfr [17, 19, 20, 21, 22, 23, 24, 33, 34, 35, 36] h h_q) := by
  intro k
  induction k with
  | zero => intro p x y l z0 z1 z2 z3 l0 l1 l2 uo x5 x6 x7 u u7 u11 n11 u12 n12 u13 n13 u15 u17 u18 u19 u20 u21 u33 ul F hp hl hz he w5 w6 w7 hk; omega
  | succ k ih =>
    intro p x y l z0 z1 z2 z3 l0 l1 l2 uo x5 x6 x7 u u7 u11 n11 u12 n12 u13 n13 u15 u17 u18 u19 u20 u21 u33 ul F hp hl hz he w5 w6 w7 hk
    refine ik_Wk 2 (pc_q := 16) (loc_q := [some (.ref 17), some (fI 1), some (fI m), some (fI l), some (fI p), x5, x6, x7]) (st_q := [.ref 17, fI p]) (h_q := u) (cl_q := 0) (sl_q := 0) rfl ?_
    refine fw_gf rfl rfl u17 rfl ?_
    refine ik_Wc 2 1 0 [.ref 7] [fI p] rfl rfl rfl (by decide +kernel) rfl rfl (fw_rec ul (fw_ftx rfl (wv_c rfl wv_n) (wl_c rfl (wl_c rfl (wl_c rfl (wl_c rfl (wl_c rfl (wl_c w5 (wl_c w6 (wl_c w7 wl_n))))))))) u7 rfl (by decide +kernel)) ?_
    refine ik_Wk 0 (pc_q := 0) (loc_q := [some (.ref 7)]) (st_q := []) (h_q := u) (cl_q := 0) (sl_q := 0) rfl ?_
    refine ik_Wk 1 (pc_q := 1) (loc_q := [some (.ref 7)]) (st_q := [.ref 7]) (h_q := u) (cl_q := 0) (sl_q := 0) rfl ?_
    refine fw_gf rfl rfl u7 rfl ?_
    refine ik_Wk 1 (pc_q := 5) (loc_q := [some (.ref 7)]) (st_q := [fI 1, fI pl]) (h_q := u) (cl_q := 0) (sl_q := 0) rfl ?_
    refine fw_sub rfl ?_
    refine ik_Wret rfl rfl ⟨_, _, rfl, rfl, ?_⟩
    refine ik_Wk 0 (pc_q := 22) (loc_q := [some (.ref 17), some (fI 1), some (fI m), some (fI l), some (fI p), x5, x6, x7]) (st_q := [fI (pl - 1), fI p]) (h_q := u) (cl_q := 0) (sl_q := 0) rfl ?_
    refine fw_ic_ge rfl rfl (by omega) (by omega) (by omega) (by omega) (fun hc1 => ?_) (fun hc1 => ?_)
    · have e0 : (pl - 1 - p).toNat = 0 := by omega
      rw [e0] at he
      have hz2 : z0 = x ∧ z1 = y ∧ z2 = l := hz.elim (fun w => absurd w (by omega)) id
      obtain ⟨ez0, ez1, ez2⟩ := hz2
      subst ez0
      subst ez1
      subst ez2
      rw [he]
      exact ik_Wret rfl rfl ⟨_, _, rfl, rfl, rfl, rfl, ⟨l0, l1, l2, z3, rfl, u17, u19, u20, (mf_cv_r u21), u33, F⟩⟩
    · refine ik_Wk 2 (pc_q := 27) (loc_q := [some (.ref 17), some (fI 1), some (fI m), some (fI l), some (fI p), x5, x6, x7]) (st_q := [fI 1, .ref 17]) (h_q := u) (cl_q := 0) (sl_q := 0) rfl ?_
      refine ik_Wc 77 2 0 [.ref 17, fI 1] [] rfl rfl rfl (by decide +kernel) rfl rfl (fw_rec ul (fw_ftx rfl wv_n (wl_c rfl (wl_c rfl (wl_c rfl (wl_c rfl (wl_c rfl (wl_c w5 (wl_c w6 (wl_c w7 wl_n))))))))) u17 rfl (by decide +kernel)) ?_
      refine ik_Wk 0 (pc_q := 0) (loc_q := [some (.ref 17), some (fI 1)]) (st_q := []) (h_q := u) (cl_q := 0) (sl_q := 0) rfl ?_
      refine ik_Wk 1 (pc_q := 1) (loc_q := [some (.ref 17), some (fI 1)]) (st_q := [.ref 17]) (h_q := u) (cl_q := 0) (sl_q := 0) rfl ?_
      refine fw_gf rfl rfl u17 rfl ?_
      refine ik_Wk 2 (pc_q := 6) (loc_q := [some (.ref 17), some (fI 1)]) (st_q := [fI 3, fI 1, .ref 18]) (h_q := u) (cl_q := 0) (sl_q := 0) rfl ?_
      refine fw_mul rfl ?_
      refine fx_aal (z := 3) rfl u18 (by decide +kernel) (by decide +kernel) rfl ?_
      refine ik_Wret rfl rfl ⟨_, _, rfl, rfl, ?_⟩
      refine ik_Wk 0 (pc_q := 30) (loc_q := [some (.ref 17), some (fI 1), some (fI m), some (fI l), some (fI p), x5, x6, x7]) (st_q := [.ref 33]) (h_q := u) (cl_q := 0) (sl_q := 0) rfl ?_
      refine ik_Wk 1 (pc_q := 31) (loc_q := [some (.ref 17), some (fI 1), some (fI m), some (fI l), some (fI p), x5, x6, x7]) (st_q := [.ref 17, .ref 33]) (h_q := u) (cl_q := 0) (sl_q := 0) rfl ?_
      refine fw_gf rfl rfl u17 rfl ?_
      refine ik_Wk 2 (pc_q := 36) (loc_q := [some (.ref 17), some (fI 1), some (fI m), some (fI l), some (fI p), x5, x6, x7]) (st_q := [fI 3, fI 1, .ref 15, .ref 33]) (h_q := u) (cl_q := 0) (sl_q := 0) rfl ?_
      refine fw_mul rfl ?_
      refine ik_Wk 1 (pc_q := 38) (loc_q := [some (.ref 17), some (fI 1), some (fI m), some (fI l), some (fI p), x5, x6, x7]) (st_q := [fI 0, fI 3, .ref 15, .ref 33]) (h_q := u) (cl_q := 0) (sl_q := 0) rfl ?_
      refine fw_add rfl ?_
      refine fw_ial (z := 3) rfl u15 (by decide +kernel) (Nat.le_of_ble_eq_true rfl) (by decide +kernel) ?_
      refine ik_Wk 0 (pc_q := 40) (loc_q := [some (.ref 17), some (fI 1), some (fI m), some (fI l), some (fI p), x5, x6, x7]) (st_q := [fI kb, .ref 33]) (h_q := u) (cl_q := 0) (sl_q := 0) rfl ?_
      refine ik_Wk 1 (pc_q := 42) (loc_q := [some (.ref 17), some (fI 1), some (fI m), some (fI l), some (fI p), x5, x6, x7]) (st_q := [fI p, fI kb, .ref 33]) (h_q := u) (cl_q := 0) (sl_q := 0) rfl ?_
      refine fw_call 30 3 0 [.ref 33, fI kb, fI p] [] rfl rfl rfl (Nat.le_of_ble_eq_true rfl) rfl rfl (fw_rec ul (fw_ftx rfl wv_n (wl_c rfl (wl_c rfl (wl_c rfl (wl_c rfl (wl_c rfl (wl_c w5 (wl_c w6 (wl_c w7 wl_n))))))))) (mf_cr_o u33).choose_spec rfl (by decide +kernel)) (cs_setIn (C := 33) (pl := pl) (lo := lo) (s := s) (kd := kb) (qp := p) (W := W) (by omega) (by omega) (by omega) u7 u33 ul) ?_
      rintro _ h_231 ⟨rfl, e_231_C, F_231⟩
      have k_231 : cL h_231 := F_231.1.trans ul
      have fr_231 := hfr_cb F F_231 rfl
      have g_231_7 := (hfr_g F_231 7 rfl).trans u7
      have g_231_11 := (hfr_g F_231 11 rfl).trans u11
      have g_231_12 := (hfr_g F_231 12 rfl).trans u12
      have g_231_13 := (hfr_g F_231 13 rfl).trans u13
      have g_231_15 := (hfr_g F_231 15 rfl).trans u15
      have g_231_17 := (hfr_g F_231 17 rfl).trans u17
      have g_231_18 := (hfr_g F_231 18 rfl).trans u18
      have g_231_19 := (hfr_g F_231 19 rfl).trans u19
      have g_231_20 := (hfr_g F_231 20 rfl).trans u20
      have g_231_21 := mf_cv_f u21 (hfr_g F_231 21 rfl) (hfr_g F_231 22 rfl) (hfr_g F_231 23 rfl) (hfr_g F_231 24 rfl)
      have g_231_33 : mf_cv h_231 33 W pl kb p 0 := e_231_C
      refine ik_Wk 0 (pc_q := 45) (loc_q := [some (.ref 17), some (fI 1), some (fI m), some (fI l), some (fI p), x5, x6, x7]) (st_q := [.ref 33]) (h_q := h_231) (cl_q := 0) (sl_q := 0) rfl ?_
      refine ik_Wk 3 (pc_q := 49) (loc_q := [some (.ref 17), some (fI 1), some (fI m), some (fI l), some (fI p), some (fI 0), x6, x7]) (st_q := []) (h_q := h_231) (cl_q := 0) (sl_q := 0) rfl ?_
      refine cs_best1I (pl := pl) (lo := lo) (s := s) (m := m) (ka := ka) (pa := pa) (fa := fa) (kb := kb) (pb := pb) (fb := fb) (bo := bo) (la := la) (lb := lb) (t0 := t0) (t1 := t1) (t2 := t2) (t3 := t3) (wg := wg) (wc := wc) (we := we) (W := W) q0 q1 q2 q3 q4 q5 q6 q7 p (by omega) (mk_bk (mk_vb W pl ka pa fa kb pb fb 1) p (m.toNat + 1) 0 x y l) (R := (fun rv h_q => ∃ (l0 : Int) (l1 : Int) (l2 : Int) (t' : Int), rv = [] ∧ cE h_q 17 (.inr (8, [.ref 7, .ref 15, .ref 18, .ref 19, fJ l2, .ref 20])) ∧ cE h_q 19 (.inl (.long, fL [l0, l1])) ∧ cE h_q 20 (.inl (.int, fA [(mk_bp (mk_vb W pl ka pa fa kb pb fb 1) (m.toNat + 1) (pl - 1).toNat 0 0 0 1000001).1, (mk_bp (mk_vb W pl ka pa fa kb pb fb 1) (m.toNat + 1) (pl - 1).toNat 0 0 0 1000001).2.1, (mk_bp (mk_vb W pl ka pa fa kb pb fb 1) (m.toNat + 1) (pl - 1).toNat 0 0 0 1000001).2.2, t'])) ∧ mf_cr h_q 21  ∧ mf_cr h_q 33  ∧ hfr [17, 19, 20, 21, 22, 23, 24, 33, 34, 35, 36] h h_q)) (fun h_232 x_232 y_232 l_232 z0_232 z1_232 z2_232 z3_232 l0_232 l1_232 l2_232 uo_232 i2_232 uw_232 x6_232 x7_232 g_232_7 g_232_11 m_232_11 g_232_12 m_232_12 g_232_13 m_232_13 g_232_15 g_232_17 g_232_18 g_232_19 g_232_20 g_232_21 g_232_33 k_232 fr_232 hl_232 hz_232 hX_232 w6_232 w7_232 => ?_) (m.toNat + 2) 0 x y l z0 z1 z2 z3 l0 l1 l2 uo 0 x6 x7 h_231 g_231_7 g_231_11 n11 g_231_12 n12 g_231_13 n13 g_231_15 g_231_17 g_231_18 g_231_19 g_231_20 g_231_21 g_231_33 k_231 fr_231 (by omega) hl (hz.elim (fun w => Or.inl ⟨⟨w.1, rfl⟩, w.2⟩) Or.inr) (by rw [show (m + 1 - 0).toNat = m.toNat + 1 by omega]) w6 w7 (by omega)
      refine fw_inc (a := p) (loc_q := [some (.ref 17), some (fI 1), some (fI m), some (fI l_232), some (fI (p + 1)), some (fI i2_232), x6_232, x7_232]) rfl rfl (Nat.le_of_ble_eq_true rfl) rfl ?_
      refine ik_Wk 1 (pc_q := 13) (loc_q := [some (.ref 17), some (fI 1), some (fI m), some (fI l_232), some (fI (p + 1)), some (fI i2_232), x6_232, x7_232]) (st_q := []) (h_q := h_232) (cl_q := 0) (sl_q := 0) rfl ?_
      exact ih  (p + 1) x_232 y_232 l_232 z0_232 z1_232 z2_232 z3_232 l0_232 l1_232 l2_232 uo_232 (some (fI i2_232)) x6_232 x7_232 h_232 g_232_7 g_232_11 m_232_11 g_232_12 m_232_12 g_232_13 m_232_13 g_232_15 g_232_17 g_232_18 g_232_19 g_232_20 g_232_21 (mf_cv_r g_232_33) k_232 fr_232 (by omega) hl_232 (Or.inr hz_232) (by rw [he, show (pl - 1 - p).toNat = (pl - 1 - (p + 1)).toNat + 1 by omega]; show mk_bp (mk_vb W pl ka pa fa kb pb fb 1) (m.toNat + 1) _ (p + 1) _ _ _ = _; rw [hX_232]) rfl w6_232 w7_232 (by omega)

theorem cs_best1 {h : List ik_E} {pl : Int} {lo : Int} {s : Nat} {m : Int} {ka : Int} {pa : Int} {fa : Int} {kb : Int} {pb : Int} {fb : Int} {bo : Int} {la : Int} {lb : Int} {t0 : Int} {t1 : Int} {t2 : Int} {t3 : Int} {wg : List Int} {wc : List Int} {we : List Int} {W : Int → List (Int × Int)} (q0 : 2 ≤ pl ∧ pl ≤ 12) (q1 : 0 ≤ ka ∧ ka ≤ 2 ∧ 0 ≤ kb ∧ kb ≤ 2) (q2 : 0 ≤ pa ∧ pa < pl - 1) (q3 : 0 ≤ pb ∧ pb < pl - 1) (q4 : 0 ≤ fa ∧ fa ≤ 30 ∧ 0 ≤ fb ∧ fb ≤ 30) (q5 : ∀ x : Int, (0 : Int) ≤ x → x < pl - 1 → mx_wy wg wc we x (W x)) (q6 : ∀ x : Int, (0 : Int) ≤ x → x < pl - 1 → mx_ok pl (W x)) (q7 : (0 : Int) ≤ m ∧ m ≤ (10 : Int)) (h7 : cE h 7 (.inr (0, [fI pl, fI ((s : Nat) : Int), fI lo, .ref 8, .ref 9, .ref 10, .ref 11, .ref 12, .ref 13]))) (h11 : cE h 11 (.inl (.int, fA wg))) (n11 : wg.length = (60 : Nat)) (h12 : cE h 12 (.inl (.int, fA wc))) (n12 : wc.length = (60 : Nat)) (h13 : cE h 13 (.inl (.int, fA we))) (n13 : we.length = (12 : Nat)) (h15 : cE h 15 (.inl (.int, fA [ka, pa, fa, kb, pb, fb]))) (h17 : cE h 17 (.inr (8, [.ref 7, .ref 15, .ref 18, .ref 19, fJ bo, .ref 20]))) (h18 : cE h 18 (.inl (.object "SlowerCork$Course", [.ref 21, .ref 25, .ref 29, .ref 33, .ref 37, .ref 41]))) (h19 : cE h 19 (.inl (.long, fL [la, lb]))) (h20 : cE h 20 (.inl (.int, fA [t0, t1, t2, t3]))) (h21 : mf_cr h 21 ) (h33 : mf_cr h 33 ) (hl : h.length = (94 : Nat)) : ik_F 83 [.ref 17, fI 1, fI m] h (fun rv h_q => ∃ (l0 : Int) (l1 : Int) (l2 : Int) (t' : Int), rv = [] ∧ cE h_q 17 (.inr (8, [.ref 7, .ref 15, .ref 18, .ref 19, fJ l2, .ref 20])) ∧ cE h_q 19 (.inl (.long, fL [l0, l1])) ∧ cE h_q 20 (.inl (.int, fA [(mk_bp (mk_vb W pl ka pa fa kb pb fb 1) (m.toNat + 1) (pl - 1).toNat 0 0 0 1000001).1, (mk_bp (mk_vb W pl ka pa fa kb pb fb 1) (m.toNat + 1) (pl - 1).toNat 0 0 0 1000001).2.1, (mk_bp (mk_vb W pl ka pa fa kb pb fb 1) (m.toNat + 1) (pl - 1).toNat 0 0 0 1000001).2.2, t'])) ∧ mf_cr h_q 21  ∧ mf_cr h_q 33  ∧ hfr [17, 19, 20, 21, 22, 23, 24, 33, 34, 35, 36] h h_q) := by
  refine ik_Wk 3 (pc_q := 3) (loc_q := [some (.ref 17), some (fI 1), some (fI m), none, none, none, none, none]) (st_q := [fI 1, fI 1, .ref 17]) (h_q := h) (cl_q := 0) (sl_q := 0) rfl ?_
  refine fw_sub rfl ?_
  refine ik_Wc 78 2 0 [.ref 17, fI 0] [] rfl rfl rfl (by decide +kernel) rfl rfl (fw_rec hl rfl h17 rfl (Nat.le_of_ble_eq_true rfl)) ?_
  refine ik_Wk 0 (pc_q := 0) (loc_q := [some (.ref 17), some (fI 0)]) (st_q := []) (h_q := h) (cl_q := 0) (sl_q := 0) rfl ?_
  refine ik_Wk 2 (pc_q := 2) (loc_q := [some (.ref 17), some (fI 0)]) (st_q := [fI 0, .ref 17]) (h_q := h) (cl_q := 0) (sl_q := 0) rfl ?_
  refine ik_Wc 77 2 0 [.ref 17, fI 0] [] rfl rfl rfl (by decide +kernel) rfl rfl (fw_rec hl rfl h17 rfl (Nat.le_of_ble_eq_true rfl)) ?_
  refine ik_Wk 0 (pc_q := 0) (loc_q := [some (.ref 17), some (fI 0)]) (st_q := []) (h_q := h) (cl_q := 0) (sl_q := 0) rfl ?_
  refine ik_Wk 1 (pc_q := 1) (loc_q := [some (.ref 17), some (fI 0)]) (st_q := [.ref 17]) (h_q := h) (cl_q := 0) (sl_q := 0) rfl ?_
  refine fw_gf rfl rfl h17 rfl ?_
  refine ik_Wk 2 (pc_q := 6) (loc_q := [some (.ref 17), some (fI 0)]) (st_q := [fI 3, fI 0, .ref 18]) (h_q := h) (cl_q := 0) (sl_q := 0) rfl ?_
  refine fw_mul rfl ?_
  refine fx_aal (z := 0) rfl h18 (by decide +kernel) (by decide +kernel) rfl ?_
  refine ik_Wret rfl rfl ⟨_, _, rfl, rfl, ?_⟩
  refine ik_Wk 0 (pc_q := 5) (loc_q := [some (.ref 17), some (fI 0)]) (st_q := [.ref 21]) (h_q := h) (cl_q := 0) (sl_q := 0) rfl ?_
  refine ik_Wk 1 (pc_q := 6) (loc_q := [some (.ref 17), some (fI 0)]) (st_q := [.ref 17, .ref 21]) (h_q := h) (cl_q := 0) (sl_q := 0) rfl ?_
  refine fw_gf rfl rfl h17 rfl ?_
  refine ik_Wk 2 (pc_q := 11) (loc_q := [some (.ref 17), some (fI 0)]) (st_q := [fI 3, fI 0, .ref 15, .ref 21]) (h_q := h) (cl_q := 0) (sl_q := 0) rfl ?_
  refine fw_mul rfl ?_
  refine ik_Wk 1 (pc_q := 13) (loc_q := [some (.ref 17), some (fI 0)]) (st_q := [fI 0, fI 0, .ref 15, .ref 21]) (h_q := h) (cl_q := 0) (sl_q := 0) rfl ?_
  refine fw_add rfl ?_
  refine fw_ial (z := 0) rfl h15 (by decide +kernel) (Nat.le_of_ble_eq_true rfl) (by decide +kernel) ?_
  refine ik_Wk 0 (pc_q := 15) (loc_q := [some (.ref 17), some (fI 0)]) (st_q := [fI ka, .ref 21]) (h_q := h) (cl_q := 0) (sl_q := 0) rfl ?_
  refine ik_Wk 1 (pc_q := 16) (loc_q := [some (.ref 17), some (fI 0)]) (st_q := [.ref 17, fI ka, .ref 21]) (h_q := h) (cl_q := 0) (sl_q := 0) rfl ?_
  refine fw_gf rfl rfl h17 rfl ?_
  refine ik_Wk 2 (pc_q := 21) (loc_q := [some (.ref 17), some (fI 0)]) (st_q := [fI 3, fI 0, .ref 15, fI ka, .ref 21]) (h_q := h) (cl_q := 0) (sl_q := 0) rfl ?_
  refine fw_mul rfl ?_
  refine ik_Wk 1 (pc_q := 23) (loc_q := [some (.ref 17), some (fI 0)]) (st_q := [fI 1, fI 0, .ref 15, fI ka, .ref 21]) (h_q := h) (cl_q := 0) (sl_q := 0) rfl ?_
  refine fw_add rfl ?_
  refine fw_ial (z := 1) rfl h15 (by decide +kernel) (Nat.le_of_ble_eq_true rfl) (by decide +kernel) ?_
  refine ik_Wk 0 (pc_q := 25) (loc_q := [some (.ref 17), some (fI 0)]) (st_q := [fI pa, fI ka, .ref 21]) (h_q := h) (cl_q := 0) (sl_q := 0) rfl ?_
  refine fw_call 30 3 0 [.ref 21, fI ka, fI pa] [] rfl rfl rfl (Nat.le_of_ble_eq_true rfl) rfl rfl (fw_rec hl rfl (mf_cr_o h21).choose_spec rfl (by decide +kernel)) (cs_setIn (C := 21) (pl := pl) (lo := lo) (s := s) (kd := ka) (qp := pa) (W := W) (by omega) (by omega) (by omega) h7 h21 hl) ?_
  rintro _ h_233 ⟨rfl, e_233_C, F_233⟩
  have k_233 : cL h_233 := F_233.1.trans hl
  have fr_233 := hfr_cb (hfr_refl [17, 19, 20, 21, 22, 23, 24, 33, 34, 35, 36] h) F_233 rfl
  have g_233_7 := (hfr_g F_233 7 rfl).trans h7
  have g_233_11 := (hfr_g F_233 11 rfl).trans h11
  have g_233_12 := (hfr_g F_233 12 rfl).trans h12
  have g_233_13 := (hfr_g F_233 13 rfl).trans h13
  have g_233_15 := (hfr_g F_233 15 rfl).trans h15
  have g_233_17 := (hfr_g F_233 17 rfl).trans h17
  have g_233_18 := (hfr_g F_233 18 rfl).trans h18
  have g_233_19 := (hfr_g F_233 19 rfl).trans h19
  have g_233_20 := (hfr_g F_233 20 rfl).trans h20
  have g_233_33 := mf_cr_f h33 (hfr_g F_233 33 rfl) (hfr_g F_233 34 rfl) (hfr_g F_233 35 rfl) (hfr_g F_233 36 rfl)
  have g_233_21 : mf_cv h_233 21 W pl ka pa 0 := e_233_C
  refine ik_Wk 0 (pc_q := 28) (loc_q := [some (.ref 17), some (fI 0)]) (st_q := [.ref 21]) (h_q := h_233) (cl_q := 0) (sl_q := 0) rfl ?_
  refine ik_Wk 1 (pc_q := 29) (loc_q := [some (.ref 17), some (fI 0)]) (st_q := []) (h_q := h_233) (cl_q := 0) (sl_q := 0) rfl ?_
  refine ik_Wret rfl rfl ⟨_, _, rfl, rfl, ?_⟩
  refine ik_Wk 0 (pc_q := 7) (loc_q := [some (.ref 17), some (fI 1), some (fI m), none, none, none, none, none]) (st_q := []) (h_q := h_233) (cl_q := 0) (sl_q := 0) rfl ?_
  refine fw_ld 1000001 rfl rfl (by decide +kernel) ?_
  refine ik_Wk 3 (pc_q := 13) (loc_q := [some (.ref 17), some (fI 1), some (fI m), some (fI 1000001), some (fI 0), none, none, none]) (st_q := []) (h_q := h_233) (cl_q := 0) (sl_q := 0) rfl ?_
  exact cs_best1L (pl := pl) (lo := lo) (s := s) (m := m) (ka := ka) (pa := pa) (fa := fa) (kb := kb) (pb := pb) (fb := fb) (bo := bo) (la := la) (lb := lb) (t0 := t0) (t1 := t1) (t2 := t2) (t3 := t3) (wg := wg) (wc := wc) (we := we) (W := W) q0 q1 q2 q3 q4 q5 q6 q7  (pl.toNat + 1) 0 0 0 1000001 t0 t1 t2 t3 la lb bo 0 none none none h_233 g_233_7 g_233_11 n11 g_233_12 n12 g_233_13 n13 g_233_15 g_233_17 g_233_18 g_233_19 g_233_20 g_233_21 g_233_33 k_233 fr_233 (by omega) (by omega) (Or.inl ⟨rfl, rfl, rfl, rfl⟩) (by rw [Int.sub_zero]) rfl rfl rfl (by omega)

end

/-! 38zk.dug -/
noncomputable section
/-! the class: the least digging (written by wip/fx/u13.py) -/
theorem cs_fairDug {h : List ik_E} {pl : Int} {lo : Int} {s : Nat} {ka : Int} {pa : Int} {fa : Int} {kb : Int} {pb : Int} {fb : Int} {bo : Int} {la : Int} {lb : Int} {t0 : Int} {t1 : Int} {t2 : Int} {t3 : Int} {wg : List Int} {wc : List Int} {we : List Int} {cn : List Int} {go : List Int} {ch : List Int} {p : Int} {a : Int} {b : Int} {n : Int} {e : Int} (q0 : 2 ≤ pl ∧ pl ≤ 12) (q1 : 0 ≤ ka ∧ ka ≤ 2 ∧ 0 ≤ kb ∧ kb ≤ 2) (q2 : 0 ≤ pa ∧ pa < pl - 1) (q3 : 0 ≤ pb ∧ pb < pl - 1) (q4 : 0 ≤ fa ∧ fa ≤ 30 ∧ 0 ≤ fb ∧ fb ≤ 30) (q5 : ∀ x : Int, (0 : Int) ≤ x → x < pl - 1 → mx_wy wg wc we x (mx_w cn go ch s x)) (q6 : mx_rw pl cn go ch) (q7 : True) (q8 : s < 4096) (q9 : (0 : Int) ≤ p ∧ p < pl - 1) (q10 : (0 : Int) ≤ a ∧ a < cn.getD p.toNat 0) (q11 : (0 : Int) ≤ b ∧ b < cn.getD p.toNat 0) (q12 : ¬ a = b) (q13 : (1 : Int) ≤ n ∧ n ≤ (20 : Int)) (q14 : n < ch.getD (4 * p + a).toNat 0) (q15 : (0 : Int) ≤ e ∧ e ≤ (1000000 : Int)) (h7 : cE h 7 (.inr (0, [fI pl, fI ((s : Nat) : Int), fI lo, .ref 8, .ref 9, .ref 10, .ref 11, .ref 12, .ref 13]))) (h8 : cE h 8 (.inl (.int, fA cn))) (n8 : cn.length = (12 : Nat)) (h9 : cE h 9 (.inl (.int, fA go))) (n9 : go.length = (48 : Nat)) (h10 : cE h 10 (.inl (.int, fA ch))) (n10 : ch.length = (48 : Nat)) (h11 : cE h 11 (.inl (.int, fA wg))) (n11 : wg.length = (60 : Nat)) (h12 : cE h 12 (.inl (.int, fA wc))) (n12 : wc.length = (60 : Nat)) (h13 : cE h 13 (.inl (.int, fA we))) (n13 : we.length = (12 : Nat)) (h15 : cE h 15 (.inl (.int, fA [ka, pa, fa, kb, pb, fb]))) (h17 : cE h 17 (.inr (8, [.ref 7, .ref 15, .ref 18, .ref 19, fJ bo, .ref 20]))) (h18 : cE h 18 (.inl (.object "SlowerCork$Course", [.ref 21, .ref 25, .ref 29, .ref 33, .ref 37, .ref 41]))) (h19 : cE h 19 (.inl (.long, fL [la, lb]))) (h20 : cE h 20 (.inl (.int, fA [t0, t1, t2, t3]))) (h21 : mf_cr h 21 ) (h33 : mf_cr h 33 ) (hl : h.length = (94 : Nat)) : ik_F 87 [.ref 17, fI p, fI a, fI b, fI n, fI e] h (fun rv h_q => (∃ (l0 : Int) (l1 : Int) (l2 : Int) (wg' : List Int) (wc' : List Int) (we' : List Int), rv = [fI 1] ∧ cE h_q 10 (.inl (.int, fA ch)) ∧ ch.length = (48 : Nat) ∧ cE h_q 11 (.inl (.int, fA wg')) ∧ wg'.length = (60 : Nat) ∧ cE h_q 12 (.inl (.int, fA wc')) ∧ wc'.length = (60 : Nat) ∧ cE h_q 13 (.inl (.int, fA we')) ∧ we'.length = (12 : Nat) ∧ cE h_q 17 (.inr (8, [.ref 7, .ref 15, .ref 18, .ref 19, fJ l2, .ref 20])) ∧ cE h_q 19 (.inl (.long, fL [l0, l1])) ∧ mf_cr h_q 21  ∧ mf_cr h_q 33  ∧ (∀ x : Int, (0 : Int) ≤ x → x < pl - 1 → mx_wy wg' wc' we' x (mx_w cn go ch s x)) ∧ (mk_gap cn go (mx_sh ch p a b n) s pl ka pa fa kb pb fb ≤ e) ∧ hfr [10, 11, 12, 13, 17, 19, 21, 22, 23, 24, 33, 34, 35, 36] h h_q) ∨ (∃ (l0 : Int) (l1 : Int) (l2 : Int) (wg' : List Int) (wc' : List Int) (we' : List Int), rv = [fI 0] ∧ cE h_q 10 (.inl (.int, fA ch)) ∧ ch.length = (48 : Nat) ∧ cE h_q 11 (.inl (.int, fA wg')) ∧ wg'.length = (60 : Nat) ∧ cE h_q 12 (.inl (.int, fA wc')) ∧ wc'.length = (60 : Nat) ∧ cE h_q 13 (.inl (.int, fA we')) ∧ we'.length = (12 : Nat) ∧ cE h_q 17 (.inr (8, [.ref 7, .ref 15, .ref 18, .ref 19, fJ l2, .ref 20])) ∧ cE h_q 19 (.inl (.long, fL [l0, l1])) ∧ mf_cr h_q 21  ∧ mf_cr h_q 33  ∧ (∀ x : Int, (0 : Int) ≤ x → x < pl - 1 → mx_wy wg' wc' we' x (mx_w cn go ch s x)) ∧ (e < mk_gap cn go (mx_sh ch p a b n) s pl ka pa fa kb pb fb) ∧ hfr [10, 11, 12, 13, 17, 19, 21, 22, 23, 24, 33, 34, 35, 36] h h_q)) := by
  have hs := mx_rw_sum q6 q9.1 q9.2 q10 q11 q12
  have hr := (q6 p q9.1 q9.2).1
  have rw1 := mx_rw_sh q6 (by omega) q9 q10 q11 q12 n10 (show 0 ≤ n by omega) (by omega)
  have ca := (q6 p q9.1 q9.2).2.1 a q10.1 q10.2
  have cb := (q6 p q9.1 q9.2).2.1 b q11.1 q11.2
  have hc := mx_rw_ch q6 p q9.1 q9.2
  have g1 : (mx_sh ch p a b n).getD (4 * p + b).toNat 0 = ch.getD (4 * p + b).toNat 0 + n := by rw [mx_sh_get (by omega) (by omega), if_pos rfl]
  have g2 : (mx_sh ch p a b n).getD (4 * p + a).toNat 0 = ch.getD (4 * p + a).toNat 0 - n := by rw [mx_sh_get (by omega) (by omega), if_neg (by omega), if_pos rfl]
  refine ik_Wk 1 (pc_q := 1) (loc_q := [some (.ref 17), some (fI p), some (fI a), some (fI b), some (fI n), some (fI e)]) (st_q := [.ref 17]) (h_q := h) (cl_q := 0) (sl_q := 0) rfl ?_
  refine fw_gf rfl rfl h17 rfl ?_
  refine ik_Wk 4 (pc_q := 9) (loc_q := [some (.ref 17), some (fI p), some (fI a), some (fI b), some (fI n), some (fI e)]) (st_q := [fI n, fI b, fI a, fI p, .ref 7]) (h_q := h) (cl_q := 0) (sl_q := 0) rfl ?_
  refine fw_call 16 5 0 [.ref 7, fI p, fI a, fI b, fI n] [] rfl rfl rfl (Nat.le_of_ble_eq_true rfl) rfl rfl (fw_rec hl rfl h7 rfl (Nat.le_of_ble_eq_true rfl)) (cs_shift (p := p) (pl := pl) (lo := lo) (s := s) (cn := cn) (go := go) (ch := ch) (wg := wg) (wc := wc) (we := we) (a := a) (b := b) (n := n) (by omega) (by omega) q8 (by omega) hc.2 hc.1 (by omega) (by omega) (by omega) (by omega) (by omega) (by omega) h7 h8 n8 h9 n9 h10 n10 h11 n11 h12 n12 h13 n13 hl) ?_
  rintro _ h_234 ⟨wg'_234, wc'_234, rfl, e_234_10, m_234_10, e_234_11, m_234_11, e_234_12, m_234_12, e_234_13, m_234_13, p_234_0, p_234_1, p_234_2, F_234⟩
  have k_234 : cL h_234 := F_234.1.trans hl
  have fr_234 := hfr_cb (hfr_refl [10, 11, 12, 13, 17, 19, 21, 22, 23, 24, 33, 34, 35, 36] h) F_234 rfl
  have g_234_7 := (hfr_g F_234 7 rfl).trans h7
  have g_234_8 := (hfr_g F_234 8 rfl).trans h8
  have g_234_9 := (hfr_g F_234 9 rfl).trans h9
  have g_234_15 := (hfr_g F_234 15 rfl).trans h15
  have g_234_17 := (hfr_g F_234 17 rfl).trans h17
  have g_234_18 := (hfr_g F_234 18 rfl).trans h18
  have g_234_19 := (hfr_g F_234 19 rfl).trans h19
  have g_234_20 := (hfr_g F_234 20 rfl).trans h20
  have g_234_21 := mf_cr_f h21 (hfr_g F_234 21 rfl) (hfr_g F_234 22 rfl) (hfr_g F_234 23 rfl) (hfr_g F_234 24 rfl)
  have g_234_33 := mf_cr_f h33 (hfr_g F_234 33 rfl) (hfr_g F_234 34 rfl) (hfr_g F_234 35 rfl) (hfr_g F_234 36 rfl)
  have g_234_10 : cE h_234 10 (.inl (.int, fA (mx_sh ch p a b n))) := e_234_10
  have g_234_11 : cE h_234 11 (.inl (.int, fA wg'_234)) := e_234_11
  have g_234_12 : cE h_234 12 (.inl (.int, fA wc'_234)) := e_234_12
  have g_234_13 : cE h_234 13 (.inl (.int, fA (we.set p.toNat (5 * p + ((mx_w cn go (mx_sh ch p a b n) s p).length : Int))))) := e_234_13
  refine ik_Wk 0 (pc_q := 12) (loc_q := [some (.ref 17), some (fI p), some (fI a), some (fI b), some (fI n), some (fI e)]) (st_q := []) (h_q := h_234) (cl_q := 0) (sl_q := 0) rfl ?_
  have wy_234 : ∀ x : Int, 0 ≤ x → x < pl - 1 → mx_wy wg'_234 wc'_234 (we.set p.toNat (5 * p + ((mx_w cn go (mx_sh ch p a b n) s p).length : Int))) x (mx_w cn go (mx_sh ch p a b n) s x) := mx_wy_one (W := (fun x => mx_w cn go ch s x)) (W' := (fun x => mx_w cn go (mx_sh ch p a b n) s x)) q5 (mx_rw_ok q6 _) (by omega) q9 n13 p_234_0 p_234_1 p_234_2 (fun x h0 h1 hx => mx_w_sh (by omega) (by omega) (by omega) n10 (by have := (q6 x h0 h1).1; omega) h0 hx)
  refine ik_Wk 2 (pc_q := 15) (loc_q := [some (.ref 17), some (fI p), some (fI a), some (fI b), some (fI n), some (fI e)]) (st_q := [fI e, .ref 17]) (h_q := h_234) (cl_q := 0) (sl_q := 0) rfl ?_
  refine fw_call 79 2 0 [.ref 17, fI e] [] rfl rfl rfl (Nat.le_of_ble_eq_true rfl) rfl rfl (fw_rec k_234 rfl g_234_17 rfl (Nat.le_of_ble_eq_true rfl)) (cs_raceAsSet (pl := pl) (lo := lo) (s := s) (ka := ka) (pa := pa) (fa := fa) (kb := kb) (pb := pb) (fb := fb) (lim := e) (bo := bo) (la := la) (lb := lb) (wg := wg'_234) (wc := wc'_234) (we := we.set p.toNat (5 * p + ((mx_w cn go (mx_sh ch p a b n) s p).length : Int))) (W := (fun x => mx_w cn go (mx_sh ch p a b n) s x)) (by omega) (by omega) (by omega) (by omega) (by omega) (by omega) wy_234 (mx_rw_ok rw1 _) g_234_7 g_234_11 m_234_11 g_234_12 m_234_12 g_234_13 m_234_13 g_234_15 g_234_17 g_234_18 g_234_19 g_234_21 g_234_33 k_234) ?_
  rintro _ h_235 ⟨l0_235, l1_235, l2_235, rfl, e_235_17, e_235_19, e_235_21, e_235_33, p_235_0, p_235_1, F_235⟩
  have k_235 : cL h_235 := F_235.1.trans k_234
  have fr_235 := hfr_cb fr_234 F_235 rfl
  have g_235_7 := (hfr_g F_235 7 rfl).trans g_234_7
  have g_235_8 := (hfr_g F_235 8 rfl).trans g_234_8
  have g_235_9 := (hfr_g F_235 9 rfl).trans g_234_9
  have g_235_10 := (hfr_g F_235 10 rfl).trans g_234_10
  have g_235_11 := (hfr_g F_235 11 rfl).trans g_234_11
  have g_235_12 := (hfr_g F_235 12 rfl).trans g_234_12
  have g_235_13 := (hfr_g F_235 13 rfl).trans g_234_13
  have g_235_15 := (hfr_g F_235 15 rfl).trans g_234_15
  have g_235_18 := (hfr_g F_235 18 rfl).trans g_234_18
  have g_235_20 := (hfr_g F_235 20 rfl).trans g_234_20
  have g_235_17 : cE h_235 17 (.inr (8, [.ref 7, .ref 15, .ref 18, .ref 19, fJ l2_235, .ref 20])) := e_235_17
  have g_235_19 : cE h_235 19 (.inl (.long, fL [l0_235, l1_235])) := e_235_19
  have g_235_21 : mf_cr h_235 21  := e_235_21
  have g_235_33 : mf_cr h_235 33  := e_235_33
  refine ik_Wk 0 (pc_q := 18) (loc_q := [some (.ref 17), some (fI p), some (fI a), some (fI b), some (fI n), some (fI e)]) (st_q := []) (h_q := h_235) (cl_q := 0) (sl_q := 0) rfl ?_
  have ka_235 := mr_ok_cm (W := (fun x => mx_w cn go (mx_sh ch p a b n) s x)) (k := ka) (mx_rw_ok rw1 _) q2
  have kb_235 := mr_ok_cm (W := (fun x => mx_w cn go (mx_sh ch p a b n) s x)) (k := kb) (mx_rw_ok rw1 _) q3
  have Fa_235 := mr_F_b ka_235 kb_235 fa (show 0 ≤ fb by omega)
  have Fb_235 := mr_F_b kb_235 ka_235 fb (show 0 ≤ fa by omega)
  have hg_235 : mk_gap cn go (mx_sh ch p a b n) s pl ka pa fa kb pb fb = mk_ab (mr_F0 (mf_cm (fun x => mx_w cn go (mx_sh ch p a b n) s x) (pl - 1) ka pa) fa (mf_cm (fun x => mx_w cn go (mx_sh ch p a b n) s x) (pl - 1) kb pb) fb / 1000 - mr_F0 (mf_cm (fun x => mx_w cn go (mx_sh ch p a b n) s x) (pl - 1) kb pb) fb (mf_cm (fun x => mx_w cn go (mx_sh ch p a b n) s x) (pl - 1) ka pa) fa / 1000) := by show mk_ab (mr_w _ _ _ _ 0 - mr_w _ _ _ _ 1) = _; rw [mr_w_0, mr_w_1]
  refine ik_Wk 1 (pc_q := 19) (loc_q := [some (.ref 17), some (fI p), some (fI a), some (fI b), some (fI n), some (fI e)]) (st_q := [.ref 17]) (h_q := h_235) (cl_q := 0) (sl_q := 0) rfl ?_
  refine fw_gf rfl rfl g_235_17 rfl ?_
  refine ik_Wk 4 (pc_q := 27) (loc_q := [some (.ref 17), some (fI p), some (fI a), some (fI b), some (fI n), some (fI e)]) (st_q := [fI n, fI a, fI b, fI p, .ref 7]) (h_q := h_235) (cl_q := 0) (sl_q := 0) rfl ?_
  refine fw_call 16 5 0 [.ref 7, fI p, fI b, fI a, fI n] [] rfl rfl rfl (Nat.le_of_ble_eq_true rfl) rfl rfl (fw_rec k_235 rfl g_235_7 rfl (Nat.le_of_ble_eq_true rfl)) (cs_shift (p := p) (pl := pl) (lo := lo) (s := s) (cn := cn) (go := go) (ch := mx_sh ch p a b n) (wg := wg'_234) (wc := wc'_234) (we := we.set p.toNat (5 * p + ((mx_w cn go (mx_sh ch p a b n) s p).length : Int))) (a := b) (b := a) (n := n) (by omega) (by omega) q8 (by omega) (mx_sh_b hc.2 q10 q11 (by omega) (by omega) (by omega)) hc.1 (by omega) (by omega) (by omega) (by omega) (by omega) (by omega) g_235_7 g_235_8 n8 g_235_9 n9 g_235_10 m_234_10 g_235_11 m_234_11 g_235_12 m_234_12 g_235_13 m_234_13 k_235) ?_
  rintro _ h_236 ⟨wg'_236, wc'_236, rfl, e_236_10, m_236_10, e_236_11, m_236_11, e_236_12, m_236_12, e_236_13, m_236_13, p_236_0, p_236_1, p_236_2, F_236⟩
  have k_236 : cL h_236 := F_236.1.trans k_235
  have fr_236 := hfr_cb fr_235 F_236 rfl
  have g_236_7 := (hfr_g F_236 7 rfl).trans g_235_7
  have g_236_8 := (hfr_g F_236 8 rfl).trans g_235_8
  have g_236_9 := (hfr_g F_236 9 rfl).trans g_235_9
  have g_236_15 := (hfr_g F_236 15 rfl).trans g_235_15
  have g_236_17 := (hfr_g F_236 17 rfl).trans g_235_17
  have g_236_18 := (hfr_g F_236 18 rfl).trans g_235_18
  have g_236_19 := (hfr_g F_236 19 rfl).trans g_235_19
  have g_236_20 := (hfr_g F_236 20 rfl).trans g_235_20
  have g_236_21 := mf_cr_f g_235_21 (hfr_g F_236 21 rfl) (hfr_g F_236 22 rfl) (hfr_g F_236 23 rfl) (hfr_g F_236 24 rfl)
  have g_236_33 := mf_cr_f g_235_33 (hfr_g F_236 33 rfl) (hfr_g F_236 34 rfl) (hfr_g F_236 35 rfl) (hfr_g F_236 36 rfl)
  have g_236_10 : cE h_236 10 (.inl (.int, fA (mx_sh (mx_sh ch p a b n) p b a n))) := e_236_10
  have g_236_11 : cE h_236 11 (.inl (.int, fA wg'_236)) := e_236_11
  have g_236_12 : cE h_236 12 (.inl (.int, fA wc'_236)) := e_236_12
  have g_236_13 : cE h_236 13 (.inl (.int, fA ((we.set p.toNat (5 * p + ((mx_w cn go (mx_sh ch p a b n) s p).length : Int))).set p.toNat (5 * p + ((mx_w cn go (mx_sh (mx_sh ch p a b n) p b a n) s p).length : Int))))) := e_236_13
  refine ik_Wk 0 (pc_q := 30) (loc_q := [some (.ref 17), some (fI p), some (fI a), some (fI b), some (fI n), some (fI e)]) (st_q := []) (h_q := h_236) (cl_q := 0) (sl_q := 0) rfl ?_
  have eb := mx_sh_2 (n := n) (ch := ch) (p := p) (a := a) (b := b) (by omega) (by omega) (by omega) q12 n10
  rw [eb] at g_236_10 g_236_13 p_236_0
  have hl1 : ((we.set p.toNat (5 * p + ((mx_w cn go (mx_sh ch p a b n) s p).length : Int))).set p.toNat (5 * p + ((mx_w cn go ch s p).length : Int))).length = 12 := by rw [List.length_set]; exact m_234_13
  have wy_236 : ∀ x : Int, 0 ≤ x → x < pl - 1 → mx_wy wg'_236 wc'_236 ((we.set p.toNat (5 * p + ((mx_w cn go (mx_sh ch p a b n) s p).length : Int))).set p.toNat (5 * p + ((mx_w cn go ch s p).length : Int))) x (mx_w cn go ch s x) := mx_wy_one (W := (fun x => mx_w cn go (mx_sh ch p a b n) s x)) (W' := (fun x => mx_w cn go ch s x)) wy_234 (mx_rw_ok rw1 _) (by omega) q9 m_234_13 p_236_0 p_236_1 p_236_2 (fun x h0 h1 hx => (mx_w_sh (by omega) (by omega) (by omega) n10 (by have := (q6 x h0 h1).1; omega) h0 hx).symm)
  refine ik_Wk 1 (pc_q := 31) (loc_q := [some (.ref 17), some (fI p), some (fI a), some (fI b), some (fI n), some (fI e)]) (st_q := [.ref 17]) (h_q := h_236) (cl_q := 0) (sl_q := 0) rfl ?_
  refine ik_Wc 76 1 0 [.ref 17] [] rfl rfl rfl (by decide +kernel) rfl rfl (fw_rec k_236 rfl g_236_17 rfl (Nat.le_of_ble_eq_true rfl)) ?_
  refine ik_Wk 0 (pc_q := 0) (loc_q := [some (.ref 17)]) (st_q := []) (h_q := h_236) (cl_q := 0) (sl_q := 0) rfl ?_
  refine ik_Wk 2 (pc_q := 2) (loc_q := [some (.ref 17)]) (st_q := [fI 0, .ref 17]) (h_q := h_236) (cl_q := 0) (sl_q := 0) rfl ?_
  refine ik_Wc 74 2 0 [.ref 17, fI 0] [] rfl rfl rfl (by decide +kernel) rfl rfl (fw_rec k_236 rfl g_236_17 rfl (Nat.le_of_ble_eq_true rfl)) ?_
  refine ik_Wk 0 (pc_q := 0) (loc_q := [some (.ref 17), some (fI 0)]) (st_q := []) (h_q := h_236) (cl_q := 0) (sl_q := 0) rfl ?_
  refine ik_Wk 1 (pc_q := 1) (loc_q := [some (.ref 17), some (fI 0)]) (st_q := [.ref 17]) (h_q := h_236) (cl_q := 0) (sl_q := 0) rfl ?_
  refine fw_gf rfl rfl g_236_17 rfl ?_
  refine ik_Wk 1 (pc_q := 5) (loc_q := [some (.ref 17), some (fI 0)]) (st_q := [fI 0, .ref 19]) (h_q := h_236) (cl_q := 0) (sl_q := 0) rfl ?_
  refine fx_lal (z := 0) rfl g_236_19 (by decide +kernel) (Nat.le_of_ble_eq_true rfl) (by decide +kernel) ?_
  refine ik_Wk 0 (pc_q := 6) (loc_q := [some (.ref 17), some (fI 0)]) (st_q := [fJ l0_235]) (h_q := h_236) (cl_q := 0) (sl_q := 0) rfl ?_
  refine fw_l2 1000 rfl rfl (by decide +kernel) ?_
  refine fx_ldiv rfl (by omega) (by omega) (by omega) (by omega) ?_
  refine fx_l2i rfl ?_
  refine ik_Wret rfl rfl ⟨_, _, rfl, rfl, ?_⟩
  refine ik_Wk 0 (pc_q := 5) (loc_q := [some (.ref 17)]) (st_q := [fI (l0_235 / 1000)]) (h_q := h_236) (cl_q := 0) (sl_q := 0) rfl ?_
  refine ik_Wk 2 (pc_q := 7) (loc_q := [some (.ref 17)]) (st_q := [fI 1, .ref 17, fI (l0_235 / 1000)]) (h_q := h_236) (cl_q := 0) (sl_q := 0) rfl ?_
  refine ik_Wc 74 2 0 [.ref 17, fI 1] [fI (l0_235 / 1000)] rfl rfl rfl (by decide +kernel) rfl rfl (fw_rec k_236 rfl g_236_17 rfl (Nat.le_of_ble_eq_true rfl)) ?_
  refine ik_Wk 0 (pc_q := 0) (loc_q := [some (.ref 17), some (fI 1)]) (st_q := []) (h_q := h_236) (cl_q := 0) (sl_q := 0) rfl ?_
  refine ik_Wk 1 (pc_q := 1) (loc_q := [some (.ref 17), some (fI 1)]) (st_q := [.ref 17]) (h_q := h_236) (cl_q := 0) (sl_q := 0) rfl ?_
  refine fw_gf rfl rfl g_236_17 rfl ?_
  refine ik_Wk 1 (pc_q := 5) (loc_q := [some (.ref 17), some (fI 1)]) (st_q := [fI 1, .ref 19]) (h_q := h_236) (cl_q := 0) (sl_q := 0) rfl ?_
  refine fx_lal (z := 1) rfl g_236_19 (by decide +kernel) (Nat.le_of_ble_eq_true rfl) (by decide +kernel) ?_
  refine ik_Wk 0 (pc_q := 6) (loc_q := [some (.ref 17), some (fI 1)]) (st_q := [fJ l1_235]) (h_q := h_236) (cl_q := 0) (sl_q := 0) rfl ?_
  refine fw_l2 1000 rfl rfl (by decide +kernel) ?_
  refine fx_ldiv rfl (by omega) (by omega) (by omega) (by omega) ?_
  refine fx_l2i rfl ?_
  refine ik_Wret rfl rfl ⟨_, _, rfl, rfl, ?_⟩
  refine ik_Wk 0 (pc_q := 10) (loc_q := [some (.ref 17)]) (st_q := [fI (l1_235 / 1000), fI (l0_235 / 1000)]) (h_q := h_236) (cl_q := 0) (sl_q := 0) rfl ?_
  refine fw_sub rfl ?_
  refine fx_ab rfl rfl rfl ⟨Nat.le_of_ble_eq_true rfl, Nat.le_of_ble_eq_true rfl, Nat.le_of_ble_eq_true rfl⟩ (by omega) (by omega) ?_
  intro mm2 qmm2
  refine ik_Wret rfl rfl ⟨_, _, rfl, rfl, ?_⟩
  refine ik_Wk 0 (pc_q := 34) (loc_q := [some (.ref 17), some (fI p), some (fI a), some (fI b), some (fI n), some (fI e)]) (st_q := [fI mm2]) (h_q := h_236) (cl_q := 0) (sl_q := 0) rfl ?_
  refine ik_Wk 1 (pc_q := 36) (loc_q := [some (.ref 17), some (fI p), some (fI a), some (fI b), some (fI n), some (fI e)]) (st_q := [fI e, fI mm2]) (h_q := h_236) (cl_q := 0) (sl_q := 0) rfl ?_
  refine fw_ic_gt rfl rfl (by omega) (by omega) (by omega) (by omega) (fun hc3 => ?_) (fun hc3 => ?_)
  · refine ik_Wk 1 (pc_q := 44) (loc_q := [some (.ref 17), some (fI p), some (fI a), some (fI b), some (fI n), some (fI e)]) (st_q := [fI 0]) (h_q := h_236) (cl_q := 0) (sl_q := 0) rfl ?_
    exact ik_Wret rfl rfl ⟨_, _, rfl, rfl, rfl, rfl, Or.inr ⟨l0_235, l1_235, l2_235, wg'_236, wc'_236, ((we.set p.toNat (5 * p + ((mx_w cn go (mx_sh ch p a b n) s p).length : Int))).set p.toNat (5 * p + ((mx_w cn go ch s p).length : Int))), rfl, g_236_10, n10, g_236_11, m_236_11, g_236_12, m_236_12, g_236_13, hl1, g_236_17, g_236_19, g_236_21, g_236_33, wy_236, (by rw [hg_235]; unfold mk_ab; split <;> omega), fr_236⟩⟩
  · refine ik_Wk 2 (pc_q := 44) (loc_q := [some (.ref 17), some (fI p), some (fI a), some (fI b), some (fI n), some (fI e)]) (st_q := [fI 1]) (h_q := h_236) (cl_q := 0) (sl_q := 0) rfl ?_
    exact ik_Wret rfl rfl ⟨_, _, rfl, rfl, rfl, rfl, Or.inl ⟨l0_235, l1_235, l2_235, wg'_236, wc'_236, ((we.set p.toNat (5 * p + ((mx_w cn go (mx_sh ch p a b n) s p).length : Int))).set p.toNat (5 * p + ((mx_w cn go ch s p).length : Int))), rfl, g_236_10, n10, g_236_11, m_236_11, g_236_12, m_236_12, g_236_13, hl1, g_236_17, g_236_19, g_236_21, g_236_33, wy_236, (by rw [hg_235]; unfold mk_ab; split <;> omega), fr_236⟩⟩

end

/-! 38zk1.fair -/
noncomputable section
theorem mk_dg {n p a b : Int} (hn : 1 ≤ n ∧ n ≤ 20) (hp : 0 ≤ p ∧ p < 12) (ha : 0 ≤ a ∧ a ≤ 3) (hb : 0 ≤ b ∧ b ≤ 3) : 0 < 10000 * n + 100 * p + 10 * a + b ∧ n = (10000 * n + 100 * p + 10 * a + b) / 10000 ∧ p = (10000 * n + 100 * p + 10 * a + b) / 100 % 100 ∧ a = (10000 * n + 100 * p + 10 * a + b) / 10 % 10 ∧ b = (10000 * n + 100 * p + 10 * a + b) % 10 := by
  have h1 : (10000 * n + 100 * p + 10 * a + b) / 100 = 100 * n + p := by omega
  have h2 : (10000 * n + 100 * p + 10 * a + b) / 10 = 1000 * n + 10 * p + a := by omega
  rw [h1, h2]
  omega
/-- what findFair gives back -/
abbrev cs_fairQ (h : List ik_E) (pl : Int) (lo : Int) (s : Nat) (ka : Int) (pa : Int) (fa : Int) (kb : Int) (pb : Int) (fb : Int) (bo : Int) (la : Int) (lb : Int) (t0 : Int) (t1 : Int) (t2 : Int) (t3 : Int) (wg : List Int) (wc : List Int) (we : List Int) (cn : List Int) (go : List Int) (ch : List Int) (e : Int) (Z : Int) : List Value → List ik_E → Prop := (fun rv h_q => ∃ (l0 : Int) (l1 : Int) (l2 : Int) (wg' : List Int) (wc' : List Int) (we' : List Int) (z0 : Int) (z1 : Int) (z2 : Int) (z3 : Int), rv = [] ∧ cE h_q 10 (.inl (.int, fA ch)) ∧ ch.length = 48 ∧ cE h_q 11 (.inl (.int, fA wg')) ∧ wg'.length = 60 ∧ cE h_q 12 (.inl (.int, fA wc')) ∧ wc'.length = 60 ∧ cE h_q 13 (.inl (.int, fA we')) ∧ we'.length = 12 ∧ cE h_q 17 (.inr (8, [.ref 7, .ref 15, .ref 18, .ref 19, fJ l2, .ref 20])) ∧ cE h_q 19 (.inl (.long, fL [l0, l1])) ∧ mf_cr h_q 21  ∧ mf_cr h_q 33  ∧ cE h_q 20 (.inl (.int, fA [z0, z1, z2, z3])) ∧ (∀ x : Int, 0 ≤ x → x < pl - 1 → mx_wy wg' wc' we' x (mx_w cn go ch s x)) ∧ (mk_fo Z z0 z1 z2 z3) ∧ hfr [10, 11, 12, 13, 17, 19, 20, 21, 22, 23, 24, 33, 34, 35, 36] h h_q)
theorem cs_fairK {h : List ik_E} {pl : Int} {lo : Int} {s : Nat} {ka : Int} {pa : Int} {fa : Int} {kb : Int} {pb : Int} {fb : Int} {bo : Int} {la : Int} {lb : Int} {t0 : Int} {t1 : Int} {t2 : Int} {t3 : Int} {wg : List Int} {wc : List Int} {we : List Int} {cn : List Int} {go : List Int} {ch : List Int} {e : Int} (q0 : 2 ≤ pl ∧ pl ≤ 12) (q1 : 0 ≤ ka ∧ ka ≤ 2 ∧ 0 ≤ kb ∧ kb ≤ 2) (q2 : 0 ≤ pa ∧ pa < pl - 1) (q3 : 0 ≤ pb ∧ pb < pl - 1) (q4 : 0 ≤ fa ∧ fa ≤ 30 ∧ 0 ≤ fb ∧ fb ≤ 30) (q5 : ∀ x : Int, (0 : Int) ≤ x → x < pl - 1 → mx_wy wg wc we x (mx_w cn go ch s x)) (q6 : mx_rw pl cn go ch) (q7 : True) (q8 : s < 4096) (q9 : (0 : Int) ≤ e ∧ e ≤ (1000000 : Int)) (Z : Int) (n : Int) (hn : (1 : Int) ≤ n ∧ n ≤ (20 : Int)) (p : Int) (hp : (0 : Int) ≤ p ∧ p < pl - 1) (z : Int)  (K : ∀ (w : List ik_E) (i2 : Int) (l0 : Int) (l1 : Int) (l2 : Int) (wg1 : List Int) (wc1 : List Int) (we1 : List Int) (x5 : Option Value) (x6 : Option Value) (w7 : cE w 7 (.inr (0, [fI pl, fI ((s : Nat) : Int), fI lo, .ref 8, .ref 9, .ref 10, .ref 11, .ref 12, .ref 13]))) (w8 : cE w 8 (.inl (.int, fA cn))) (nw_8 : cn.length = (12 : Nat)) (w9 : cE w 9 (.inl (.int, fA go))) (nw_9 : go.length = (48 : Nat)) (w10 : cE w 10 (.inl (.int, fA ch))) (nw_10 : ch.length = (48 : Nat)) (w11 : cE w 11 (.inl (.int, fA wg1))) (nw_11 : wg1.length = (60 : Nat)) (w12 : cE w 12 (.inl (.int, fA wc1))) (nw_12 : wc1.length = (60 : Nat)) (w13 : cE w 13 (.inl (.int, fA we1))) (nw_13 : we1.length = (12 : Nat)) (w15 : cE w 15 (.inl (.int, fA [ka, pa, fa, kb, pb, fb]))) (w17 : cE w 17 (.inr (8, [.ref 7, .ref 15, .ref 18, .ref 19, fJ l2, .ref 20]))) (w18 : cE w 18 (.inl (.object "SlowerCork$Course", [.ref 21, .ref 25, .ref 29, .ref 33, .ref 37, .ref 41]))) (w19 : cE w 19 (.inl (.long, fL [l0, l1]))) (w20 : cE w 20 (.inl (.int, fA [t0, t1, t2, t3]))) (w21 : mf_cr w 21 ) (w33 : mf_cr w 33 ) (wl : w.length = (94 : Nat)) (F : hfr [10, 11, 12, 13, 17, 19, 20, 21, 22, 23, 24, 33, 34, 35, 36] h w) (hy : ∀ x : Int, (0 : Int) ≤ x → x < pl - 1 → mx_wy wg1 wc1 we1 x (mx_w cn go ch s x)) (he : Z = z) (w5 : ik_wl 94 x5 = true) (w6 : ik_wl 94 x6 = true), ik_G 86 125 [some (.ref 17), some (fI e), some (fI n), some (fI p), some (fI i2), x5, x6] [] w (cs_fairQ h pl lo s ka pa fa kb pb fb bo la lb t0 t1 t2 t3 wg wc we cn go ch e Z)) : ∀ (k : Nat) (i : Int) (l0 : Int) (l1 : Int) (l2 : Int) (wg1 : List Int) (wc1 : List Int) (we1 : List Int) (x5 : Option Value) (x6 : Option Value) (u : List ik_E) (u7 : cE u 7 (.inr (0, [fI pl, fI ((s : Nat) : Int), fI lo, .ref 8, .ref 9, .ref 10, .ref 11, .ref 12, .ref 13]))) (u8 : cE u 8 (.inl (.int, fA cn))) (n8 : cn.length = (12 : Nat)) (u9 : cE u 9 (.inl (.int, fA go))) (n9 : go.length = (48 : Nat)) (u10 : cE u 10 (.inl (.int, fA ch))) (n10 : ch.length = (48 : Nat)) (u11 : cE u 11 (.inl (.int, fA wg1))) (n11 : wg1.length = (60 : Nat)) (u12 : cE u 12 (.inl (.int, fA wc1))) (n12 : wc1.length = (60 : Nat)) (u13 : cE u 13 (.inl (.int, fA we1))) (n13 : we1.length = (12 : Nat)) (u15 : cE u 15 (.inl (.int, fA [ka, pa, fa, kb, pb, fb]))) (u17 : cE u 17 (.inr (8, [.ref 7, .ref 15, .ref 18, .ref 19, fJ l2, .ref 20]))) (u18 : cE u 18 (.inl (.object "SlowerCork$Course", [.ref 21, .ref 25, .ref 29, .ref 33, .ref 37, .ref 41]))) (u19 : cE u 19 (.inl (.long, fL [l0, l1]))) (u20 : cE u 20 (.inl (.int, fA [t0, t1, t2, t3]))) (u21 : mf_cr u 21 ) (u33 : mf_cr u 33 ) (ul : u.length = (94 : Nat)) (F : hfr [10, 11, 12, 13, 17, 19, 20, 21, 22, 23, 24, 33, 34, 35, 36] h u) (hi : (0 : Int) ≤ i ∧ i ≤ (16 : Int)) (hy : ∀ x : Int, (0 : Int) ≤ x → x < pl - 1 → mx_wy wg1 wc1 we1 x (mx_w cn go ch s x)) (he : Z = mk_c1 (mk_gg cn go ch s pl ka pa fa kb pb fb e) n p (16 - i).toNat i z) (w5 : ik_wl 94 x5 = true) (w6 : ik_wl 94 x6 = true) (hk : 16 - i < (k : Int)), ik_G 86 46 [some (.ref 17), some (fI e), some (fI n), some (fI p), some (fI i), x5, x6] [] u (cs_fairQ h pl lo s ka pa fa kb pb fb bo la lb t0 t1 t2 t3 wg wc we cn go ch e Z) := by
  intro k
  induction k with
  | zero => intro i l0 l1 l2 wg1 wc1 we1 x5 x6 u u7 u8 n8 u9 n9 u10 n10 u11 n11 u12 n12 u13 n13 u15 u17 u18 u19 u20 u21 u33 ul F hi hy he w5 w6 hk; omega
  | succ k ih =>
    intro i l0 l1 l2 wg1 wc1 we1 x5 x6 u u7 u8 n8 u9 n9 u10 n10 u11 n11 u12 n12 u13 n13 u15 u17 u18 u19 u20 u21 u33 ul F hi hy he w5 w6 hk
    have hr := (q6 p hp.1 hp.2).1
    have hr2 := (q6 p hp.1 hp.2).2.1
    refine ik_Wk 1 (pc_q := 48) (loc_q := [some (.ref 17), some (fI e), some (fI n), some (fI p), some (fI i), x5, x6]) (st_q := [fI i]) (h_q := u) (cl_q := 0) (sl_q := 0) rfl ?_
    refine fw_bi rfl (by decide +kernel) ?_
    refine fw_ic_ge rfl rfl (by omega) (by omega) (by omega) (by omega) (fun hc1 => ?_) (fun hc1 => ?_)
    · rw [show (16 - i).toNat = 0 by omega, mk_c1_0] at he
      exact K u i l0 l1 l2 wg1 wc1 we1 x5 x6 u7 u8 n8 u9 n9 u10 n10 u11 n11 u12 n12 u13 n13 u15 u17 u18 u19 u20 u21 u33 ul F hy he w5 w6
    · refine ik_Wk 2 (pc_q := 56) (loc_q := [some (.ref 17), some (fI e), some (fI n), some (fI p), some (fI i), x5, x6]) (st_q := [fI 4, fI i]) (h_q := u) (cl_q := 0) (sl_q := 0) rfl ?_
      refine fx_idiv rfl (by omega) (by omega) (by omega) (by omega) ?_
      refine ik_Wk 3 (pc_q := 62) (loc_q := [some (.ref 17), some (fI e), some (fI n), some (fI p), some (fI i), some (fI (i / 4)), x6]) (st_q := [fI 4, fI i]) (h_q := u) (cl_q := 0) (sl_q := 0) rfl ?_
      refine fx_irem rfl (by omega) (by omega) (by omega) (by omega) ?_
      refine ik_Wk 2 (pc_q := 66) (loc_q := [some (.ref 17), some (fI e), some (fI n), some (fI p), some (fI i), some (fI (i / 4)), some (fI (i % 4))]) (st_q := [.ref 17]) (h_q := u) (cl_q := 0) (sl_q := 0) rfl ?_
      refine fw_gf rfl rfl u17 rfl ?_
      refine ik_Wk 3 (pc_q := 74) (loc_q := [some (.ref 17), some (fI e), some (fI n), some (fI p), some (fI i), some (fI (i / 4)), some (fI (i % 4))]) (st_q := [fI (i % 4), fI (i / 4), fI p, .ref 7]) (h_q := u) (cl_q := 0) (sl_q := 0) rfl ?_
      refine ik_Wc 6 4 0 [.ref 7, fI p, fI (i / 4), fI (i % 4)] [] rfl rfl rfl (by decide +kernel) rfl rfl (fw_rec ul rfl u7 rfl (Nat.le_of_ble_eq_true rfl)) ?_
      refine ik_Wk 0 (pc_q := 0) (loc_q := [some (.ref 7), some (fI p), some (fI (i / 4)), some (fI (i % 4))]) (st_q := []) (h_q := u) (cl_q := 0) (sl_q := 0) rfl ?_
      refine ik_Wk 3 (pc_q := 3) (loc_q := [some (.ref 7), some (fI p), some (fI (i / 4)), some (fI (i % 4))]) (st_q := [fI (i / 4), fI p, .ref 7]) (h_q := u) (cl_q := 0) (sl_q := 0) rfl ?_
      refine ik_Wc 5 3 0 [.ref 7, fI p, fI (i / 4)] [] rfl rfl rfl (by decide +kernel) rfl rfl (fw_rec ul rfl u7 rfl (Nat.le_of_ble_eq_true rfl)) ?_
      refine ik_Wk 0 (pc_q := 0) (loc_q := [some (.ref 7), some (fI p), some (fI (i / 4))]) (st_q := []) (h_q := u) (cl_q := 0) (sl_q := 0) rfl ?_
      refine ik_Wk 1 (pc_q := 1) (loc_q := [some (.ref 7), some (fI p), some (fI (i / 4))]) (st_q := [fI (i / 4)]) (h_q := u) (cl_q := 0) (sl_q := 0) rfl ?_
      refine fw_if_lt rfl rfl (by omega) (by omega) (fun hc2 => ?_) (fun hc2 => ?_)
      · refine ik_Wk 1 (pc_q := 19) (loc_q := [some (.ref 7), some (fI p), some (fI (i / 4))]) (st_q := [fI 0]) (h_q := u) (cl_q := 0) (sl_q := 0) rfl ?_
        refine ik_Wret rfl rfl ⟨_, _, rfl, rfl, ?_⟩
        refine ik_Wk 0 (pc_q := 6) (loc_q := [some (.ref 7), some (fI p), some (fI (i / 4)), some (fI (i % 4))]) (st_q := [fI 0]) (h_q := u) (cl_q := 0) (sl_q := 0) rfl ?_
        refine fw_if_eq rfl rfl (by decide +kernel) (by decide +kernel) (fun hc3 => ?_) (fun hc3 => absurd hc3 (by decide +kernel))
        refine ik_Wk 1 (pc_q := 28) (loc_q := [some (.ref 7), some (fI p), some (fI (i / 4)), some (fI (i % 4))]) (st_q := [fI 0]) (h_q := u) (cl_q := 0) (sl_q := 0) rfl ?_
        refine ik_Wret rfl rfl ⟨_, _, rfl, rfl, ?_⟩
        refine ik_Wk 0 (pc_q := 77) (loc_q := [some (.ref 17), some (fI e), some (fI n), some (fI p), some (fI i), some (fI (i / 4)), some (fI (i % 4))]) (st_q := [fI 0]) (h_q := u) (cl_q := 0) (sl_q := 0) rfl ?_
        refine fw_if_eq rfl rfl (by decide +kernel) (by decide +kernel) (fun hc4 => ?_) (fun hc4 => absurd hc4 (by decide +kernel))
        refine fw_inc (a := i) (loc_q := [some (.ref 17), some (fI e), some (fI n), some (fI p), some (fI (i + 1)), some (fI (i / 4)), some (fI (i % 4))]) rfl rfl (Nat.le_of_ble_eq_true rfl) rfl ?_
        refine ik_Wk 1 (pc_q := 46) (loc_q := [some (.ref 17), some (fI e), some (fI n), some (fI p), some (fI (i + 1)), some (fI (i / 4)), some (fI (i % 4))]) (st_q := []) (h_q := u) (cl_q := 0) (sl_q := 0) rfl ?_
        have hG : (mk_gg cn go ch s pl ka pa fa kb pb fb e) n p i = false := decide_eq_false (by omega)
        have he2 : Z = mk_c1 (mk_gg cn go ch s pl ka pa fa kb pb fb e) n p (16 - (i + 1)).toNat (i + 1) z := by
          rw [he, show (16 - i).toNat = (16 - (i + 1)).toNat + 1 by omega, mk_c1_s, hG, if_neg (by decide +kernel)]
        exact ih (i + 1) l0 l1 l2 wg1 wc1 we1 (some (fI (i / 4))) (some (fI (i % 4))) u u7 u8 n8 u9 n9 u10 n10 u11 n11 u12 n12 u13 n13 u15 u17 u18 u19 u20 u21 u33 ul F (by omega) hy he2 rfl rfl (by omega)
      · refine ik_Wk 2 (pc_q := 6) (loc_q := [some (.ref 7), some (fI p), some (fI (i / 4))]) (st_q := [.ref 7, fI (i / 4)]) (h_q := u) (cl_q := 0) (sl_q := 0) rfl ?_
        refine fw_gf rfl rfl u7 rfl ?_
        refine ik_Wk 1 (pc_q := 10) (loc_q := [some (.ref 7), some (fI p), some (fI (i / 4))]) (st_q := [fI p, .ref 8, fI (i / 4)]) (h_q := u) (cl_q := 0) (sl_q := 0) rfl ?_
        refine fw_ial rfl u8 (by omega) (by omega) (by omega) ?_
        refine fw_ic_ge rfl rfl (by omega) (by omega) (by omega) (by omega) (fun hc5 => ?_) (fun hc5 => ?_)
        · refine ik_Wk 1 (pc_q := 19) (loc_q := [some (.ref 7), some (fI p), some (fI (i / 4))]) (st_q := [fI 0]) (h_q := u) (cl_q := 0) (sl_q := 0) rfl ?_
          refine ik_Wret rfl rfl ⟨_, _, rfl, rfl, ?_⟩
          refine ik_Wk 0 (pc_q := 6) (loc_q := [some (.ref 7), some (fI p), some (fI (i / 4)), some (fI (i % 4))]) (st_q := [fI 0]) (h_q := u) (cl_q := 0) (sl_q := 0) rfl ?_
          refine fw_if_eq rfl rfl (by decide +kernel) (by decide +kernel) (fun hc6 => ?_) (fun hc6 => absurd hc6 (by decide +kernel))
          refine ik_Wk 1 (pc_q := 28) (loc_q := [some (.ref 7), some (fI p), some (fI (i / 4)), some (fI (i % 4))]) (st_q := [fI 0]) (h_q := u) (cl_q := 0) (sl_q := 0) rfl ?_
          refine ik_Wret rfl rfl ⟨_, _, rfl, rfl, ?_⟩
          refine ik_Wk 0 (pc_q := 77) (loc_q := [some (.ref 17), some (fI e), some (fI n), some (fI p), some (fI i), some (fI (i / 4)), some (fI (i % 4))]) (st_q := [fI 0]) (h_q := u) (cl_q := 0) (sl_q := 0) rfl ?_
          refine fw_if_eq rfl rfl (by decide +kernel) (by decide +kernel) (fun hc7 => ?_) (fun hc7 => absurd hc7 (by decide +kernel))
          refine fw_inc (a := i) (loc_q := [some (.ref 17), some (fI e), some (fI n), some (fI p), some (fI (i + 1)), some (fI (i / 4)), some (fI (i % 4))]) rfl rfl (Nat.le_of_ble_eq_true rfl) rfl ?_
          refine ik_Wk 1 (pc_q := 46) (loc_q := [some (.ref 17), some (fI e), some (fI n), some (fI p), some (fI (i + 1)), some (fI (i / 4)), some (fI (i % 4))]) (st_q := []) (h_q := u) (cl_q := 0) (sl_q := 0) rfl ?_
          have hG : (mk_gg cn go ch s pl ka pa fa kb pb fb e) n p i = false := decide_eq_false (by omega)
          have he2 : Z = mk_c1 (mk_gg cn go ch s pl ka pa fa kb pb fb e) n p (16 - (i + 1)).toNat (i + 1) z := by
            rw [he, show (16 - i).toNat = (16 - (i + 1)).toNat + 1 by omega, mk_c1_s, hG, if_neg (by decide +kernel)]
          exact ih (i + 1) l0 l1 l2 wg1 wc1 we1 (some (fI (i / 4))) (some (fI (i % 4))) u u7 u8 n8 u9 n9 u10 n10 u11 n11 u12 n12 u13 n13 u15 u17 u18 u19 u20 u21 u33 ul F (by omega) hy he2 rfl rfl (by omega)
        · refine ik_Wk 2 (pc_q := 19) (loc_q := [some (.ref 7), some (fI p), some (fI (i / 4))]) (st_q := [fI 1]) (h_q := u) (cl_q := 0) (sl_q := 0) rfl ?_
          refine ik_Wret rfl rfl ⟨_, _, rfl, rfl, ?_⟩
          refine ik_Wk 0 (pc_q := 6) (loc_q := [some (.ref 7), some (fI p), some (fI (i / 4)), some (fI (i % 4))]) (st_q := [fI 1]) (h_q := u) (cl_q := 0) (sl_q := 0) rfl ?_
          refine fw_if_eq rfl rfl (by decide +kernel) (by decide +kernel) (fun hc8 => absurd hc8 (by decide +kernel)) (fun hc8 => ?_)
          refine ik_Wk 3 (pc_q := 12) (loc_q := [some (.ref 7), some (fI p), some (fI (i / 4)), some (fI (i % 4))]) (st_q := [fI (i % 4), fI p, .ref 7]) (h_q := u) (cl_q := 0) (sl_q := 0) rfl ?_
          refine ik_Wc 5 3 0 [.ref 7, fI p, fI (i % 4)] [] rfl rfl rfl (by decide +kernel) rfl rfl (fw_rec ul rfl u7 rfl (Nat.le_of_ble_eq_true rfl)) ?_
          refine ik_Wk 0 (pc_q := 0) (loc_q := [some (.ref 7), some (fI p), some (fI (i % 4))]) (st_q := []) (h_q := u) (cl_q := 0) (sl_q := 0) rfl ?_
          refine ik_Wk 1 (pc_q := 1) (loc_q := [some (.ref 7), some (fI p), some (fI (i % 4))]) (st_q := [fI (i % 4)]) (h_q := u) (cl_q := 0) (sl_q := 0) rfl ?_
          refine fw_if_lt rfl rfl (by omega) (by omega) (fun hc9 => ?_) (fun hc9 => ?_)
          · refine ik_Wk 1 (pc_q := 19) (loc_q := [some (.ref 7), some (fI p), some (fI (i % 4))]) (st_q := [fI 0]) (h_q := u) (cl_q := 0) (sl_q := 0) rfl ?_
            refine ik_Wret rfl rfl ⟨_, _, rfl, rfl, ?_⟩
            refine ik_Wk 0 (pc_q := 15) (loc_q := [some (.ref 7), some (fI p), some (fI (i / 4)), some (fI (i % 4))]) (st_q := [fI 0]) (h_q := u) (cl_q := 0) (sl_q := 0) rfl ?_
            refine fw_if_eq rfl rfl (by decide +kernel) (by decide +kernel) (fun hc10 => ?_) (fun hc10 => absurd hc10 (by decide +kernel))
            refine ik_Wk 1 (pc_q := 28) (loc_q := [some (.ref 7), some (fI p), some (fI (i / 4)), some (fI (i % 4))]) (st_q := [fI 0]) (h_q := u) (cl_q := 0) (sl_q := 0) rfl ?_
            refine ik_Wret rfl rfl ⟨_, _, rfl, rfl, ?_⟩
            refine ik_Wk 0 (pc_q := 77) (loc_q := [some (.ref 17), some (fI e), some (fI n), some (fI p), some (fI i), some (fI (i / 4)), some (fI (i % 4))]) (st_q := [fI 0]) (h_q := u) (cl_q := 0) (sl_q := 0) rfl ?_
            refine fw_if_eq rfl rfl (by decide +kernel) (by decide +kernel) (fun hc11 => ?_) (fun hc11 => absurd hc11 (by decide +kernel))
            refine fw_inc (a := i) (loc_q := [some (.ref 17), some (fI e), some (fI n), some (fI p), some (fI (i + 1)), some (fI (i / 4)), some (fI (i % 4))]) rfl rfl (Nat.le_of_ble_eq_true rfl) rfl ?_
            refine ik_Wk 1 (pc_q := 46) (loc_q := [some (.ref 17), some (fI e), some (fI n), some (fI p), some (fI (i + 1)), some (fI (i / 4)), some (fI (i % 4))]) (st_q := []) (h_q := u) (cl_q := 0) (sl_q := 0) rfl ?_
            have hG : (mk_gg cn go ch s pl ka pa fa kb pb fb e) n p i = false := decide_eq_false (by omega)
            have he2 : Z = mk_c1 (mk_gg cn go ch s pl ka pa fa kb pb fb e) n p (16 - (i + 1)).toNat (i + 1) z := by
              rw [he, show (16 - i).toNat = (16 - (i + 1)).toNat + 1 by omega, mk_c1_s, hG, if_neg (by decide +kernel)]
            exact ih (i + 1) l0 l1 l2 wg1 wc1 we1 (some (fI (i / 4))) (some (fI (i % 4))) u u7 u8 n8 u9 n9 u10 n10 u11 n11 u12 n12 u13 n13 u15 u17 u18 u19 u20 u21 u33 ul F (by omega) hy he2 rfl rfl (by omega)
          · refine ik_Wk 2 (pc_q := 6) (loc_q := [some (.ref 7), some (fI p), some (fI (i % 4))]) (st_q := [.ref 7, fI (i % 4)]) (h_q := u) (cl_q := 0) (sl_q := 0) rfl ?_
            refine fw_gf rfl rfl u7 rfl ?_
            refine ik_Wk 1 (pc_q := 10) (loc_q := [some (.ref 7), some (fI p), some (fI (i % 4))]) (st_q := [fI p, .ref 8, fI (i % 4)]) (h_q := u) (cl_q := 0) (sl_q := 0) rfl ?_
            refine fw_ial rfl u8 (by omega) (by omega) (by omega) ?_
            refine fw_ic_ge rfl rfl (by omega) (by omega) (by omega) (by omega) (fun hc12 => ?_) (fun hc12 => ?_)
            · refine ik_Wk 1 (pc_q := 19) (loc_q := [some (.ref 7), some (fI p), some (fI (i % 4))]) (st_q := [fI 0]) (h_q := u) (cl_q := 0) (sl_q := 0) rfl ?_
              refine ik_Wret rfl rfl ⟨_, _, rfl, rfl, ?_⟩
              refine ik_Wk 0 (pc_q := 15) (loc_q := [some (.ref 7), some (fI p), some (fI (i / 4)), some (fI (i % 4))]) (st_q := [fI 0]) (h_q := u) (cl_q := 0) (sl_q := 0) rfl ?_
              refine fw_if_eq rfl rfl (by decide +kernel) (by decide +kernel) (fun hc13 => ?_) (fun hc13 => absurd hc13 (by decide +kernel))
              refine ik_Wk 1 (pc_q := 28) (loc_q := [some (.ref 7), some (fI p), some (fI (i / 4)), some (fI (i % 4))]) (st_q := [fI 0]) (h_q := u) (cl_q := 0) (sl_q := 0) rfl ?_
              refine ik_Wret rfl rfl ⟨_, _, rfl, rfl, ?_⟩
              refine ik_Wk 0 (pc_q := 77) (loc_q := [some (.ref 17), some (fI e), some (fI n), some (fI p), some (fI i), some (fI (i / 4)), some (fI (i % 4))]) (st_q := [fI 0]) (h_q := u) (cl_q := 0) (sl_q := 0) rfl ?_
              refine fw_if_eq rfl rfl (by decide +kernel) (by decide +kernel) (fun hc14 => ?_) (fun hc14 => absurd hc14 (by decide +kernel))
              refine fw_inc (a := i) (loc_q := [some (.ref 17), some (fI e), some (fI n), some (fI p), some (fI (i + 1)), some (fI (i / 4)), some (fI (i % 4))]) rfl rfl (Nat.le_of_ble_eq_true rfl) rfl ?_
              refine ik_Wk 1 (pc_q := 46) (loc_q := [some (.ref 17), some (fI e), some (fI n), some (fI p), some (fI (i + 1)), some (fI (i / 4)), some (fI (i % 4))]) (st_q := []) (h_q := u) (cl_q := 0) (sl_q := 0) rfl ?_
              have hG : (mk_gg cn go ch s pl ka pa fa kb pb fb e) n p i = false := decide_eq_false (by omega)
              have he2 : Z = mk_c1 (mk_gg cn go ch s pl ka pa fa kb pb fb e) n p (16 - (i + 1)).toNat (i + 1) z := by
                rw [he, show (16 - i).toNat = (16 - (i + 1)).toNat + 1 by omega, mk_c1_s, hG, if_neg (by decide +kernel)]
              exact ih (i + 1) l0 l1 l2 wg1 wc1 we1 (some (fI (i / 4))) (some (fI (i % 4))) u u7 u8 n8 u9 n9 u10 n10 u11 n11 u12 n12 u13 n13 u15 u17 u18 u19 u20 u21 u33 ul F (by omega) hy he2 rfl rfl (by omega)
            · refine ik_Wk 2 (pc_q := 19) (loc_q := [some (.ref 7), some (fI p), some (fI (i % 4))]) (st_q := [fI 1]) (h_q := u) (cl_q := 0) (sl_q := 0) rfl ?_
              refine ik_Wret rfl rfl ⟨_, _, rfl, rfl, ?_⟩
              refine ik_Wk 0 (pc_q := 15) (loc_q := [some (.ref 7), some (fI p), some (fI (i / 4)), some (fI (i % 4))]) (st_q := [fI 1]) (h_q := u) (cl_q := 0) (sl_q := 0) rfl ?_
              refine fw_if_eq rfl rfl (by decide +kernel) (by decide +kernel) (fun hc15 => absurd hc15 (by decide +kernel)) (fun hc15 => ?_)
              refine ik_Wk 2 (pc_q := 20) (loc_q := [some (.ref 7), some (fI p), some (fI (i / 4)), some (fI (i % 4))]) (st_q := [fI (i % 4), fI (i / 4)]) (h_q := u) (cl_q := 0) (sl_q := 0) rfl ?_
              refine fw_ic_eq rfl rfl (by omega) (by omega) (by omega) (by omega) (fun hc16 => ?_) (fun hc16 => ?_)
              · refine ik_Wk 1 (pc_q := 28) (loc_q := [some (.ref 7), some (fI p), some (fI (i / 4)), some (fI (i % 4))]) (st_q := [fI 0]) (h_q := u) (cl_q := 0) (sl_q := 0) rfl ?_
                refine ik_Wret rfl rfl ⟨_, _, rfl, rfl, ?_⟩
                refine ik_Wk 0 (pc_q := 77) (loc_q := [some (.ref 17), some (fI e), some (fI n), some (fI p), some (fI i), some (fI (i / 4)), some (fI (i % 4))]) (st_q := [fI 0]) (h_q := u) (cl_q := 0) (sl_q := 0) rfl ?_
                refine fw_if_eq rfl rfl (by decide +kernel) (by decide +kernel) (fun hc17 => ?_) (fun hc17 => absurd hc17 (by decide +kernel))
                refine fw_inc (a := i) (loc_q := [some (.ref 17), some (fI e), some (fI n), some (fI p), some (fI (i + 1)), some (fI (i / 4)), some (fI (i % 4))]) rfl rfl (Nat.le_of_ble_eq_true rfl) rfl ?_
                refine ik_Wk 1 (pc_q := 46) (loc_q := [some (.ref 17), some (fI e), some (fI n), some (fI p), some (fI (i + 1)), some (fI (i / 4)), some (fI (i % 4))]) (st_q := []) (h_q := u) (cl_q := 0) (sl_q := 0) rfl ?_
                have hG : (mk_gg cn go ch s pl ka pa fa kb pb fb e) n p i = false := decide_eq_false (by omega)
                have he2 : Z = mk_c1 (mk_gg cn go ch s pl ka pa fa kb pb fb e) n p (16 - (i + 1)).toNat (i + 1) z := by
                  rw [he, show (16 - i).toNat = (16 - (i + 1)).toNat + 1 by omega, mk_c1_s, hG, if_neg (by decide +kernel)]
                exact ih (i + 1) l0 l1 l2 wg1 wc1 we1 (some (fI (i / 4))) (some (fI (i % 4))) u u7 u8 n8 u9 n9 u10 n10 u11 n11 u12 n12 u13 n13 u15 u17 u18 u19 u20 u21 u33 ul F (by omega) hy he2 rfl rfl (by omega)
              · refine ik_Wk 2 (pc_q := 28) (loc_q := [some (.ref 7), some (fI p), some (fI (i / 4)), some (fI (i % 4))]) (st_q := [fI 1]) (h_q := u) (cl_q := 0) (sl_q := 0) rfl ?_
                refine ik_Wret rfl rfl ⟨_, _, rfl, rfl, ?_⟩
                refine ik_Wk 0 (pc_q := 77) (loc_q := [some (.ref 17), some (fI e), some (fI n), some (fI p), some (fI i), some (fI (i / 4)), some (fI (i % 4))]) (st_q := [fI 1]) (h_q := u) (cl_q := 0) (sl_q := 0) rfl ?_
                refine fw_if_eq rfl rfl (by decide +kernel) (by decide +kernel) (fun hc18 => absurd hc18 (by decide +kernel)) (fun hc18 => ?_)
                refine ik_Wk 1 (pc_q := 81) (loc_q := [some (.ref 17), some (fI e), some (fI n), some (fI p), some (fI i), some (fI (i / 4)), some (fI (i % 4))]) (st_q := [.ref 17]) (h_q := u) (cl_q := 0) (sl_q := 0) rfl ?_
                refine fw_gf rfl rfl u17 rfl ?_
                refine ik_Wk 3 (pc_q := 88) (loc_q := [some (.ref 17), some (fI e), some (fI n), some (fI p), some (fI i), some (fI (i / 4)), some (fI (i % 4))]) (st_q := [fI n, fI (i / 4), fI p, .ref 7]) (h_q := u) (cl_q := 0) (sl_q := 0) rfl ?_
                refine ik_Wc 15 4 0 [.ref 7, fI p, fI (i / 4), fI n] [] rfl rfl rfl (by decide +kernel) rfl rfl (fw_rec ul rfl u7 rfl (Nat.le_of_ble_eq_true rfl)) ?_
                refine ik_Wk 0 (pc_q := 0) (loc_q := [some (.ref 7), some (fI p), some (fI (i / 4)), some (fI n)]) (st_q := []) (h_q := u) (cl_q := 0) (sl_q := 0) rfl ?_
                refine ik_Wk 1 (pc_q := 1) (loc_q := [some (.ref 7), some (fI p), some (fI (i / 4)), some (fI n)]) (st_q := [.ref 7]) (h_q := u) (cl_q := 0) (sl_q := 0) rfl ?_
                refine fw_gf rfl rfl u7 rfl ?_
                refine ik_Wk 2 (pc_q := 6) (loc_q := [some (.ref 7), some (fI p), some (fI (i / 4)), some (fI n)]) (st_q := [fI 4, fI p, .ref 10]) (h_q := u) (cl_q := 0) (sl_q := 0) rfl ?_
                refine fx_mulc rfl ?_
                refine ik_Wk 1 (pc_q := 8) (loc_q := [some (.ref 7), some (fI p), some (fI (i / 4)), some (fI n)]) (st_q := [fI (i / 4), fI (4 * p), .ref 10]) (h_q := u) (cl_q := 0) (sl_q := 0) rfl ?_
                refine fw_add rfl ?_
                refine fw_ial rfl u10 (by omega) (by omega) (by omega) ?_
                have hd19 := hr2 (i / 4) (by omega) (by omega)
                refine ik_Wk 1 (pc_q := 11) (loc_q := [some (.ref 7), some (fI p), some (fI (i / 4)), some (fI n)]) (st_q := [fI n, fI (ch.getD ((4 * p) + (i / 4)).toNat 0)]) (h_q := u) (cl_q := 0) (sl_q := 0) rfl ?_
                refine fw_sub rfl ?_
                refine ik_Wk 1 (pc_q := 13) (loc_q := [some (.ref 7), some (fI p), some (fI (i / 4)), some (fI n)]) (st_q := [fI 1, fI ((ch.getD ((4 * p) + (i / 4)).toNat 0) - n)]) (h_q := u) (cl_q := 0) (sl_q := 0) rfl ?_
                refine fw_ic_lt rfl rfl (by omega) (by omega) (by omega) (by omega) (fun hc20 => ?_) (fun hc20 => ?_)
                · refine ik_Wk 1 (pc_q := 21) (loc_q := [some (.ref 7), some (fI p), some (fI (i / 4)), some (fI n)]) (st_q := [fI 0]) (h_q := u) (cl_q := 0) (sl_q := 0) rfl ?_
                  refine ik_Wret rfl rfl ⟨_, _, rfl, rfl, ?_⟩
                  refine ik_Wk 0 (pc_q := 91) (loc_q := [some (.ref 17), some (fI e), some (fI n), some (fI p), some (fI i), some (fI (i / 4)), some (fI (i % 4))]) (st_q := [fI 0]) (h_q := u) (cl_q := 0) (sl_q := 0) rfl ?_
                  refine fw_if_eq rfl rfl (by decide +kernel) (by decide +kernel) (fun hc21 => ?_) (fun hc21 => absurd hc21 (by decide +kernel))
                  refine fw_inc (a := i) (loc_q := [some (.ref 17), some (fI e), some (fI n), some (fI p), some (fI (i + 1)), some (fI (i / 4)), some (fI (i % 4))]) rfl rfl (Nat.le_of_ble_eq_true rfl) rfl ?_
                  refine ik_Wk 1 (pc_q := 46) (loc_q := [some (.ref 17), some (fI e), some (fI n), some (fI p), some (fI (i + 1)), some (fI (i / 4)), some (fI (i % 4))]) (st_q := []) (h_q := u) (cl_q := 0) (sl_q := 0) rfl ?_
                  have hG : (mk_gg cn go ch s pl ka pa fa kb pb fb e) n p i = false := decide_eq_false (by omega)
                  have he2 : Z = mk_c1 (mk_gg cn go ch s pl ka pa fa kb pb fb e) n p (16 - (i + 1)).toNat (i + 1) z := by
                    rw [he, show (16 - i).toNat = (16 - (i + 1)).toNat + 1 by omega, mk_c1_s, hG, if_neg (by decide +kernel)]
                  exact ih (i + 1) l0 l1 l2 wg1 wc1 we1 (some (fI (i / 4))) (some (fI (i % 4))) u u7 u8 n8 u9 n9 u10 n10 u11 n11 u12 n12 u13 n13 u15 u17 u18 u19 u20 u21 u33 ul F (by omega) hy he2 rfl rfl (by omega)
                · refine ik_Wk 2 (pc_q := 21) (loc_q := [some (.ref 7), some (fI p), some (fI (i / 4)), some (fI n)]) (st_q := [fI 1]) (h_q := u) (cl_q := 0) (sl_q := 0) rfl ?_
                  refine ik_Wret rfl rfl ⟨_, _, rfl, rfl, ?_⟩
                  refine ik_Wk 0 (pc_q := 91) (loc_q := [some (.ref 17), some (fI e), some (fI n), some (fI p), some (fI i), some (fI (i / 4)), some (fI (i % 4))]) (st_q := [fI 1]) (h_q := u) (cl_q := 0) (sl_q := 0) rfl ?_
                  refine fw_if_eq rfl rfl (by decide +kernel) (by decide +kernel) (fun hc22 => absurd hc22 (by decide +kernel)) (fun hc22 => ?_)
                  refine ik_Wk 6 (pc_q := 102) (loc_q := [some (.ref 17), some (fI e), some (fI n), some (fI p), some (fI i), some (fI (i / 4)), some (fI (i % 4))]) (st_q := [fI e, fI n, fI (i % 4), fI (i / 4), fI p, .ref 17]) (h_q := u) (cl_q := 0) (sl_q := 0) rfl ?_
                  refine fw_call 87 6 0 [.ref 17, fI p, fI (i / 4), fI (i % 4), fI n, fI e] [] rfl rfl rfl (Nat.le_of_ble_eq_true rfl) rfl rfl (fw_rec ul rfl u17 rfl (Nat.le_of_ble_eq_true rfl)) (cs_fairDug (pl := pl) (lo := lo) (s := s) (ka := ka) (pa := pa) (fa := fa) (kb := kb) (pb := pb) (fb := fb) (bo := l2) (la := l0) (lb := l1) (t0 := t0) (t1 := t1) (t2 := t2) (t3 := t3) (wg := wg1) (wc := wc1) (we := we1) (cn := cn) (go := go) (ch := ch) (p := p) (a := i / 4) (b := i % 4) (n := n) (e := e) (by omega) (by omega) (by omega) (by omega) (by omega) hy q6 q7 q8 hp (by omega) (by omega) (by omega) (by omega) (by omega) (by omega) u7 u8 n8 u9 n9 u10 n10 u11 n11 u12 n12 u13 n13 u15 u17 u18 u19 u20 u21 u33 ul) ?_
                  rintro _ h_237 (⟨l0_237, l1_237, l2_237, wg'_237, wc'_237, we'_237, rfl, e_237_10, m_237_10, e_237_11, m_237_11, e_237_12, m_237_12, e_237_13, m_237_13, e_237_17, e_237_19, e_237_21, e_237_33, p_237_0, p_237_1, F_237⟩ | ⟨l0_237, l1_237, l2_237, wg'_237, wc'_237, we'_237, rfl, e_237_10, m_237_10, e_237_11, m_237_11, e_237_12, m_237_12, e_237_13, m_237_13, e_237_17, e_237_19, e_237_21, e_237_33, p_237_0, p_237_1, F_237⟩)
                  · have k_237 : cL h_237 := F_237.1.trans ul
                    have fr_237 := hfr_cb F F_237 rfl
                    have g_237_7 := (hfr_g F_237 7 rfl).trans u7
                    have g_237_8 := (hfr_g F_237 8 rfl).trans u8
                    have g_237_9 := (hfr_g F_237 9 rfl).trans u9
                    have g_237_15 := (hfr_g F_237 15 rfl).trans u15
                    have g_237_18 := (hfr_g F_237 18 rfl).trans u18
                    have g_237_20 := (hfr_g F_237 20 rfl).trans u20
                    have g_237_10 : cE h_237 10 (.inl (.int, fA ch)) := e_237_10
                    have g_237_11 : cE h_237 11 (.inl (.int, fA wg'_237)) := e_237_11
                    have g_237_12 : cE h_237 12 (.inl (.int, fA wc'_237)) := e_237_12
                    have g_237_13 : cE h_237 13 (.inl (.int, fA we'_237)) := e_237_13
                    have g_237_17 : cE h_237 17 (.inr (8, [.ref 7, .ref 15, .ref 18, .ref 19, fJ l2_237, .ref 20])) := e_237_17
                    have g_237_19 : cE h_237 19 (.inl (.long, fL [l0_237, l1_237])) := e_237_19
                    have g_237_21 : mf_cr h_237 21  := e_237_21
                    have g_237_33 : mf_cr h_237 33  := e_237_33
                    refine ik_Wk 0 (pc_q := 105) (loc_q := [some (.ref 17), some (fI e), some (fI n), some (fI p), some (fI i), some (fI (i / 4)), some (fI (i % 4))]) (st_q := [fI 1]) (h_q := h_237) (cl_q := 0) (sl_q := 0) rfl ?_
                    refine fw_if_eq rfl rfl (by decide +kernel) (by decide +kernel) (fun hc23 => absurd hc23 (by decide +kernel)) (fun hc23 => ?_)
                    refine ik_Wk 5 (pc_q := 115) (loc_q := [some (.ref 17), some (fI e), some (fI n), some (fI p), some (fI i), some (fI (i / 4)), some (fI (i % 4))]) (st_q := [fI (i % 4), fI (i / 4), fI p, fI n, .ref 17]) (h_q := h_237) (cl_q := 0) (sl_q := 0) rfl ?_
                    refine ik_Wc 88 5 0 [.ref 17, fI n, fI p, fI (i / 4), fI (i % 4)] [] rfl rfl rfl (by decide +kernel) rfl rfl (fw_rec k_237 rfl g_237_17 rfl (Nat.le_of_ble_eq_true rfl)) ?_
                    refine ik_Wk 0 (pc_q := 0) (loc_q := [some (.ref 17), some (fI n), some (fI p), some (fI (i / 4)), some (fI (i % 4))]) (st_q := []) (h_q := h_237) (cl_q := 0) (sl_q := 0) rfl ?_
                    refine ik_Wk 1 (pc_q := 1) (loc_q := [some (.ref 17), some (fI n), some (fI p), some (fI (i / 4)), some (fI (i % 4))]) (st_q := [.ref 17]) (h_q := h_237) (cl_q := 0) (sl_q := 0) rfl ?_
                    refine fw_gf rfl rfl g_237_17 rfl ?_
                    refine ik_Wk 2 (pc_q := 6) (loc_q := [some (.ref 17), some (fI n), some (fI p), some (fI (i / 4)), some (fI (i % 4))]) (st_q := [fI n, fI 0, .ref 20]) (h_q := h_237) (cl_q := 0) (sl_q := 0) rfl ?_
                    refine fx_ias (z := 0) rfl g_237_20 (by decide +kernel) (Nat.le_of_ble_eq_true rfl) (by decide +kernel) ?_
                    intro h_238 e_238 f_238 l_238
                    have k_238 : cL h_238 := l_238.trans k_237
                    have fr_238 := hfr_wb fr_237 f_238 l_238 rfl
                    clear l_238
                    have g_238_7 := (f_238 7 (Nat.ne_of_beq_eq_false rfl)).trans g_237_7
                    have g_238_8 := (f_238 8 (Nat.ne_of_beq_eq_false rfl)).trans g_237_8
                    have g_238_9 := (f_238 9 (Nat.ne_of_beq_eq_false rfl)).trans g_237_9
                    have g_238_10 := (f_238 10 (Nat.ne_of_beq_eq_false rfl)).trans g_237_10
                    have g_238_11 := (f_238 11 (Nat.ne_of_beq_eq_false rfl)).trans g_237_11
                    have g_238_12 := (f_238 12 (Nat.ne_of_beq_eq_false rfl)).trans g_237_12
                    have g_238_13 := (f_238 13 (Nat.ne_of_beq_eq_false rfl)).trans g_237_13
                    have g_238_15 := (f_238 15 (Nat.ne_of_beq_eq_false rfl)).trans g_237_15
                    have g_238_17 := (f_238 17 (Nat.ne_of_beq_eq_false rfl)).trans g_237_17
                    have g_238_18 := (f_238 18 (Nat.ne_of_beq_eq_false rfl)).trans g_237_18
                    have g_238_19 := (f_238 19 (Nat.ne_of_beq_eq_false rfl)).trans g_237_19
                    have g_238_21 := mf_cr_f g_237_21 (f_238 21 (Nat.ne_of_beq_eq_false rfl)) (f_238 22 (Nat.ne_of_beq_eq_false rfl)) (f_238 23 (Nat.ne_of_beq_eq_false rfl)) (f_238 24 (Nat.ne_of_beq_eq_false rfl))
                    have g_238_33 := mf_cr_f g_237_33 (f_238 33 (Nat.ne_of_beq_eq_false rfl)) (f_238 34 (Nat.ne_of_beq_eq_false rfl)) (f_238 35 (Nat.ne_of_beq_eq_false rfl)) (f_238 36 (Nat.ne_of_beq_eq_false rfl))
                    have g_238_20 : cE h_238 20 (.inl (.int, fA [n, t1, t2, t3])) := e_238
                    refine ik_Wk 1 (pc_q := 8) (loc_q := [some (.ref 17), some (fI n), some (fI p), some (fI (i / 4)), some (fI (i % 4))]) (st_q := [.ref 17]) (h_q := h_238) (cl_q := 0) (sl_q := 0) rfl ?_
                    refine fw_gf rfl rfl g_238_17 rfl ?_
                    refine ik_Wk 2 (pc_q := 13) (loc_q := [some (.ref 17), some (fI n), some (fI p), some (fI (i / 4)), some (fI (i % 4))]) (st_q := [fI p, fI 1, .ref 20]) (h_q := h_238) (cl_q := 0) (sl_q := 0) rfl ?_
                    refine fx_ias (z := 1) rfl g_238_20 (by decide +kernel) (Nat.le_of_ble_eq_true rfl) (by decide +kernel) ?_
                    intro h_239 e_239 f_239 l_239
                    have k_239 : cL h_239 := l_239.trans k_238
                    have fr_239 := hfr_wb fr_238 f_239 l_239 rfl
                    clear l_239
                    have g_239_7 := (f_239 7 (Nat.ne_of_beq_eq_false rfl)).trans g_238_7
                    have g_239_8 := (f_239 8 (Nat.ne_of_beq_eq_false rfl)).trans g_238_8
                    have g_239_9 := (f_239 9 (Nat.ne_of_beq_eq_false rfl)).trans g_238_9
                    have g_239_10 := (f_239 10 (Nat.ne_of_beq_eq_false rfl)).trans g_238_10
                    have g_239_11 := (f_239 11 (Nat.ne_of_beq_eq_false rfl)).trans g_238_11
                    have g_239_12 := (f_239 12 (Nat.ne_of_beq_eq_false rfl)).trans g_238_12
                    have g_239_13 := (f_239 13 (Nat.ne_of_beq_eq_false rfl)).trans g_238_13
                    have g_239_15 := (f_239 15 (Nat.ne_of_beq_eq_false rfl)).trans g_238_15
                    have g_239_17 := (f_239 17 (Nat.ne_of_beq_eq_false rfl)).trans g_238_17
                    have g_239_18 := (f_239 18 (Nat.ne_of_beq_eq_false rfl)).trans g_238_18
                    have g_239_19 := (f_239 19 (Nat.ne_of_beq_eq_false rfl)).trans g_238_19
                    have g_239_21 := mf_cr_f g_238_21 (f_239 21 (Nat.ne_of_beq_eq_false rfl)) (f_239 22 (Nat.ne_of_beq_eq_false rfl)) (f_239 23 (Nat.ne_of_beq_eq_false rfl)) (f_239 24 (Nat.ne_of_beq_eq_false rfl))
                    have g_239_33 := mf_cr_f g_238_33 (f_239 33 (Nat.ne_of_beq_eq_false rfl)) (f_239 34 (Nat.ne_of_beq_eq_false rfl)) (f_239 35 (Nat.ne_of_beq_eq_false rfl)) (f_239 36 (Nat.ne_of_beq_eq_false rfl))
                    have g_239_20 : cE h_239 20 (.inl (.int, fA [n, p, t2, t3])) := e_239
                    refine ik_Wk 1 (pc_q := 15) (loc_q := [some (.ref 17), some (fI n), some (fI p), some (fI (i / 4)), some (fI (i % 4))]) (st_q := [.ref 17]) (h_q := h_239) (cl_q := 0) (sl_q := 0) rfl ?_
                    refine fw_gf rfl rfl g_239_17 rfl ?_
                    refine ik_Wk 2 (pc_q := 20) (loc_q := [some (.ref 17), some (fI n), some (fI p), some (fI (i / 4)), some (fI (i % 4))]) (st_q := [fI (i / 4), fI 2, .ref 20]) (h_q := h_239) (cl_q := 0) (sl_q := 0) rfl ?_
                    refine fx_ias (z := 2) rfl g_239_20 (by decide +kernel) (Nat.le_of_ble_eq_true rfl) (by decide +kernel) ?_
                    intro h_240 e_240 f_240 l_240
                    have k_240 : cL h_240 := l_240.trans k_239
                    have fr_240 := hfr_wb fr_239 f_240 l_240 rfl
                    clear l_240
                    have g_240_7 := (f_240 7 (Nat.ne_of_beq_eq_false rfl)).trans g_239_7
                    have g_240_8 := (f_240 8 (Nat.ne_of_beq_eq_false rfl)).trans g_239_8
                    have g_240_9 := (f_240 9 (Nat.ne_of_beq_eq_false rfl)).trans g_239_9
                    have g_240_10 := (f_240 10 (Nat.ne_of_beq_eq_false rfl)).trans g_239_10
                    have g_240_11 := (f_240 11 (Nat.ne_of_beq_eq_false rfl)).trans g_239_11
                    have g_240_12 := (f_240 12 (Nat.ne_of_beq_eq_false rfl)).trans g_239_12
                    have g_240_13 := (f_240 13 (Nat.ne_of_beq_eq_false rfl)).trans g_239_13
                    have g_240_15 := (f_240 15 (Nat.ne_of_beq_eq_false rfl)).trans g_239_15
                    have g_240_17 := (f_240 17 (Nat.ne_of_beq_eq_false rfl)).trans g_239_17
                    have g_240_18 := (f_240 18 (Nat.ne_of_beq_eq_false rfl)).trans g_239_18
                    have g_240_19 := (f_240 19 (Nat.ne_of_beq_eq_false rfl)).trans g_239_19
                    have g_240_21 := mf_cr_f g_239_21 (f_240 21 (Nat.ne_of_beq_eq_false rfl)) (f_240 22 (Nat.ne_of_beq_eq_false rfl)) (f_240 23 (Nat.ne_of_beq_eq_false rfl)) (f_240 24 (Nat.ne_of_beq_eq_false rfl))
                    have g_240_33 := mf_cr_f g_239_33 (f_240 33 (Nat.ne_of_beq_eq_false rfl)) (f_240 34 (Nat.ne_of_beq_eq_false rfl)) (f_240 35 (Nat.ne_of_beq_eq_false rfl)) (f_240 36 (Nat.ne_of_beq_eq_false rfl))
                    have g_240_20 : cE h_240 20 (.inl (.int, fA [n, p, i / 4, t3])) := e_240
                    refine ik_Wk 1 (pc_q := 22) (loc_q := [some (.ref 17), some (fI n), some (fI p), some (fI (i / 4)), some (fI (i % 4))]) (st_q := [.ref 17]) (h_q := h_240) (cl_q := 0) (sl_q := 0) rfl ?_
                    refine fw_gf rfl rfl g_240_17 rfl ?_
                    refine ik_Wk 2 (pc_q := 28) (loc_q := [some (.ref 17), some (fI n), some (fI p), some (fI (i / 4)), some (fI (i % 4))]) (st_q := [fI (i % 4), fI 3, .ref 20]) (h_q := h_240) (cl_q := 0) (sl_q := 0) rfl ?_
                    refine fx_ias (z := 3) rfl g_240_20 (by decide +kernel) (Nat.le_of_ble_eq_true rfl) (by decide +kernel) ?_
                    intro h_241 e_241 f_241 l_241
                    have k_241 : cL h_241 := l_241.trans k_240
                    have fr_241 := hfr_wb fr_240 f_241 l_241 rfl
                    clear l_241
                    have g_241_7 := (f_241 7 (Nat.ne_of_beq_eq_false rfl)).trans g_240_7
                    have g_241_8 := (f_241 8 (Nat.ne_of_beq_eq_false rfl)).trans g_240_8
                    have g_241_9 := (f_241 9 (Nat.ne_of_beq_eq_false rfl)).trans g_240_9
                    have g_241_10 := (f_241 10 (Nat.ne_of_beq_eq_false rfl)).trans g_240_10
                    have g_241_11 := (f_241 11 (Nat.ne_of_beq_eq_false rfl)).trans g_240_11
                    have g_241_12 := (f_241 12 (Nat.ne_of_beq_eq_false rfl)).trans g_240_12
                    have g_241_13 := (f_241 13 (Nat.ne_of_beq_eq_false rfl)).trans g_240_13
                    have g_241_15 := (f_241 15 (Nat.ne_of_beq_eq_false rfl)).trans g_240_15
                    have g_241_17 := (f_241 17 (Nat.ne_of_beq_eq_false rfl)).trans g_240_17
                    have g_241_18 := (f_241 18 (Nat.ne_of_beq_eq_false rfl)).trans g_240_18
                    have g_241_19 := (f_241 19 (Nat.ne_of_beq_eq_false rfl)).trans g_240_19
                    have g_241_21 := mf_cr_f g_240_21 (f_241 21 (Nat.ne_of_beq_eq_false rfl)) (f_241 22 (Nat.ne_of_beq_eq_false rfl)) (f_241 23 (Nat.ne_of_beq_eq_false rfl)) (f_241 24 (Nat.ne_of_beq_eq_false rfl))
                    have g_241_33 := mf_cr_f g_240_33 (f_241 33 (Nat.ne_of_beq_eq_false rfl)) (f_241 34 (Nat.ne_of_beq_eq_false rfl)) (f_241 35 (Nat.ne_of_beq_eq_false rfl)) (f_241 36 (Nat.ne_of_beq_eq_false rfl))
                    have g_241_20 : cE h_241 20 (.inl (.int, fA [n, p, i / 4, i % 4])) := e_241
                    refine ik_Wret rfl rfl ⟨_, _, rfl, rfl, ?_⟩
                    refine ik_Wk 0 (pc_q := 118) (loc_q := [some (.ref 17), some (fI e), some (fI n), some (fI p), some (fI i), some (fI (i / 4)), some (fI (i % 4))]) (st_q := []) (h_q := h_241) (cl_q := 0) (sl_q := 0) rfl ?_
                    have hG : (mk_gg cn go ch s pl ka pa fa kb pb fb e) n p i = true := decide_eq_true ⟨by omega, by omega, by omega, by omega, p_237_1⟩
                    have hZ : Z = 10000 * n + 100 * p + 10 * (i / 4) + i % 4 := by
                      rw [he, show (16 - i).toNat = (16 - (i + 1)).toNat + 1 by omega, mk_c1_s, if_pos hG]
                    exact ik_Wret rfl rfl ⟨_, _, rfl, rfl, rfl, rfl, ⟨l0_237, l1_237, l2_237, wg'_237, wc'_237, we'_237, n, p, (i / 4), (i % 4), rfl, g_241_10, m_237_10, g_241_11, m_237_11, g_241_12, m_237_12, g_241_13, m_237_13, g_241_17, g_241_19, g_241_21, g_241_33, g_241_20, p_237_0, (by rw [hZ]; exact Or.inr (mk_dg hn ⟨by omega, by omega⟩ ⟨by omega, by omega⟩ ⟨by omega, by omega⟩)), fr_241⟩⟩
                  · have k_237 : cL h_237 := F_237.1.trans ul
                    have fr_237 := hfr_cb F F_237 rfl
                    have g_237_7 := (hfr_g F_237 7 rfl).trans u7
                    have g_237_8 := (hfr_g F_237 8 rfl).trans u8
                    have g_237_9 := (hfr_g F_237 9 rfl).trans u9
                    have g_237_15 := (hfr_g F_237 15 rfl).trans u15
                    have g_237_18 := (hfr_g F_237 18 rfl).trans u18
                    have g_237_20 := (hfr_g F_237 20 rfl).trans u20
                    have g_237_10 : cE h_237 10 (.inl (.int, fA ch)) := e_237_10
                    have g_237_11 : cE h_237 11 (.inl (.int, fA wg'_237)) := e_237_11
                    have g_237_12 : cE h_237 12 (.inl (.int, fA wc'_237)) := e_237_12
                    have g_237_13 : cE h_237 13 (.inl (.int, fA we'_237)) := e_237_13
                    have g_237_17 : cE h_237 17 (.inr (8, [.ref 7, .ref 15, .ref 18, .ref 19, fJ l2_237, .ref 20])) := e_237_17
                    have g_237_19 : cE h_237 19 (.inl (.long, fL [l0_237, l1_237])) := e_237_19
                    have g_237_21 : mf_cr h_237 21  := e_237_21
                    have g_237_33 : mf_cr h_237 33  := e_237_33
                    refine ik_Wk 0 (pc_q := 105) (loc_q := [some (.ref 17), some (fI e), some (fI n), some (fI p), some (fI i), some (fI (i / 4)), some (fI (i % 4))]) (st_q := [fI 0]) (h_q := h_237) (cl_q := 0) (sl_q := 0) rfl ?_
                    refine fw_if_eq rfl rfl (by decide +kernel) (by decide +kernel) (fun hc24 => ?_) (fun hc24 => absurd hc24 (by decide +kernel))
                    refine fw_inc (a := i) (loc_q := [some (.ref 17), some (fI e), some (fI n), some (fI p), some (fI (i + 1)), some (fI (i / 4)), some (fI (i % 4))]) rfl rfl (Nat.le_of_ble_eq_true rfl) rfl ?_
                    refine ik_Wk 1 (pc_q := 46) (loc_q := [some (.ref 17), some (fI e), some (fI n), some (fI p), some (fI (i + 1)), some (fI (i / 4)), some (fI (i % 4))]) (st_q := []) (h_q := h_237) (cl_q := 0) (sl_q := 0) rfl ?_
                    have hG : (mk_gg cn go ch s pl ka pa fa kb pb fb e) n p i = false := decide_eq_false (by omega)
                    have he2 : Z = mk_c1 (mk_gg cn go ch s pl ka pa fa kb pb fb e) n p (16 - (i + 1)).toNat (i + 1) z := by
                      rw [he, show (16 - i).toNat = (16 - (i + 1)).toNat + 1 by omega, mk_c1_s, hG, if_neg (by decide +kernel)]
                    exact ih (i + 1) l0_237 l1_237 l2_237 wg'_237 wc'_237 we'_237 (some (fI (i / 4))) (some (fI (i % 4))) h_237 g_237_7 g_237_8 n8 g_237_9 n9 g_237_10 m_237_10 g_237_11 m_237_11 g_237_12 m_237_12 g_237_13 m_237_13 g_237_15 g_237_17 g_237_18 g_237_19 g_237_20 g_237_21 g_237_33 k_237 fr_237 (by omega) p_237_0 he2 rfl rfl (by omega)

theorem cs_fairP {h : List ik_E} {pl : Int} {lo : Int} {s : Nat} {ka : Int} {pa : Int} {fa : Int} {kb : Int} {pb : Int} {fb : Int} {bo : Int} {la : Int} {lb : Int} {t0 : Int} {t1 : Int} {t2 : Int} {t3 : Int} {wg : List Int} {wc : List Int} {we : List Int} {cn : List Int} {go : List Int} {ch : List Int} {e : Int} (q0 : 2 ≤ pl ∧ pl ≤ 12) (q1 : 0 ≤ ka ∧ ka ≤ 2 ∧ 0 ≤ kb ∧ kb ≤ 2) (q2 : 0 ≤ pa ∧ pa < pl - 1) (q3 : 0 ≤ pb ∧ pb < pl - 1) (q4 : 0 ≤ fa ∧ fa ≤ 30 ∧ 0 ≤ fb ∧ fb ≤ 30) (q5 : ∀ x : Int, (0 : Int) ≤ x → x < pl - 1 → mx_wy wg wc we x (mx_w cn go ch s x)) (q6 : mx_rw pl cn go ch) (q7 : True) (q8 : s < 4096) (q9 : (0 : Int) ≤ e ∧ e ≤ (1000000 : Int)) (Z : Int) (n : Int) (hn : (1 : Int) ≤ n ∧ n ≤ (20 : Int)) (z : Int)  (K : ∀ (w : List ik_E) (p2 : Int) (l0 : Int) (l1 : Int) (l2 : Int) (wg1 : List Int) (wc1 : List Int) (we1 : List Int) (x4 : Option Value) (x5 : Option Value) (x6 : Option Value) (w7 : cE w 7 (.inr (0, [fI pl, fI ((s : Nat) : Int), fI lo, .ref 8, .ref 9, .ref 10, .ref 11, .ref 12, .ref 13]))) (w8 : cE w 8 (.inl (.int, fA cn))) (nw_8 : cn.length = (12 : Nat)) (w9 : cE w 9 (.inl (.int, fA go))) (nw_9 : go.length = (48 : Nat)) (w10 : cE w 10 (.inl (.int, fA ch))) (nw_10 : ch.length = (48 : Nat)) (w11 : cE w 11 (.inl (.int, fA wg1))) (nw_11 : wg1.length = (60 : Nat)) (w12 : cE w 12 (.inl (.int, fA wc1))) (nw_12 : wc1.length = (60 : Nat)) (w13 : cE w 13 (.inl (.int, fA we1))) (nw_13 : we1.length = (12 : Nat)) (w15 : cE w 15 (.inl (.int, fA [ka, pa, fa, kb, pb, fb]))) (w17 : cE w 17 (.inr (8, [.ref 7, .ref 15, .ref 18, .ref 19, fJ l2, .ref 20]))) (w18 : cE w 18 (.inl (.object "SlowerCork$Course", [.ref 21, .ref 25, .ref 29, .ref 33, .ref 37, .ref 41]))) (w19 : cE w 19 (.inl (.long, fL [l0, l1]))) (w20 : cE w 20 (.inl (.int, fA [t0, t1, t2, t3]))) (w21 : mf_cr w 21 ) (w33 : mf_cr w 33 ) (wl : w.length = (94 : Nat)) (F : hfr [10, 11, 12, 13, 17, 19, 20, 21, 22, 23, 24, 33, 34, 35, 36] h w) (hy : ∀ x : Int, (0 : Int) ≤ x → x < pl - 1 → mx_wy wg1 wc1 we1 x (mx_w cn go ch s x)) (he : Z = z) (w4 : ik_wl 94 x4 = true) (w5 : ik_wl 94 x5 = true) (w6 : ik_wl 94 x6 = true), ik_G 86 131 [some (.ref 17), some (fI e), some (fI n), some (fI p2), x4, x5, x6] [] w (cs_fairQ h pl lo s ka pa fa kb pb fb bo la lb t0 t1 t2 t3 wg wc we cn go ch e Z)) : ∀ (k : Nat) (p : Int) (l0 : Int) (l1 : Int) (l2 : Int) (wg1 : List Int) (wc1 : List Int) (we1 : List Int) (x4 : Option Value) (x5 : Option Value) (x6 : Option Value) (u : List ik_E) (u7 : cE u 7 (.inr (0, [fI pl, fI ((s : Nat) : Int), fI lo, .ref 8, .ref 9, .ref 10, .ref 11, .ref 12, .ref 13]))) (u8 : cE u 8 (.inl (.int, fA cn))) (n8 : cn.length = (12 : Nat)) (u9 : cE u 9 (.inl (.int, fA go))) (n9 : go.length = (48 : Nat)) (u10 : cE u 10 (.inl (.int, fA ch))) (n10 : ch.length = (48 : Nat)) (u11 : cE u 11 (.inl (.int, fA wg1))) (n11 : wg1.length = (60 : Nat)) (u12 : cE u 12 (.inl (.int, fA wc1))) (n12 : wc1.length = (60 : Nat)) (u13 : cE u 13 (.inl (.int, fA we1))) (n13 : we1.length = (12 : Nat)) (u15 : cE u 15 (.inl (.int, fA [ka, pa, fa, kb, pb, fb]))) (u17 : cE u 17 (.inr (8, [.ref 7, .ref 15, .ref 18, .ref 19, fJ l2, .ref 20]))) (u18 : cE u 18 (.inl (.object "SlowerCork$Course", [.ref 21, .ref 25, .ref 29, .ref 33, .ref 37, .ref 41]))) (u19 : cE u 19 (.inl (.long, fL [l0, l1]))) (u20 : cE u 20 (.inl (.int, fA [t0, t1, t2, t3]))) (u21 : mf_cr u 21 ) (u33 : mf_cr u 33 ) (ul : u.length = (94 : Nat)) (F : hfr [10, 11, 12, 13, 17, 19, 20, 21, 22, 23, 24, 33, 34, 35, 36] h u) (hp : (0 : Int) ≤ p ∧ p ≤ pl - 1) (hy : ∀ x : Int, (0 : Int) ≤ x → x < pl - 1 → mx_wy wg1 wc1 we1 x (mx_w cn go ch s x)) (he : Z = mk_c2 (mk_gg cn go ch s pl ka pa fa kb pb fb e) n (pl - 1 - p).toNat p z) (w4 : ik_wl 94 x4 = true) (w5 : ik_wl 94 x5 = true) (w6 : ik_wl 94 x6 = true) (hk : pl - 1 - p < (k : Int)), ik_G 86 32 [some (.ref 17), some (fI e), some (fI n), some (fI p), x4, x5, x6] [] u (cs_fairQ h pl lo s ka pa fa kb pb fb bo la lb t0 t1 t2 t3 wg wc we cn go ch e Z) := by
  intro k
  induction k with
  | zero => intro p l0 l1 l2 wg1 wc1 we1 x4 x5 x6 u u7 u8 n8 u9 n9 u10 n10 u11 n11 u12 n12 u13 n13 u15 u17 u18 u19 u20 u21 u33 ul F hp hy he w4 w5 w6 hk; omega
  | succ k ih =>
    intro p l0 l1 l2 wg1 wc1 we1 x4 x5 x6 u u7 u8 n8 u9 n9 u10 n10 u11 n11 u12 n12 u13 n13 u15 u17 u18 u19 u20 u21 u33 ul F hp hy he w4 w5 w6 hk
    refine ik_Wk 2 (pc_q := 34) (loc_q := [some (.ref 17), some (fI e), some (fI n), some (fI p), x4, x5, x6]) (st_q := [.ref 17, fI p]) (h_q := u) (cl_q := 0) (sl_q := 0) rfl ?_
    refine fw_gf rfl rfl u17 rfl ?_
    refine ik_Wc 2 1 0 [.ref 7] [fI p] rfl rfl rfl (by decide +kernel) rfl rfl (fw_rec ul (fw_ftx rfl (wv_c rfl wv_n) (wl_c rfl (wl_c rfl (wl_c rfl (wl_c rfl (wl_c w4 (wl_c w5 (wl_c w6 wl_n)))))))) u7 rfl (by decide +kernel)) ?_
    refine ik_Wk 0 (pc_q := 0) (loc_q := [some (.ref 7)]) (st_q := []) (h_q := u) (cl_q := 0) (sl_q := 0) rfl ?_
    refine ik_Wk 1 (pc_q := 1) (loc_q := [some (.ref 7)]) (st_q := [.ref 7]) (h_q := u) (cl_q := 0) (sl_q := 0) rfl ?_
    refine fw_gf rfl rfl u7 rfl ?_
    refine ik_Wk 1 (pc_q := 5) (loc_q := [some (.ref 7)]) (st_q := [fI 1, fI pl]) (h_q := u) (cl_q := 0) (sl_q := 0) rfl ?_
    refine fw_sub rfl ?_
    refine ik_Wret rfl rfl ⟨_, _, rfl, rfl, ?_⟩
    refine ik_Wk 0 (pc_q := 40) (loc_q := [some (.ref 17), some (fI e), some (fI n), some (fI p), x4, x5, x6]) (st_q := [fI (pl - 1), fI p]) (h_q := u) (cl_q := 0) (sl_q := 0) rfl ?_
    refine fw_ic_ge rfl rfl (by omega) (by omega) (by omega) (by omega) (fun hc1 => ?_) (fun hc1 => ?_)
    · rw [show (pl - 1 - p).toNat = 0 by omega, mk_c2_0] at he
      exact K u p l0 l1 l2 wg1 wc1 we1 x4 x5 x6 u7 u8 n8 u9 n9 u10 n10 u11 n11 u12 n12 u13 n13 u15 u17 u18 u19 u20 u21 u33 ul F hy he w4 w5 w6
    · refine ik_Wk 2 (pc_q := 46) (loc_q := [some (.ref 17), some (fI e), some (fI n), some (fI p), some (fI 0), x5, x6]) (st_q := []) (h_q := u) (cl_q := 0) (sl_q := 0) rfl ?_
      refine cs_fairK (pl := pl) (lo := lo) (s := s) (ka := ka) (pa := pa) (fa := fa) (kb := kb) (pb := pb) (fb := fb) (bo := bo) (la := la) (lb := lb) (t0 := t0) (t1 := t1) (t2 := t2) (t3 := t3) (wg := wg) (wc := wc) (we := we) (cn := cn) (go := go) (ch := ch) (e := e) q0 q1 q2 q3 q4 q5 q6 q7 q8 q9 Z n hn p (by omega) (mk_c2 (mk_gg cn go ch s pl ka pa fa kb pb fb e) n (pl - 1 - (p + 1)).toNat (p + 1) z)  (fun h_242 i2_242 l0_242 l1_242 l2_242 wg1_242 wc1_242 we1_242 x5_242 x6_242 g_242_7 g_242_8 m_242_8 g_242_9 m_242_9 g_242_10 m_242_10 g_242_11 m_242_11 g_242_12 m_242_12 g_242_13 m_242_13 g_242_15 g_242_17 g_242_18 g_242_19 g_242_20 g_242_21 g_242_33 k_242 fr_242 hy_242 he_242 w5_242 w6_242 => ?_) 17 0 l0 l1 l2 wg1 wc1 we1 x5 x6 u u7 u8 n8 u9 n9 u10 n10 u11 n11 u12 n12 u13 n13 u15 u17 u18 u19 u20 u21 u33 ul F (by omega) hy (by rw [he, show (pl - 1 - p).toNat = (pl - 1 - (p + 1)).toNat + 1 by omega, mk_c2_s, show (16 - (0 : Int)).toNat = 16 from rfl]) w5 w6 (by omega)
      refine fw_inc (a := p) (loc_q := [some (.ref 17), some (fI e), some (fI n), some (fI (p + 1)), some (fI i2_242), x5_242, x6_242]) rfl rfl (Nat.le_of_ble_eq_true rfl) rfl ?_
      refine ik_Wk 1 (pc_q := 32) (loc_q := [some (.ref 17), some (fI e), some (fI n), some (fI (p + 1)), some (fI i2_242), x5_242, x6_242]) (st_q := []) (h_q := h_242) (cl_q := 0) (sl_q := 0) rfl ?_
      exact ih (p + 1) l0_242 l1_242 l2_242 wg1_242 wc1_242 we1_242 (some (fI i2_242)) x5_242 x6_242 h_242 g_242_7 g_242_8 m_242_8 g_242_9 m_242_9 g_242_10 m_242_10 g_242_11 m_242_11 g_242_12 m_242_12 g_242_13 m_242_13 g_242_15 g_242_17 g_242_18 g_242_19 g_242_20 g_242_21 g_242_33 k_242 fr_242 (by omega) hy_242 he_242 rfl w5_242 w6_242 (by omega)

theorem cs_fairN {h : List ik_E} {pl : Int} {lo : Int} {s : Nat} {ka : Int} {pa : Int} {fa : Int} {kb : Int} {pb : Int} {fb : Int} {bo : Int} {la : Int} {lb : Int} {t0 : Int} {t1 : Int} {t2 : Int} {t3 : Int} {wg : List Int} {wc : List Int} {we : List Int} {cn : List Int} {go : List Int} {ch : List Int} {e : Int} (q0 : 2 ≤ pl ∧ pl ≤ 12) (q1 : 0 ≤ ka ∧ ka ≤ 2 ∧ 0 ≤ kb ∧ kb ≤ 2) (q2 : 0 ≤ pa ∧ pa < pl - 1) (q3 : 0 ≤ pb ∧ pb < pl - 1) (q4 : 0 ≤ fa ∧ fa ≤ 30 ∧ 0 ≤ fb ∧ fb ≤ 30) (q5 : ∀ x : Int, (0 : Int) ≤ x → x < pl - 1 → mx_wy wg wc we x (mx_w cn go ch s x)) (q6 : mx_rw pl cn go ch) (q7 : True) (q8 : s < 4096) (q9 : (0 : Int) ≤ e ∧ e ≤ (1000000 : Int)) (Z : Int) : ∀ (k : Nat) (n : Int) (l0 : Int) (l1 : Int) (l2 : Int) (wg1 : List Int) (wc1 : List Int) (we1 : List Int) (x3 : Option Value) (x4 : Option Value) (x5 : Option Value) (x6 : Option Value) (u : List ik_E) (u7 : cE u 7 (.inr (0, [fI pl, fI ((s : Nat) : Int), fI lo, .ref 8, .ref 9, .ref 10, .ref 11, .ref 12, .ref 13]))) (u8 : cE u 8 (.inl (.int, fA cn))) (n8 : cn.length = (12 : Nat)) (u9 : cE u 9 (.inl (.int, fA go))) (n9 : go.length = (48 : Nat)) (u10 : cE u 10 (.inl (.int, fA ch))) (n10 : ch.length = (48 : Nat)) (u11 : cE u 11 (.inl (.int, fA wg1))) (n11 : wg1.length = (60 : Nat)) (u12 : cE u 12 (.inl (.int, fA wc1))) (n12 : wc1.length = (60 : Nat)) (u13 : cE u 13 (.inl (.int, fA we1))) (n13 : we1.length = (12 : Nat)) (u15 : cE u 15 (.inl (.int, fA [ka, pa, fa, kb, pb, fb]))) (u17 : cE u 17 (.inr (8, [.ref 7, .ref 15, .ref 18, .ref 19, fJ l2, .ref 20]))) (u18 : cE u 18 (.inl (.object "SlowerCork$Course", [.ref 21, .ref 25, .ref 29, .ref 33, .ref 37, .ref 41]))) (u19 : cE u 19 (.inl (.long, fL [l0, l1]))) (u20 : cE u 20 (.inl (.int, fA [t0, t1, t2, t3]))) (u21 : mf_cr u 21 ) (u33 : mf_cr u 33 ) (ul : u.length = (94 : Nat)) (F : hfr [10, 11, 12, 13, 17, 19, 20, 21, 22, 23, 24, 33, 34, 35, 36] h u) (hn : (1 : Int) ≤ n ∧ n ≤ (21 : Int)) (hy : ∀ x : Int, (0 : Int) ≤ x → x < pl - 1 → mx_wy wg1 wc1 we1 x (mx_w cn go ch s x)) (he : Z = mk_c3 (mk_gg cn go ch s pl ka pa fa kb pb fb e) (pl - 1).toNat (21 - n).toNat n) (w3 : ik_wl 94 x3 = true) (w4 : ik_wl 94 x4 = true) (w5 : ik_wl 94 x5 = true) (w6 : ik_wl 94 x6 = true) (hk : 21 - n < (k : Int)), ik_G 86 24 [some (.ref 17), some (fI e), some (fI n), x3, x4, x5, x6] [] u (cs_fairQ h pl lo s ka pa fa kb pb fb bo la lb t0 t1 t2 t3 wg wc we cn go ch e Z) := by
  intro k
  induction k with
  | zero => intro n l0 l1 l2 wg1 wc1 we1 x3 x4 x5 x6 u u7 u8 n8 u9 n9 u10 n10 u11 n11 u12 n12 u13 n13 u15 u17 u18 u19 u20 u21 u33 ul F hn hy he w3 w4 w5 w6 hk; omega
  | succ k ih =>
    intro n l0 l1 l2 wg1 wc1 we1 x3 x4 x5 x6 u u7 u8 n8 u9 n9 u10 n10 u11 n11 u12 n12 u13 n13 u15 u17 u18 u19 u20 u21 u33 ul F hn hy he w3 w4 w5 w6 hk
    refine ik_Wk 1 (pc_q := 25) (loc_q := [some (.ref 17), some (fI e), some (fI n), x3, x4, x5, x6]) (st_q := [fI n]) (h_q := u) (cl_q := 0) (sl_q := 0) rfl ?_
    refine fw_bi rfl (by decide +kernel) ?_
    refine fw_ic_gt rfl rfl (by omega) (by omega) (by omega) (by omega) (fun hc1 => ?_) (fun hc1 => ?_)
    · refine ik_Wk 5 (pc_q := 142) (loc_q := [some (.ref 17), some (fI e), some (fI n), x3, x4, x5, x6]) (st_q := [fI (-1), fI (-1), fI (-1), fI (-1), .ref 17]) (h_q := u) (cl_q := 0) (sl_q := 0) rfl ?_
      refine ik_Wc 88 5 0 [.ref 17, fI (-1), fI (-1), fI (-1), fI (-1)] [] rfl rfl rfl (by decide +kernel) rfl rfl (fw_rec ul (fw_ftx rfl wv_n (wl_c rfl (wl_c rfl (wl_c rfl (wl_c w3 (wl_c w4 (wl_c w5 (wl_c w6 wl_n)))))))) u17 rfl (by decide +kernel)) ?_
      refine ik_Wk 0 (pc_q := 0) (loc_q := [some (.ref 17), some (fI (-1)), some (fI (-1)), some (fI (-1)), some (fI (-1))]) (st_q := []) (h_q := u) (cl_q := 0) (sl_q := 0) rfl ?_
      refine ik_Wk 1 (pc_q := 1) (loc_q := [some (.ref 17), some (fI (-1)), some (fI (-1)), some (fI (-1)), some (fI (-1))]) (st_q := [.ref 17]) (h_q := u) (cl_q := 0) (sl_q := 0) rfl ?_
      refine fw_gf rfl rfl u17 rfl ?_
      refine ik_Wk 2 (pc_q := 6) (loc_q := [some (.ref 17), some (fI (-1)), some (fI (-1)), some (fI (-1)), some (fI (-1))]) (st_q := [fI (-1), fI 0, .ref 20]) (h_q := u) (cl_q := 0) (sl_q := 0) rfl ?_
      refine fx_ias (z := 0) rfl u20 (by decide +kernel) (Nat.le_of_ble_eq_true rfl) (by decide +kernel) ?_
      intro h_243 e_243 f_243 l_243
      have k_243 : cL h_243 := l_243.trans ul
      have fr_243 := hfr_wb F f_243 l_243 rfl
      clear l_243
      have g_243_7 := (f_243 7 (Nat.ne_of_beq_eq_false rfl)).trans u7
      have g_243_8 := (f_243 8 (Nat.ne_of_beq_eq_false rfl)).trans u8
      have g_243_9 := (f_243 9 (Nat.ne_of_beq_eq_false rfl)).trans u9
      have g_243_10 := (f_243 10 (Nat.ne_of_beq_eq_false rfl)).trans u10
      have g_243_11 := (f_243 11 (Nat.ne_of_beq_eq_false rfl)).trans u11
      have g_243_12 := (f_243 12 (Nat.ne_of_beq_eq_false rfl)).trans u12
      have g_243_13 := (f_243 13 (Nat.ne_of_beq_eq_false rfl)).trans u13
      have g_243_15 := (f_243 15 (Nat.ne_of_beq_eq_false rfl)).trans u15
      have g_243_17 := (f_243 17 (Nat.ne_of_beq_eq_false rfl)).trans u17
      have g_243_18 := (f_243 18 (Nat.ne_of_beq_eq_false rfl)).trans u18
      have g_243_19 := (f_243 19 (Nat.ne_of_beq_eq_false rfl)).trans u19
      have g_243_21 := mf_cr_f u21 (f_243 21 (Nat.ne_of_beq_eq_false rfl)) (f_243 22 (Nat.ne_of_beq_eq_false rfl)) (f_243 23 (Nat.ne_of_beq_eq_false rfl)) (f_243 24 (Nat.ne_of_beq_eq_false rfl))
      have g_243_33 := mf_cr_f u33 (f_243 33 (Nat.ne_of_beq_eq_false rfl)) (f_243 34 (Nat.ne_of_beq_eq_false rfl)) (f_243 35 (Nat.ne_of_beq_eq_false rfl)) (f_243 36 (Nat.ne_of_beq_eq_false rfl))
      have g_243_20 : cE h_243 20 (.inl (.int, fA [-1, t1, t2, t3])) := e_243
      refine ik_Wk 1 (pc_q := 8) (loc_q := [some (.ref 17), some (fI (-1)), some (fI (-1)), some (fI (-1)), some (fI (-1))]) (st_q := [.ref 17]) (h_q := h_243) (cl_q := 0) (sl_q := 0) rfl ?_
      refine fw_gf rfl rfl g_243_17 rfl ?_
      refine ik_Wk 2 (pc_q := 13) (loc_q := [some (.ref 17), some (fI (-1)), some (fI (-1)), some (fI (-1)), some (fI (-1))]) (st_q := [fI (-1), fI 1, .ref 20]) (h_q := h_243) (cl_q := 0) (sl_q := 0) rfl ?_
      refine fx_ias (z := 1) rfl g_243_20 (by decide +kernel) (Nat.le_of_ble_eq_true rfl) (by decide +kernel) ?_
      intro h_244 e_244 f_244 l_244
      have k_244 : cL h_244 := l_244.trans k_243
      have fr_244 := hfr_wb fr_243 f_244 l_244 rfl
      clear l_244
      have g_244_7 := (f_244 7 (Nat.ne_of_beq_eq_false rfl)).trans g_243_7
      have g_244_8 := (f_244 8 (Nat.ne_of_beq_eq_false rfl)).trans g_243_8
      have g_244_9 := (f_244 9 (Nat.ne_of_beq_eq_false rfl)).trans g_243_9
      have g_244_10 := (f_244 10 (Nat.ne_of_beq_eq_false rfl)).trans g_243_10
      have g_244_11 := (f_244 11 (Nat.ne_of_beq_eq_false rfl)).trans g_243_11
      have g_244_12 := (f_244 12 (Nat.ne_of_beq_eq_false rfl)).trans g_243_12
      have g_244_13 := (f_244 13 (Nat.ne_of_beq_eq_false rfl)).trans g_243_13
      have g_244_15 := (f_244 15 (Nat.ne_of_beq_eq_false rfl)).trans g_243_15
      have g_244_17 := (f_244 17 (Nat.ne_of_beq_eq_false rfl)).trans g_243_17
      have g_244_18 := (f_244 18 (Nat.ne_of_beq_eq_false rfl)).trans g_243_18
      have g_244_19 := (f_244 19 (Nat.ne_of_beq_eq_false rfl)).trans g_243_19
      have g_244_21 := mf_cr_f g_243_21 (f_244 21 (Nat.ne_of_beq_eq_false rfl)) (f_244 22 (Nat.ne_of_beq_eq_false rfl)) (f_244 23 (Nat.ne_of_beq_eq_false rfl)) (f_244 24 (Nat.ne_of_beq_eq_false rfl))
      have g_244_33 := mf_cr_f g_243_33 (f_244 33 (Nat.ne_of_beq_eq_false rfl)) (f_244 34 (Nat.ne_of_beq_eq_false rfl)) (f_244 35 (Nat.ne_of_beq_eq_false rfl)) (f_244 36 (Nat.ne_of_beq_eq_false rfl))
      have g_244_20 : cE h_244 20 (.inl (.int, fA [-1, -1, t2, t3])) := e_244
      refine ik_Wk 1 (pc_q := 15) (loc_q := [some (.ref 17), some (fI (-1)), some (fI (-1)), some (fI (-1)), some (fI (-1))]) (st_q := [.ref 17]) (h_q := h_244) (cl_q := 0) (sl_q := 0) rfl ?_
      refine fw_gf rfl rfl g_244_17 rfl ?_
      refine ik_Wk 2 (pc_q := 20) (loc_q := [some (.ref 17), some (fI (-1)), some (fI (-1)), some (fI (-1)), some (fI (-1))]) (st_q := [fI (-1), fI 2, .ref 20]) (h_q := h_244) (cl_q := 0) (sl_q := 0) rfl ?_
      refine fx_ias (z := 2) rfl g_244_20 (by decide +kernel) (Nat.le_of_ble_eq_true rfl) (by decide +kernel) ?_
      intro h_245 e_245 f_245 l_245
      have k_245 : cL h_245 := l_245.trans k_244
      have fr_245 := hfr_wb fr_244 f_245 l_245 rfl
      clear l_245
      have g_245_7 := (f_245 7 (Nat.ne_of_beq_eq_false rfl)).trans g_244_7
      have g_245_8 := (f_245 8 (Nat.ne_of_beq_eq_false rfl)).trans g_244_8
      have g_245_9 := (f_245 9 (Nat.ne_of_beq_eq_false rfl)).trans g_244_9
      have g_245_10 := (f_245 10 (Nat.ne_of_beq_eq_false rfl)).trans g_244_10
      have g_245_11 := (f_245 11 (Nat.ne_of_beq_eq_false rfl)).trans g_244_11
      have g_245_12 := (f_245 12 (Nat.ne_of_beq_eq_false rfl)).trans g_244_12
      have g_245_13 := (f_245 13 (Nat.ne_of_beq_eq_false rfl)).trans g_244_13
      have g_245_15 := (f_245 15 (Nat.ne_of_beq_eq_false rfl)).trans g_244_15
      have g_245_17 := (f_245 17 (Nat.ne_of_beq_eq_false rfl)).trans g_244_17
      have g_245_18 := (f_245 18 (Nat.ne_of_beq_eq_false rfl)).trans g_244_18
      have g_245_19 := (f_245 19 (Nat.ne_of_beq_eq_false rfl)).trans g_244_19
      have g_245_21 := mf_cr_f g_244_21 (f_245 21 (Nat.ne_of_beq_eq_false rfl)) (f_245 22 (Nat.ne_of_beq_eq_false rfl)) (f_245 23 (Nat.ne_of_beq_eq_false rfl)) (f_245 24 (Nat.ne_of_beq_eq_false rfl))
      have g_245_33 := mf_cr_f g_244_33 (f_245 33 (Nat.ne_of_beq_eq_false rfl)) (f_245 34 (Nat.ne_of_beq_eq_false rfl)) (f_245 35 (Nat.ne_of_beq_eq_false rfl)) (f_245 36 (Nat.ne_of_beq_eq_false rfl))
      have g_245_20 : cE h_245 20 (.inl (.int, fA [-1, -1, -1, t3])) := e_245
      refine ik_Wk 1 (pc_q := 22) (loc_q := [some (.ref 17), some (fI (-1)), some (fI (-1)), some (fI (-1)), some (fI (-1))]) (st_q := [.ref 17]) (h_q := h_245) (cl_q := 0) (sl_q := 0) rfl ?_
      refine fw_gf rfl rfl g_245_17 rfl ?_
      refine ik_Wk 2 (pc_q := 28) (loc_q := [some (.ref 17), some (fI (-1)), some (fI (-1)), some (fI (-1)), some (fI (-1))]) (st_q := [fI (-1), fI 3, .ref 20]) (h_q := h_245) (cl_q := 0) (sl_q := 0) rfl ?_
      refine fx_ias (z := 3) rfl g_245_20 (by decide +kernel) (Nat.le_of_ble_eq_true rfl) (by decide +kernel) ?_
      intro h_246 e_246 f_246 l_246
      have k_246 : cL h_246 := l_246.trans k_245
      have fr_246 := hfr_wb fr_245 f_246 l_246 rfl
      clear l_246
      have g_246_7 := (f_246 7 (Nat.ne_of_beq_eq_false rfl)).trans g_245_7
      have g_246_8 := (f_246 8 (Nat.ne_of_beq_eq_false rfl)).trans g_245_8
      have g_246_9 := (f_246 9 (Nat.ne_of_beq_eq_false rfl)).trans g_245_9
      have g_246_10 := (f_246 10 (Nat.ne_of_beq_eq_false rfl)).trans g_245_10
      have g_246_11 := (f_246 11 (Nat.ne_of_beq_eq_false rfl)).trans g_245_11
      have g_246_12 := (f_246 12 (Nat.ne_of_beq_eq_false rfl)).trans g_245_12
      have g_246_13 := (f_246 13 (Nat.ne_of_beq_eq_false rfl)).trans g_245_13
      have g_246_15 := (f_246 15 (Nat.ne_of_beq_eq_false rfl)).trans g_245_15
      have g_246_17 := (f_246 17 (Nat.ne_of_beq_eq_false rfl)).trans g_245_17
      have g_246_18 := (f_246 18 (Nat.ne_of_beq_eq_false rfl)).trans g_245_18
      have g_246_19 := (f_246 19 (Nat.ne_of_beq_eq_false rfl)).trans g_245_19
      have g_246_21 := mf_cr_f g_245_21 (f_246 21 (Nat.ne_of_beq_eq_false rfl)) (f_246 22 (Nat.ne_of_beq_eq_false rfl)) (f_246 23 (Nat.ne_of_beq_eq_false rfl)) (f_246 24 (Nat.ne_of_beq_eq_false rfl))
      have g_246_33 := mf_cr_f g_245_33 (f_246 33 (Nat.ne_of_beq_eq_false rfl)) (f_246 34 (Nat.ne_of_beq_eq_false rfl)) (f_246 35 (Nat.ne_of_beq_eq_false rfl)) (f_246 36 (Nat.ne_of_beq_eq_false rfl))
      have g_246_20 : cE h_246 20 (.inl (.int, fA [-1, -1, -1, -1])) := e_246
      refine ik_Wret rfl rfl ⟨_, _, rfl, rfl, ?_⟩
      refine ik_Wk 0 (pc_q := 145) (loc_q := [some (.ref 17), some (fI e), some (fI n), x3, x4, x5, x6]) (st_q := []) (h_q := h_246) (cl_q := 0) (sl_q := 0) rfl ?_
      rw [show (21 - n).toNat = 0 by omega, mk_c3_0] at he
      have hZ : Z = -1 := he
      exact ik_Wret rfl rfl ⟨_, _, rfl, rfl, rfl, rfl, ⟨l0, l1, l2, wg1, wc1, we1, (-1), (-1), (-1), (-1), rfl, g_246_10, n10, g_246_11, n11, g_246_12, n12, g_246_13, n13, g_246_17, g_246_19, g_246_21, g_246_33, g_246_20, hy, (by rw [hZ]; exact Or.inl ⟨by omega, rfl, rfl, rfl, rfl⟩), fr_246⟩⟩
    · refine ik_Wk 2 (pc_q := 32) (loc_q := [some (.ref 17), some (fI e), some (fI n), some (fI 0), x4, x5, x6]) (st_q := []) (h_q := u) (cl_q := 0) (sl_q := 0) rfl ?_
      refine cs_fairP (pl := pl) (lo := lo) (s := s) (ka := ka) (pa := pa) (fa := fa) (kb := kb) (pb := pb) (fb := fb) (bo := bo) (la := la) (lb := lb) (t0 := t0) (t1 := t1) (t2 := t2) (t3 := t3) (wg := wg) (wc := wc) (we := we) (cn := cn) (go := go) (ch := ch) (e := e) q0 q1 q2 q3 q4 q5 q6 q7 q8 q9 Z n (by omega) (mk_c3 (mk_gg cn go ch s pl ka pa fa kb pb fb e) (pl - 1).toNat (21 - (n + 1)).toNat (n + 1))  (fun h_247 p2_247 l0_247 l1_247 l2_247 wg1_247 wc1_247 we1_247 x4_247 x5_247 x6_247 g_247_7 g_247_8 m_247_8 g_247_9 m_247_9 g_247_10 m_247_10 g_247_11 m_247_11 g_247_12 m_247_12 g_247_13 m_247_13 g_247_15 g_247_17 g_247_18 g_247_19 g_247_20 g_247_21 g_247_33 k_247 fr_247 hy_247 he_247 w4_247 w5_247 w6_247 => ?_) (pl.toNat + 1) 0 l0 l1 l2 wg1 wc1 we1 x4 x5 x6 u u7 u8 n8 u9 n9 u10 n10 u11 n11 u12 n12 u13 n13 u15 u17 u18 u19 u20 u21 u33 ul F (by omega) hy (by rw [he, show (21 - n).toNat = (21 - (n + 1)).toNat + 1 by omega, mk_c3_s, Int.sub_zero]) w4 w5 w6 (by omega)
      refine fw_inc (a := n) (loc_q := [some (.ref 17), some (fI e), some (fI (n + 1)), some (fI p2_247), x4_247, x5_247, x6_247]) rfl rfl (Nat.le_of_ble_eq_true rfl) rfl ?_
      refine ik_Wk 1 (pc_q := 24) (loc_q := [some (.ref 17), some (fI e), some (fI (n + 1)), some (fI p2_247), x4_247, x5_247, x6_247]) (st_q := []) (h_q := h_247) (cl_q := 0) (sl_q := 0) rfl ?_
      exact ih  (n + 1) l0_247 l1_247 l2_247 wg1_247 wc1_247 we1_247 (some (fI p2_247)) x4_247 x5_247 x6_247 h_247 g_247_7 g_247_8 m_247_8 g_247_9 m_247_9 g_247_10 m_247_10 g_247_11 m_247_11 g_247_12 m_247_12 g_247_13 m_247_13 g_247_15 g_247_17 g_247_18 g_247_19 g_247_20 g_247_21 g_247_33 k_247 fr_247 (by omega) hy_247 he_247 rfl w4_247 w5_247 w6_247 (by omega)

theorem cs_findFair {h : List ik_E} {pl : Int} {lo : Int} {s : Nat} {ka : Int} {pa : Int} {fa : Int} {kb : Int} {pb : Int} {fb : Int} {bo : Int} {la : Int} {lb : Int} {t0 : Int} {t1 : Int} {t2 : Int} {t3 : Int} {wg : List Int} {wc : List Int} {we : List Int} {cn : List Int} {go : List Int} {ch : List Int} {e : Int} (q0 : 2 ≤ pl ∧ pl ≤ 12) (q1 : 0 ≤ ka ∧ ka ≤ 2 ∧ 0 ≤ kb ∧ kb ≤ 2) (q2 : 0 ≤ pa ∧ pa < pl - 1) (q3 : 0 ≤ pb ∧ pb < pl - 1) (q4 : 0 ≤ fa ∧ fa ≤ 30 ∧ 0 ≤ fb ∧ fb ≤ 30) (q5 : ∀ x : Int, (0 : Int) ≤ x → x < pl - 1 → mx_wy wg wc we x (mx_w cn go ch s x)) (q6 : mx_rw pl cn go ch) (q7 : True) (q8 : s < 4096) (q9 : (0 : Int) ≤ e ∧ e ≤ (1000000 : Int)) (h7 : cE h 7 (.inr (0, [fI pl, fI ((s : Nat) : Int), fI lo, .ref 8, .ref 9, .ref 10, .ref 11, .ref 12, .ref 13]))) (h8 : cE h 8 (.inl (.int, fA cn))) (n8 : cn.length = (12 : Nat)) (h9 : cE h 9 (.inl (.int, fA go))) (n9 : go.length = (48 : Nat)) (h10 : cE h 10 (.inl (.int, fA ch))) (n10 : ch.length = (48 : Nat)) (h11 : cE h 11 (.inl (.int, fA wg))) (n11 : wg.length = (60 : Nat)) (h12 : cE h 12 (.inl (.int, fA wc))) (n12 : wc.length = (60 : Nat)) (h13 : cE h 13 (.inl (.int, fA we))) (n13 : we.length = (12 : Nat)) (h15 : cE h 15 (.inl (.int, fA [ka, pa, fa, kb, pb, fb]))) (h17 : cE h 17 (.inr (8, [.ref 7, .ref 15, .ref 18, .ref 19, fJ bo, .ref 20]))) (h18 : cE h 18 (.inl (.object "SlowerCork$Course", [.ref 21, .ref 25, .ref 29, .ref 33, .ref 37, .ref 41]))) (h19 : cE h 19 (.inl (.long, fL [la, lb]))) (h20 : cE h 20 (.inl (.int, fA [t0, t1, t2, t3]))) (h21 : mf_cr h 21 ) (h33 : mf_cr h 33 ) (hl : h.length = (94 : Nat)) : ik_F 86 [.ref 17, fI e] h (fun rv h_q => ∃ (l0 : Int) (l1 : Int) (l2 : Int) (wg' : List Int) (wc' : List Int) (we' : List Int) (z0 : Int) (z1 : Int) (z2 : Int) (z3 : Int), rv = [] ∧ cE h_q 10 (.inl (.int, fA ch)) ∧ ch.length = (48 : Nat) ∧ cE h_q 11 (.inl (.int, fA wg')) ∧ wg'.length = (60 : Nat) ∧ cE h_q 12 (.inl (.int, fA wc')) ∧ wc'.length = (60 : Nat) ∧ cE h_q 13 (.inl (.int, fA we')) ∧ we'.length = (12 : Nat) ∧ cE h_q 17 (.inr (8, [.ref 7, .ref 15, .ref 18, .ref 19, fJ l2, .ref 20])) ∧ cE h_q 19 (.inl (.long, fL [l0, l1])) ∧ mf_cr h_q 21  ∧ mf_cr h_q 33  ∧ cE h_q 20 (.inl (.int, fA [z0, z1, z2, z3])) ∧ (∀ x : Int, (0 : Int) ≤ x → x < pl - 1 → mx_wy wg' wc' we' x (mx_w cn go ch s x)) ∧ (mk_fo (mk_fz cn go ch s pl ka pa fa kb pb fb e) z0 z1 z2 z3) ∧ hfr [10, 11, 12, 13, 17, 19, 20, 21, 22, 23, 24, 33, 34, 35, 36] h h_q) := by
  refine ik_Wk 2 (pc_q := 2) (loc_q := [some (.ref 17), some (fI e), none, none, none, none, none]) (st_q := [fI e, .ref 17]) (h_q := h) (cl_q := 0) (sl_q := 0) rfl ?_
  refine fw_call 79 2 0 [.ref 17, fI e] [] rfl rfl rfl (Nat.le_of_ble_eq_true rfl) rfl rfl (fw_rec hl rfl h17 rfl (Nat.le_of_ble_eq_true rfl)) (cs_raceAsSet (pl := pl) (lo := lo) (s := s) (ka := ka) (pa := pa) (fa := fa) (kb := kb) (pb := pb) (fb := fb) (lim := e) (bo := bo) (la := la) (lb := lb) (wg := wg) (wc := wc) (we := we) (W := (fun x => mx_w cn go ch s x)) (by omega) (by omega) (by omega) (by omega) (by omega) (by omega) q5 (mx_rw_ok q6 _) h7 h11 n11 h12 n12 h13 n13 h15 h17 h18 h19 h21 h33 hl) ?_
  rintro _ h_248 ⟨l0_248, l1_248, l2_248, rfl, e_248_17, e_248_19, e_248_21, e_248_33, p_248_0, p_248_1, F_248⟩
  have k_248 : cL h_248 := F_248.1.trans hl
  have fr_248 := hfr_cb (hfr_refl [10, 11, 12, 13, 17, 19, 20, 21, 22, 23, 24, 33, 34, 35, 36] h) F_248 rfl
  have g_248_7 := (hfr_g F_248 7 rfl).trans h7
  have g_248_8 := (hfr_g F_248 8 rfl).trans h8
  have g_248_9 := (hfr_g F_248 9 rfl).trans h9
  have g_248_10 := (hfr_g F_248 10 rfl).trans h10
  have g_248_11 := (hfr_g F_248 11 rfl).trans h11
  have g_248_12 := (hfr_g F_248 12 rfl).trans h12
  have g_248_13 := (hfr_g F_248 13 rfl).trans h13
  have g_248_15 := (hfr_g F_248 15 rfl).trans h15
  have g_248_18 := (hfr_g F_248 18 rfl).trans h18
  have g_248_20 := (hfr_g F_248 20 rfl).trans h20
  have g_248_17 : cE h_248 17 (.inr (8, [.ref 7, .ref 15, .ref 18, .ref 19, fJ l2_248, .ref 20])) := e_248_17
  have g_248_19 : cE h_248 19 (.inl (.long, fL [l0_248, l1_248])) := e_248_19
  have g_248_21 : mf_cr h_248 21  := e_248_21
  have g_248_33 : mf_cr h_248 33  := e_248_33
  refine ik_Wk 0 (pc_q := 5) (loc_q := [some (.ref 17), some (fI e), none, none, none, none, none]) (st_q := []) (h_q := h_248) (cl_q := 0) (sl_q := 0) rfl ?_
  have ka_248 := mr_ok_cm (W := (fun x => mx_w cn go ch s x)) (k := ka) (mx_rw_ok q6 _) q2
  have kb_248 := mr_ok_cm (W := (fun x => mx_w cn go ch s x)) (k := kb) (mx_rw_ok q6 _) q3
  have Fa_248 := mr_F_b ka_248 kb_248 fa (show 0 ≤ fb by omega)
  have Fb_248 := mr_F_b kb_248 ka_248 fb (show 0 ≤ fa by omega)
  have hg_248 : mk_gap cn go ch s pl ka pa fa kb pb fb = mk_ab (mr_F0 (mf_cm (fun x => mx_w cn go ch s x) (pl - 1) ka pa) fa (mf_cm (fun x => mx_w cn go ch s x) (pl - 1) kb pb) fb / 1000 - mr_F0 (mf_cm (fun x => mx_w cn go ch s x) (pl - 1) kb pb) fb (mf_cm (fun x => mx_w cn go ch s x) (pl - 1) ka pa) fa / 1000) := by show mk_ab (mr_w _ _ _ _ 0 - mr_w _ _ _ _ 1) = _; rw [mr_w_0, mr_w_1]
  refine ik_Wk 1 (pc_q := 6) (loc_q := [some (.ref 17), some (fI e), none, none, none, none, none]) (st_q := [.ref 17]) (h_q := h_248) (cl_q := 0) (sl_q := 0) rfl ?_
  refine ik_Wc 76 1 0 [.ref 17] [] rfl rfl rfl (by decide +kernel) rfl rfl (fw_rec k_248 rfl g_248_17 rfl (Nat.le_of_ble_eq_true rfl)) ?_
  refine ik_Wk 0 (pc_q := 0) (loc_q := [some (.ref 17)]) (st_q := []) (h_q := h_248) (cl_q := 0) (sl_q := 0) rfl ?_
  refine ik_Wk 2 (pc_q := 2) (loc_q := [some (.ref 17)]) (st_q := [fI 0, .ref 17]) (h_q := h_248) (cl_q := 0) (sl_q := 0) rfl ?_
  refine ik_Wc 74 2 0 [.ref 17, fI 0] [] rfl rfl rfl (by decide +kernel) rfl rfl (fw_rec k_248 rfl g_248_17 rfl (Nat.le_of_ble_eq_true rfl)) ?_
  refine ik_Wk 0 (pc_q := 0) (loc_q := [some (.ref 17), some (fI 0)]) (st_q := []) (h_q := h_248) (cl_q := 0) (sl_q := 0) rfl ?_
  refine ik_Wk 1 (pc_q := 1) (loc_q := [some (.ref 17), some (fI 0)]) (st_q := [.ref 17]) (h_q := h_248) (cl_q := 0) (sl_q := 0) rfl ?_
  refine fw_gf rfl rfl g_248_17 rfl ?_
  refine ik_Wk 1 (pc_q := 5) (loc_q := [some (.ref 17), some (fI 0)]) (st_q := [fI 0, .ref 19]) (h_q := h_248) (cl_q := 0) (sl_q := 0) rfl ?_
  refine fx_lal (z := 0) rfl g_248_19 (by decide +kernel) (Nat.le_of_ble_eq_true rfl) (by decide +kernel) ?_
  refine ik_Wk 0 (pc_q := 6) (loc_q := [some (.ref 17), some (fI 0)]) (st_q := [fJ l0_248]) (h_q := h_248) (cl_q := 0) (sl_q := 0) rfl ?_
  refine fw_l2 1000 rfl rfl (by decide +kernel) ?_
  refine fx_ldiv rfl (by omega) (by omega) (by omega) (by omega) ?_
  refine fx_l2i rfl ?_
  refine ik_Wret rfl rfl ⟨_, _, rfl, rfl, ?_⟩
  refine ik_Wk 0 (pc_q := 5) (loc_q := [some (.ref 17)]) (st_q := [fI (l0_248 / 1000)]) (h_q := h_248) (cl_q := 0) (sl_q := 0) rfl ?_
  refine ik_Wk 2 (pc_q := 7) (loc_q := [some (.ref 17)]) (st_q := [fI 1, .ref 17, fI (l0_248 / 1000)]) (h_q := h_248) (cl_q := 0) (sl_q := 0) rfl ?_
  refine ik_Wc 74 2 0 [.ref 17, fI 1] [fI (l0_248 / 1000)] rfl rfl rfl (by decide +kernel) rfl rfl (fw_rec k_248 rfl g_248_17 rfl (Nat.le_of_ble_eq_true rfl)) ?_
  refine ik_Wk 0 (pc_q := 0) (loc_q := [some (.ref 17), some (fI 1)]) (st_q := []) (h_q := h_248) (cl_q := 0) (sl_q := 0) rfl ?_
  refine ik_Wk 1 (pc_q := 1) (loc_q := [some (.ref 17), some (fI 1)]) (st_q := [.ref 17]) (h_q := h_248) (cl_q := 0) (sl_q := 0) rfl ?_
  refine fw_gf rfl rfl g_248_17 rfl ?_
  refine ik_Wk 1 (pc_q := 5) (loc_q := [some (.ref 17), some (fI 1)]) (st_q := [fI 1, .ref 19]) (h_q := h_248) (cl_q := 0) (sl_q := 0) rfl ?_
  refine fx_lal (z := 1) rfl g_248_19 (by decide +kernel) (Nat.le_of_ble_eq_true rfl) (by decide +kernel) ?_
  refine ik_Wk 0 (pc_q := 6) (loc_q := [some (.ref 17), some (fI 1)]) (st_q := [fJ l1_248]) (h_q := h_248) (cl_q := 0) (sl_q := 0) rfl ?_
  refine fw_l2 1000 rfl rfl (by decide +kernel) ?_
  refine fx_ldiv rfl (by omega) (by omega) (by omega) (by omega) ?_
  refine fx_l2i rfl ?_
  refine ik_Wret rfl rfl ⟨_, _, rfl, rfl, ?_⟩
  refine ik_Wk 0 (pc_q := 10) (loc_q := [some (.ref 17)]) (st_q := [fI (l1_248 / 1000), fI (l0_248 / 1000)]) (h_q := h_248) (cl_q := 0) (sl_q := 0) rfl ?_
  refine fw_sub rfl ?_
  refine fx_ab rfl rfl rfl ⟨Nat.le_of_ble_eq_true rfl, Nat.le_of_ble_eq_true rfl, Nat.le_of_ble_eq_true rfl⟩ (by omega) (by omega) ?_
  intro mm1 qmm1
  refine ik_Wret rfl rfl ⟨_, _, rfl, rfl, ?_⟩
  refine ik_Wk 0 (pc_q := 9) (loc_q := [some (.ref 17), some (fI e), none, none, none, none, none]) (st_q := [fI mm1]) (h_q := h_248) (cl_q := 0) (sl_q := 0) rfl ?_
  refine ik_Wk 1 (pc_q := 10) (loc_q := [some (.ref 17), some (fI e), none, none, none, none, none]) (st_q := [fI e, fI mm1]) (h_q := h_248) (cl_q := 0) (sl_q := 0) rfl ?_
  refine fw_ic_gt rfl rfl (by omega) (by omega) (by omega) (by omega) (fun hc2 => ?_) (fun hc2 => ?_)
  · refine ik_Wk 2 (pc_q := 24) (loc_q := [some (.ref 17), some (fI e), some (fI 1), none, none, none, none]) (st_q := []) (h_q := h_248) (cl_q := 0) (sl_q := 0) rfl ?_
    have hz : ¬ mk_gap cn go ch s pl ka pa fa kb pb fb ≤ e := by rw [hg_248]; unfold mk_ab; split <;> omega
    exact cs_fairN (pl := pl) (lo := lo) (s := s) (ka := ka) (pa := pa) (fa := fa) (kb := kb) (pb := pb) (fb := fb) (bo := bo) (la := la) (lb := lb) (t0 := t0) (t1 := t1) (t2 := t2) (t3 := t3) (wg := wg) (wc := wc) (we := we) (cn := cn) (go := go) (ch := ch) (e := e) q0 q1 q2 q3 q4 q5 q6 q7 q8 q9 (mk_fz cn go ch s pl ka pa fa kb pb fb e) 21 1 l0_248 l1_248 l2_248 wg wc we none none none none h_248 g_248_7 g_248_8 n8 g_248_9 n9 g_248_10 n10 g_248_11 n11 g_248_12 n12 g_248_13 n13 g_248_15 g_248_17 g_248_18 g_248_19 g_248_20 g_248_21 g_248_33 k_248 fr_248 (by omega) q5 (mk_fz_n hz) rfl rfl rfl rfl (by omega)
  · refine ik_Wk 5 (pc_q := 18) (loc_q := [some (.ref 17), some (fI e), none, none, none, none, none]) (st_q := [fI (-1), fI (-1), fI (-1), fI 0, .ref 17]) (h_q := h_248) (cl_q := 0) (sl_q := 0) rfl ?_
    refine ik_Wc 88 5 0 [.ref 17, fI 0, fI (-1), fI (-1), fI (-1)] [] rfl rfl rfl (by decide +kernel) rfl rfl (fw_rec k_248 rfl g_248_17 rfl (Nat.le_of_ble_eq_true rfl)) ?_
    refine ik_Wk 0 (pc_q := 0) (loc_q := [some (.ref 17), some (fI 0), some (fI (-1)), some (fI (-1)), some (fI (-1))]) (st_q := []) (h_q := h_248) (cl_q := 0) (sl_q := 0) rfl ?_
    refine ik_Wk 1 (pc_q := 1) (loc_q := [some (.ref 17), some (fI 0), some (fI (-1)), some (fI (-1)), some (fI (-1))]) (st_q := [.ref 17]) (h_q := h_248) (cl_q := 0) (sl_q := 0) rfl ?_
    refine fw_gf rfl rfl g_248_17 rfl ?_
    refine ik_Wk 2 (pc_q := 6) (loc_q := [some (.ref 17), some (fI 0), some (fI (-1)), some (fI (-1)), some (fI (-1))]) (st_q := [fI 0, fI 0, .ref 20]) (h_q := h_248) (cl_q := 0) (sl_q := 0) rfl ?_
    refine fx_ias (z := 0) rfl g_248_20 (by decide +kernel) (Nat.le_of_ble_eq_true rfl) (by decide +kernel) ?_
    intro h_249 e_249 f_249 l_249
    have k_249 : cL h_249 := l_249.trans k_248
    have fr_249 := hfr_wb fr_248 f_249 l_249 rfl
    clear l_249
    have g_249_7 := (f_249 7 (Nat.ne_of_beq_eq_false rfl)).trans g_248_7
    have g_249_8 := (f_249 8 (Nat.ne_of_beq_eq_false rfl)).trans g_248_8
    have g_249_9 := (f_249 9 (Nat.ne_of_beq_eq_false rfl)).trans g_248_9
    have g_249_10 := (f_249 10 (Nat.ne_of_beq_eq_false rfl)).trans g_248_10
    have g_249_11 := (f_249 11 (Nat.ne_of_beq_eq_false rfl)).trans g_248_11
    have g_249_12 := (f_249 12 (Nat.ne_of_beq_eq_false rfl)).trans g_248_12
    have g_249_13 := (f_249 13 (Nat.ne_of_beq_eq_false rfl)).trans g_248_13
    have g_249_15 := (f_249 15 (Nat.ne_of_beq_eq_false rfl)).trans g_248_15
    have g_249_17 := (f_249 17 (Nat.ne_of_beq_eq_false rfl)).trans g_248_17
    have g_249_18 := (f_249 18 (Nat.ne_of_beq_eq_false rfl)).trans g_248_18
    have g_249_19 := (f_249 19 (Nat.ne_of_beq_eq_false rfl)).trans g_248_19
    have g_249_21 := mf_cr_f g_248_21 (f_249 21 (Nat.ne_of_beq_eq_false rfl)) (f_249 22 (Nat.ne_of_beq_eq_false rfl)) (f_249 23 (Nat.ne_of_beq_eq_false rfl)) (f_249 24 (Nat.ne_of_beq_eq_false rfl))
    have g_249_33 := mf_cr_f g_248_33 (f_249 33 (Nat.ne_of_beq_eq_false rfl)) (f_249 34 (Nat.ne_of_beq_eq_false rfl)) (f_249 35 (Nat.ne_of_beq_eq_false rfl)) (f_249 36 (Nat.ne_of_beq_eq_false rfl))
    have g_249_20 : cE h_249 20 (.inl (.int, fA [0, t1, t2, t3])) := e_249
    refine ik_Wk 1 (pc_q := 8) (loc_q := [some (.ref 17), some (fI 0), some (fI (-1)), some (fI (-1)), some (fI (-1))]) (st_q := [.ref 17]) (h_q := h_249) (cl_q := 0) (sl_q := 0) rfl ?_
    refine fw_gf rfl rfl g_249_17 rfl ?_
    refine ik_Wk 2 (pc_q := 13) (loc_q := [some (.ref 17), some (fI 0), some (fI (-1)), some (fI (-1)), some (fI (-1))]) (st_q := [fI (-1), fI 1, .ref 20]) (h_q := h_249) (cl_q := 0) (sl_q := 0) rfl ?_
    refine fx_ias (z := 1) rfl g_249_20 (by decide +kernel) (Nat.le_of_ble_eq_true rfl) (by decide +kernel) ?_
    intro h_250 e_250 f_250 l_250
    have k_250 : cL h_250 := l_250.trans k_249
    have fr_250 := hfr_wb fr_249 f_250 l_250 rfl
    clear l_250
    have g_250_7 := (f_250 7 (Nat.ne_of_beq_eq_false rfl)).trans g_249_7
    have g_250_8 := (f_250 8 (Nat.ne_of_beq_eq_false rfl)).trans g_249_8
    have g_250_9 := (f_250 9 (Nat.ne_of_beq_eq_false rfl)).trans g_249_9
    have g_250_10 := (f_250 10 (Nat.ne_of_beq_eq_false rfl)).trans g_249_10
    have g_250_11 := (f_250 11 (Nat.ne_of_beq_eq_false rfl)).trans g_249_11
    have g_250_12 := (f_250 12 (Nat.ne_of_beq_eq_false rfl)).trans g_249_12
    have g_250_13 := (f_250 13 (Nat.ne_of_beq_eq_false rfl)).trans g_249_13
    have g_250_15 := (f_250 15 (Nat.ne_of_beq_eq_false rfl)).trans g_249_15
    have g_250_17 := (f_250 17 (Nat.ne_of_beq_eq_false rfl)).trans g_249_17
    have g_250_18 := (f_250 18 (Nat.ne_of_beq_eq_false rfl)).trans g_249_18
    have g_250_19 := (f_250 19 (Nat.ne_of_beq_eq_false rfl)).trans g_249_19
    have g_250_21 := mf_cr_f g_249_21 (f_250 21 (Nat.ne_of_beq_eq_false rfl)) (f_250 22 (Nat.ne_of_beq_eq_false rfl)) (f_250 23 (Nat.ne_of_beq_eq_false rfl)) (f_250 24 (Nat.ne_of_beq_eq_false rfl))
    have g_250_33 := mf_cr_f g_249_33 (f_250 33 (Nat.ne_of_beq_eq_false rfl)) (f_250 34 (Nat.ne_of_beq_eq_false rfl)) (f_250 35 (Nat.ne_of_beq_eq_false rfl)) (f_250 36 (Nat.ne_of_beq_eq_false rfl))
    have g_250_20 : cE h_250 20 (.inl (.int, fA [0, -1, t2, t3])) := e_250
    refine ik_Wk 1 (pc_q := 15) (loc_q := [some (.ref 17), some (fI 0), some (fI (-1)), some (fI (-1)), some (fI (-1))]) (st_q := [.ref 17]) (h_q := h_250) (cl_q := 0) (sl_q := 0) rfl ?_
    refine fw_gf rfl rfl g_250_17 rfl ?_
    refine ik_Wk 2 (pc_q := 20) (loc_q := [some (.ref 17), some (fI 0), some (fI (-1)), some (fI (-1)), some (fI (-1))]) (st_q := [fI (-1), fI 2, .ref 20]) (h_q := h_250) (cl_q := 0) (sl_q := 0) rfl ?_
    refine fx_ias (z := 2) rfl g_250_20 (by decide +kernel) (Nat.le_of_ble_eq_true rfl) (by decide +kernel) ?_
    intro h_251 e_251 f_251 l_251
    have k_251 : cL h_251 := l_251.trans k_250
    have fr_251 := hfr_wb fr_250 f_251 l_251 rfl
    clear l_251
    have g_251_7 := (f_251 7 (Nat.ne_of_beq_eq_false rfl)).trans g_250_7
    have g_251_8 := (f_251 8 (Nat.ne_of_beq_eq_false rfl)).trans g_250_8
    have g_251_9 := (f_251 9 (Nat.ne_of_beq_eq_false rfl)).trans g_250_9
    have g_251_10 := (f_251 10 (Nat.ne_of_beq_eq_false rfl)).trans g_250_10
    have g_251_11 := (f_251 11 (Nat.ne_of_beq_eq_false rfl)).trans g_250_11
    have g_251_12 := (f_251 12 (Nat.ne_of_beq_eq_false rfl)).trans g_250_12
    have g_251_13 := (f_251 13 (Nat.ne_of_beq_eq_false rfl)).trans g_250_13
    have g_251_15 := (f_251 15 (Nat.ne_of_beq_eq_false rfl)).trans g_250_15
    have g_251_17 := (f_251 17 (Nat.ne_of_beq_eq_false rfl)).trans g_250_17
    have g_251_18 := (f_251 18 (Nat.ne_of_beq_eq_false rfl)).trans g_250_18
    have g_251_19 := (f_251 19 (Nat.ne_of_beq_eq_false rfl)).trans g_250_19
    have g_251_21 := mf_cr_f g_250_21 (f_251 21 (Nat.ne_of_beq_eq_false rfl)) (f_251 22 (Nat.ne_of_beq_eq_false rfl)) (f_251 23 (Nat.ne_of_beq_eq_false rfl)) (f_251 24 (Nat.ne_of_beq_eq_false rfl))
    have g_251_33 := mf_cr_f g_250_33 (f_251 33 (Nat.ne_of_beq_eq_false rfl)) (f_251 34 (Nat.ne_of_beq_eq_false rfl)) (f_251 35 (Nat.ne_of_beq_eq_false rfl)) (f_251 36 (Nat.ne_of_beq_eq_false rfl))
    have g_251_20 : cE h_251 20 (.inl (.int, fA [0, -1, -1, t3])) := e_251
    refine ik_Wk 1 (pc_q := 22) (loc_q := [some (.ref 17), some (fI 0), some (fI (-1)), some (fI (-1)), some (fI (-1))]) (st_q := [.ref 17]) (h_q := h_251) (cl_q := 0) (sl_q := 0) rfl ?_
    refine fw_gf rfl rfl g_251_17 rfl ?_
    refine ik_Wk 2 (pc_q := 28) (loc_q := [some (.ref 17), some (fI 0), some (fI (-1)), some (fI (-1)), some (fI (-1))]) (st_q := [fI (-1), fI 3, .ref 20]) (h_q := h_251) (cl_q := 0) (sl_q := 0) rfl ?_
    refine fx_ias (z := 3) rfl g_251_20 (by decide +kernel) (Nat.le_of_ble_eq_true rfl) (by decide +kernel) ?_
    intro h_252 e_252 f_252 l_252
    have k_252 : cL h_252 := l_252.trans k_251
    have fr_252 := hfr_wb fr_251 f_252 l_252 rfl
    clear l_252
    have g_252_7 := (f_252 7 (Nat.ne_of_beq_eq_false rfl)).trans g_251_7
    have g_252_8 := (f_252 8 (Nat.ne_of_beq_eq_false rfl)).trans g_251_8
    have g_252_9 := (f_252 9 (Nat.ne_of_beq_eq_false rfl)).trans g_251_9
    have g_252_10 := (f_252 10 (Nat.ne_of_beq_eq_false rfl)).trans g_251_10
    have g_252_11 := (f_252 11 (Nat.ne_of_beq_eq_false rfl)).trans g_251_11
    have g_252_12 := (f_252 12 (Nat.ne_of_beq_eq_false rfl)).trans g_251_12
    have g_252_13 := (f_252 13 (Nat.ne_of_beq_eq_false rfl)).trans g_251_13
    have g_252_15 := (f_252 15 (Nat.ne_of_beq_eq_false rfl)).trans g_251_15
    have g_252_17 := (f_252 17 (Nat.ne_of_beq_eq_false rfl)).trans g_251_17
    have g_252_18 := (f_252 18 (Nat.ne_of_beq_eq_false rfl)).trans g_251_18
    have g_252_19 := (f_252 19 (Nat.ne_of_beq_eq_false rfl)).trans g_251_19
    have g_252_21 := mf_cr_f g_251_21 (f_252 21 (Nat.ne_of_beq_eq_false rfl)) (f_252 22 (Nat.ne_of_beq_eq_false rfl)) (f_252 23 (Nat.ne_of_beq_eq_false rfl)) (f_252 24 (Nat.ne_of_beq_eq_false rfl))
    have g_252_33 := mf_cr_f g_251_33 (f_252 33 (Nat.ne_of_beq_eq_false rfl)) (f_252 34 (Nat.ne_of_beq_eq_false rfl)) (f_252 35 (Nat.ne_of_beq_eq_false rfl)) (f_252 36 (Nat.ne_of_beq_eq_false rfl))
    have g_252_20 : cE h_252 20 (.inl (.int, fA [0, -1, -1, -1])) := e_252
    refine ik_Wret rfl rfl ⟨_, _, rfl, rfl, ?_⟩
    refine ik_Wk 0 (pc_q := 21) (loc_q := [some (.ref 17), some (fI e), none, none, none, none, none]) (st_q := []) (h_q := h_252) (cl_q := 0) (sl_q := 0) rfl ?_
    have hz : mk_gap cn go ch s pl ka pa fa kb pb fb ≤ e := by rw [hg_248]; unfold mk_ab; split <;> omega
    exact ik_Wret rfl rfl ⟨_, _, rfl, rfl, rfl, rfl, ⟨l0_248, l1_248, l2_248, wg, wc, we, 0, (-1), (-1), (-1), rfl, g_252_10, n10, g_252_11, n11, g_252_12, n12, g_252_13, n13, g_252_17, g_252_19, g_252_21, g_252_33, g_252_20, q5, (by rw [mk_fz_y hz]; exact Or.inl ⟨by decide, rfl, rfl, rfl, rfl⟩), fr_252⟩⟩

end

/-! 38zl.answers -/
noncomputable section
/-! ANSWERS of the calls, as functions of what both objects hold -/
def an_kp (kd p pl t v : Int) : Int := if (0 ≤ kd ∧ kd ≤ 2) ∧ (0 ≤ p ∧ p < pl) then (if 0 ≤ t ∧ t ≤ 200 then v else -1000000002) else -1000000001
def an_kpq (kd p q pl t v : Int) : Int := if (0 ≤ kd ∧ kd ≤ 2) ∧ (0 ≤ p ∧ p < pl) ∧ (0 ≤ q ∧ q < pl) then (if 0 ≤ t ∧ t ≤ 200 then v else -1000000002) else -1000000001
def an_kpd (kd p pl d v : Int) : Int := if (0 ≤ kd ∧ kd ≤ 2) ∧ (0 ≤ p ∧ p < pl) then (if 1 ≤ d ∧ d ≤ 1000 then v else -1000000002) else -1000000001
def an_wh (b pl v : Int) : Int := if b = 1 then (if 1 < pl then v else -1000000003) else -1000000002
def an_la (what pl v : Int) : Int := if 0 ≤ what ∧ what ≤ 2 then (if 1 < pl then v else -1000000003) else -1000000002
def an_be (m what pl v : Int) : Int := if (0 ≤ m ∧ m ≤ 10) ∧ (0 ≤ what ∧ what ≤ 2) then (if 1 < pl then v else -1000000003) else -1000000002
def an_mo (what pl v : Int) : Int := if 0 ≤ what ∧ what ≤ 1 then (if 1 < pl then v else -1000000003) else -1000000002
def an_fi (p pl a b : Int) : Int := if p = -1 then a else if 0 ≤ p ∧ p < pl - 1 then b else -1000000001
def an_fa (e what pl v : Int) : Int := if (0 ≤ e ∧ e ≤ 1000000) ∧ (0 ≤ what ∧ what ≤ 3) then (if 1 < pl then v else -1000000003) else -1000000002
def an_fw (z what : Int) : Int := if z ≤ 0 then (if what = 0 then z else -1) else if what = 0 then z / 10000 else if what = 1 then z / 100 % 100 else if what = 2 then z / 10 % 10 else z % 10
/-! searches over rows of pairs: the reference goes over them otherwise -/
theorem mk_c1_skip {g : Int → Int → Int → Bool} {n p z : Int} : ∀ (d : Nat) (k : Int), k + d ≤ 16 → (∀ j : Int, k ≤ j → j < k + d → g n p j = false) → mk_c1 g n p (16 - k).toNat k z = mk_c1 g n p (16 - (k + d)).toNat (k + d) z := by
  intro d
  induction d with
  | zero => intro k _ _; rw [show k + ((0 : Nat) : Int) = k by omega]
  | succ d ih =>
    intro k h1 h2
    rw [show (16 - k).toNat = (16 - (k + 1)).toNat + 1 by omega]
    rw [mk_c1_s, h2 k (by omega) (by omega), if_neg (by decide +kernel), ih (k + 1) (by omega) (fun j j0 j1 => h2 j (by omega) (by omega))]
    rw [show k + 1 + (d : Int) = k + ((d + 1 : Nat) : Int) by omega]
/-- the pair number j of c times c -/
def mk_ix (c j : Int) : Int := 4 * (j / c) + j % c
theorem mk_ix_b {c j : Int} (hc : 1 ≤ c ∧ c ≤ 4) (h0 : 0 ≤ j) (h1 : j < c * c) : (0 ≤ j / c ∧ j / c < c) ∧ (0 ≤ j % c ∧ j % c < c) ∧ mk_ix c j / 4 = j / c ∧ mk_ix c j % 4 = j % c := by
  unfold mk_ix
  obtain q | q | q | q : c = 1 ∨ c = 2 ∨ c = 3 ∨ c = 4 := by omega
  all_goals (subst q; omega)
theorem mk_ix_s {g : Int → Int → Int → Bool} {n p z c j : Int} (hc : 1 ≤ c ∧ c ≤ 4) (h0 : 0 ≤ j) (h1 : j < c * c) (hg : ∀ k : Int, (0 : Int) ≤ k → k < (16 : Int) → (c ≤ k / 4 ∨ c ≤ k % 4) → g n p k = false) (hk : g n p (mk_ix c j) = false) : mk_c1 g n p (16 - mk_ix c j).toNat (mk_ix c j) z = if j + 1 < c * c then mk_c1 g n p (16 - mk_ix c (j + 1)).toNat (mk_ix c (j + 1)) z else z := by
  have b := mk_ix_b hc h0 h1
  have hd : ∃ d : Nat, (mk_ix c j + d ≤ 16 ∧ (∀ i : Int, mk_ix c j < i → i < mk_ix c j + d → c ≤ i / 4 ∨ c ≤ i % 4)) ∧ 1 ≤ d ∧ ((j + 1 < c * c ∧ mk_ix c (j + 1) = mk_ix c j + d) ∨ (¬ j + 1 < c * c ∧ mk_ix c j + d = 16)) := by
    by_cases q : j + 1 < c * c
    · refine ⟨(mk_ix c (j + 1) - mk_ix c j).toNat, ⟨?_, ?_⟩, ?_, Or.inl ⟨q, ?_⟩⟩
      all_goals (unfold mk_ix; obtain r | r | r | r : c = 1 ∨ c = 2 ∨ c = 3 ∨ c = 4 := by omega)
      all_goals (subst r; omega)
    · refine ⟨(16 - mk_ix c j).toNat, ⟨?_, ?_⟩, ?_, Or.inr ⟨q, ?_⟩⟩
      all_goals (unfold mk_ix; obtain r | r | r | r : c = 1 ∨ c = 2 ∨ c = 3 ∨ c = 4 := by omega)
      all_goals (subst r; omega)
  obtain ⟨d, ⟨h16, hs⟩, hd1, hd2⟩ := hd
  rw [mk_c1_skip (z := z) d (mk_ix c j) h16 (fun i i0 i1 => by
    by_cases e : i = mk_ix c j
    · rw [e]; exact hk
    · exact hg i (by omega) (by omega) (hs i (by omega) i1))]
  rcases hd2 with ⟨q, e⟩ | ⟨q, e⟩
  · rw [if_pos q, e]
  · rw [if_neg q, e, show (16 - (16 : Int)).toNat = 0 from rfl, mk_c1_0]
theorem mx_sh_r {ch : List Int} {p a b n : Int} (hp : 0 ≤ p ∧ p < 12) (ha : 0 ≤ a ∧ a < 4) (hb : 0 ≤ b ∧ b < 4) (hab : ¬ a = b) (hl : ch.length = 48) : ((mx_sh ch p a b n).set (4 * p + a).toNat (ch.getD (4 * p + a).toNat 0 - n + n)).set (4 * p + b).toNat (ch.getD (4 * p + b).toNat 0 + n - n) = ch := by
  refine mx_ext (by rw [List.length_set, List.length_set, mx_sh_len]) fun k => ?_
  rw [fz_getD_set, List.length_set, mx_sh_len]
  by_cases q : k = (4 * p + b).toNat
  · rw [if_pos ⟨q, by omega⟩, q]; omega
  · rw [if_neg (fun w => q w.1), fz_getD_set, mx_sh_len]
    by_cases z : k = (4 * p + a).toNat
    · rw [if_pos ⟨z, by omega⟩, z]; omega
    · rw [if_neg (fun w => z w.1), mx_sh_get (by omega) (by omega), if_neg q, if_neg z]
theorem mk_c1_b {g : Int → Int → Int → Bool} {n p : Int} (hn : 1 ≤ n ∧ n ≤ 20) (hp : 0 ≤ p ∧ p < 12) : ∀ (f : Nat) (k z : Int), (0 : Int) ≤ k → k + f ≤ 16 → ((-1 : Int) ≤ z ∧ z < (300000 : Int)) → -1 ≤ mk_c1 g n p f k z ∧ mk_c1 g n p f k z < 300000 := by
  intro f
  induction f with
  | zero => intro k z _ _ hz; exact hz
  | succ f ih =>
    intro k z h0 h1 hz
    rw [mk_c1_s]
    split
    · omega
    · exact ih (k + 1) z (by omega) (by omega) hz
theorem mk_c2_b {g : Int → Int → Int → Bool} {n : Int} (hn : 1 ≤ n ∧ n ≤ 20) : ∀ (f : Nat) (p z : Int), (0 : Int) ≤ p → p + f ≤ 12 → ((-1 : Int) ≤ z ∧ z < (300000 : Int)) → -1 ≤ mk_c2 g n f p z ∧ mk_c2 g n f p z < 300000 := by
  intro f
  induction f with
  | zero => intro p z _ _ hz; exact hz
  | succ f ih => intro p z h0 h1 hz; rw [mk_c2_s]; exact mk_c1_b hn (by omega) 16 0 _ (by omega) (by omega) (ih (p + 1) z (by omega) (by omega) hz)
theorem mk_c3_b {g : Int → Int → Int → Bool} {m : Nat} (hm : m ≤ 12) : ∀ (f : Nat) (n : Int), (1 : Int) ≤ n → n + f ≤ 21 → -1 ≤ mk_c3 g m f n ∧ mk_c3 g m f n < 300000 := by
  intro f
  induction f with
  | zero => intro n _ _; exact ⟨Int.le_refl _, show (-1 : Int) < 300000 by decide⟩
  | succ f ih => intro n h0 h1; rw [mk_c3_s]; exact mk_c2_b (by omega) m 0 _ (by omega) (by omega) (ih (n + 1) (by omega) (by omega))
theorem mk_fz_b {cn go ch : List Int} {t : Nat} {pl ka pa fa kb pb fb e : Int} (h : pl ≤ 12) : -1 ≤ mk_fz cn go ch t pl ka pa fa kb pb fb e ∧ mk_fz cn go ch t pl ka pa fa kb pb fb e < 300000 := by
  unfold mk_fz
  split
  · omega
  · exact mk_c3_b (by omega) 20 1 (by omega) (by omega)
/-! rows of true and false -/
theorem fx_bsb {X : Option (Nat × (Nat → Int32))} {mid pc : Nat} {loc : ik_L} {r : List Value} {h : List ik_E} {cl sl : Nat} {post : ik_St → Prop} {a : Nat} {z v : Int} {xs : List Int} (hi : ik_at mid pc = some .bastore) (hc : h[a]? = some (.inl (.boolean, fA xs))) (h0 : 0 ≤ z) (h1 : z.toNat < xs.length) (h2 : z < 2147483648) (hv : vp_nar .boolean (Int32.ofInt v) = Int32.ofInt v) (K : ∀ h_q, h_q[a]? = some (.inl (.boolean, fA (xs.set z.toNat v))) → (∀ b, b ≠ a → h_q[b]? = h[b]?) → h_q.length = h.length → ik_W X mid (pc + 1) loc r h_q cl sl post) : ik_W X mid pc loc (fI v :: fI z :: .ref a :: r) h cl sl post := by
  refine fw_1 (h_q := h.set a (.inl (.boolean, fA (xs.set z.toNat v)))) hi rfl rfl ?_ (K _ ?_ ?_ List.length_set)
  · simp only [ik_step, hc, ik_bo]
    rw [if_pos ⟨fi_z h0 h2, by rw [fi_n h0 h2, fA_len]; exact h1⟩, fi_n h0 h2, hv, fA_set]
  · rw [List.getElem?_set_self (hg_lt hc)]
  · exact fun b hb => List.getElem?_set_ne (fun q => hb q.symm)
theorem fx_bbl {X : Option (Nat × (Nat → Int32))} {mid pc : Nat} {loc : ik_L} {r : List Value} {h : List ik_E} {cl sl : Nat} {post : ik_St → Prop} {a : Nat} {z : Int} {xs : List Int} (hi : ik_at mid pc = some .baload) (hc : h[a]? = some (.inl (.boolean, fA xs))) (h0 : 0 ≤ z) (h1 : z.toNat < xs.length) (h2 : z < 2147483648) (K : ik_W X mid (pc + 1) loc (fI (xs.getD z.toNat 0) :: r) h cl sl post) : ik_W X mid pc loc (fI z :: .ref a :: r) h cl sl post := by
  refine fw_1 hi rfl rfl ?_ K
  simp only [ik_step, hc]
  rw [if_neg (fi_z h0 h2), fi_n h0 h2, fA_get h1]
/-! answers of the smaller calls -/
def an_mv (pl c g o p i what : Int) : Int := if (0 ≤ p ∧ p < pl) ∧ (i = -1 ∨ (0 ≤ i ∧ i < c)) then (if 0 ≤ what ∧ what ≤ 1 then (if i = -1 then c else if what = 0 then g else o) else -1000000002) else -1000000001
def an_rn (pl p t : Int) : Int := if 0 ≤ p ∧ p < pl - 1 then (if 1 ≤ t ∧ t ≤ 200 then -1000000004 else -1000000002) else -1000000001
def an_dg (pl c p a b n : Int) : Int := if (0 ≤ p ∧ p < pl - 1) ∧ (0 ≤ a ∧ a < c) ∧ (0 ≤ b ∧ b < c) ∧ ¬ a = b then (if 1 ≤ n ∧ n ≤ 99 then -1000000003 else -1000000002) else -1000000001
def an_n (hi n : Int) : Int := if 1 ≤ n ∧ n ≤ hi then -1000000003 else -1000000002
def an_lg (pl p : Int) : Int := if p = 12 ∨ (0 ≤ p ∧ p < pl) then -1000000004 else -1000000001
theorem mx_or_1 {s p : Nat} (h : s.testBit p = true) : s ||| 1 <<< p = s := by
  refine Nat.eq_of_testBit_eq fun i => ?_
  rw [Nat.testBit_or]
  by_cases q : i = p
  · subst q; rw [h]; rfl
  · rw [mf_tb0 q, Bool.or_false]
theorem mx_or_0 {s p : Nat} (h : s.testBit p = false) : s ||| 1 <<< p = s ^^^ 1 <<< p := by
  refine Nat.eq_of_testBit_eq fun i => ?_
  rw [Nat.testBit_or, Nat.testBit_xor]
  by_cases q : i = p
  · subst q; rw [h, mf_tb1]; rfl
  · rw [mf_tb0 q, Bool.or_false, Bool.xor_false]
end

/-! 38zm.rpub -/
noncomputable section
/-! the reference: its calls that seek (written by wip/fx/u14.py) -/
theorem rp_comes {h : List ik_E} {pl : Int} {f : Nat → Int} {s : Nat} {cn : List Int} {go : List Int} {ch : List Int} {gt : List Int} {gd : List Int} {xs : List Int} {ys : List Int} {kd : Int} {p : Int} {t : Int} (q0 : 0 ≤ pl ∧ pl ≤ 12) (q1 : s < 4096) (q2 : ∀ x : Int, (0 : Int) ≤ x → x < pl - 1 → 0 ≤ cn.getD x.toNat 0 ∧ cn.getD x.toNat 0 ≤ 4) (q3 : ∀ x : Int, (0 : Int) ≤ x → x < pl - 1 → 1 ≤ cn.getD x.toNat 0 ∧ ∀ j : Int, 4 * x ≤ j → j < 4 * x + cn.getD x.toNat 0 → 0 ≤ ch.getD j.toNat 0 ∧ ch.getD j.toNat 0 ≤ 100) (q4 : ∀ x : Int, (0 : Int) ≤ x → x < pl - 1 → mx_ok pl (mx_w cn go ch s x)) (q5 : (-2147483648 : Int) ≤ kd ∧ kd < (2147483648 : Int)) (q6 : (-2147483648 : Int) ≤ p ∧ p < (2147483648 : Int)) (q7 : (-2147483648 : Int) ≤ t ∧ t < (2147483648 : Int)) (h66 : cE h 66 (.inr (10, (fI pl :: .ref 67 :: .ref 68 :: .ref 69 :: fI ((s : Nat) : Int) :: .ref 70 :: .ref 71 :: fI (f 7) :: fI (f 8) :: .ref 72 :: fI (f 10) :: fI (f 11) :: fI (f 12) :: fJ (f 13) :: fI (f 14) :: fI (f 15) :: fI (f 16) :: fI (f 17) :: .ref 73 :: .ref 74 :: .ref 75 :: .ref 76 :: .ref 77 :: .ref 78 :: fI (f 24) :: .ref 79 :: .ref 80 :: .ref 81 :: .ref 82 :: .ref 83 :: .ref 84 :: .ref 85 :: fJ (f 32) :: fJ (f 33) :: .ref 86 :: .ref 87 :: fI (f 36) :: .ref 88 :: .ref 89 :: .ref 90 :: .ref 91 :: .ref 92 :: .ref 93 :: [])))) (h67 : cE h 67 (.inl (.int, fA cn))) (n67 : cn.length = (12 : Nat)) (h68 : cE h 68 (.inl (.int, fA go))) (n68 : go.length = (48 : Nat)) (h69 : cE h 69 (.inl (.int, fA ch))) (n69 : ch.length = (48 : Nat)) (h77 : cE h 77 (.inl (.int, fA gt))) (n77 : gt.length = (5 : Nat)) (h78 : cE h 78 (.inl (.int, fA gd))) (n78 : gd.length = (5 : Nat)) (h79 : cE h 79 (.inl (.long, fL xs))) (n79 : xs.length = (12 : Nat)) (h80 : cE h 80 (.inl (.long, fL ys))) (n80 : ys.length = (12 : Nat)) (hl : h.length = (94 : Nat)) : ik_F 160 [.ref 66, fI kd, fI p, fI t] h (fun rv h_q => ∃ (w' : Int) (gt' : List Int) (gd' : List Int) (xs' : List Int) (ys' : List Int), rv = [fI (an_kp kd p pl t (mf_cm (fun x => mx_w cn go ch s x) (pl - 1) kd p t.toNat))] ∧ cE h_q 66 (.inr (10, (fI pl :: .ref 67 :: .ref 68 :: .ref 69 :: fI ((s : Nat) : Int) :: .ref 70 :: .ref 71 :: fI (f 7) :: fI (f 8) :: .ref 72 :: fI (f 10) :: fI (f 11) :: fI (f 12) :: fJ (f 13) :: fI (f 14) :: fI (f 15) :: fI (f 16) :: fI (f 17) :: .ref 73 :: .ref 74 :: .ref 75 :: .ref 76 :: .ref 77 :: .ref 78 :: fI w' :: .ref 79 :: .ref 80 :: .ref 81 :: .ref 82 :: .ref 83 :: .ref 84 :: .ref 85 :: fJ (f 32) :: fJ (f 33) :: .ref 86 :: .ref 87 :: fI (f 36) :: .ref 88 :: .ref 89 :: .ref 90 :: .ref 91 :: .ref 92 :: .ref 93 :: []))) ∧ cE h_q 77 (.inl (.int, fA gt')) ∧ gt'.length = (5 : Nat) ∧ cE h_q 78 (.inl (.int, fA gd')) ∧ gd'.length = (5 : Nat) ∧ cE h_q 79 (.inl (.long, fL xs')) ∧ xs'.length = (12 : Nat) ∧ cE h_q 80 (.inl (.long, fL ys')) ∧ ys'.length = (12 : Nat) ∧ hfr [66, 77, 78, 79, 80] h h_q) := by
  refine ik_Wk 1 (pc_q := 1) (loc_q := [some (.ref 66), some (fI kd), some (fI p), some (fI t)]) (st_q := [fI kd]) (h_q := h) (cl_q := 0) (sl_q := 0) rfl ?_
  refine ik_Wc 133 1 3 [fI kd] [] rfl rfl rfl (by decide +kernel) rfl rfl (fw_sta hl rfl (by decide +kernel)) ?_
  refine ik_Wk 0 (pc_q := 0) (loc_q := [some (fI kd)]) (st_q := []) (h_q := h) (cl_q := 0) (sl_q := 0) rfl ?_
  refine ik_Wk 1 (pc_q := 1) (loc_q := [some (fI kd)]) (st_q := [fI kd]) (h_q := h) (cl_q := 0) (sl_q := 0) rfl ?_
  refine fw_i2l rfl (by omega) (by omega) ?_
  refine fw_lc (z := 0) rfl (by decide +kernel) ?_
  refine fw_l2 2 rfl rfl (by decide +kernel) ?_
  refine fw_call 127 3 3 [fJ kd, fJ 0, fJ 2] [] rfl rfl rfl (Nat.le_of_ble_eq_true rfl) rfl rfl (fw_sta hl rfl (by decide +kernel)) (cr_in (v := kd) (a := 0) (b := 2) (by omega) (by omega) (by omega)  hl) ?_
  rintro _ h_253 (⟨rfl, p_253_0, F_253⟩ | ⟨rfl, p_253_0, F_253⟩)
  · have k_253 : cL h_253 := F_253.1.trans hl
    have fr_253 := hfr_cb (hfr_refl [66, 77, 78, 79, 80] h) F_253 rfl
    have g_253_66 := (hfr_g F_253 66 rfl).trans h66
    have g_253_67 := (hfr_g F_253 67 rfl).trans h67
    have g_253_68 := (hfr_g F_253 68 rfl).trans h68
    have g_253_69 := (hfr_g F_253 69 rfl).trans h69
    have g_253_77 := (hfr_g F_253 77 rfl).trans h77
    have g_253_78 := (hfr_g F_253 78 rfl).trans h78
    have g_253_79 := (hfr_g F_253 79 rfl).trans h79
    have g_253_80 := (hfr_g F_253 80 rfl).trans h80
    refine ik_Wk 0 (pc_q := 9) (loc_q := [some (fI kd)]) (st_q := [fI 1]) (h_q := h_253) (cl_q := 0) (sl_q := 0) rfl ?_
    refine ik_Wret rfl rfl ⟨_, _, rfl, rfl, ?_⟩
    refine ik_Wk 0 (pc_q := 4) (loc_q := [some (.ref 66), some (fI kd), some (fI p), some (fI t)]) (st_q := [fI 1]) (h_q := h_253) (cl_q := 0) (sl_q := 0) rfl ?_
    refine fw_if_eq rfl rfl (by decide +kernel) (by decide +kernel) (fun hc1 => absurd hc1 (by decide +kernel)) (fun hc1 => ?_)
    refine ik_Wk 2 (pc_q := 9) (loc_q := [some (.ref 66), some (fI kd), some (fI p), some (fI t)]) (st_q := [fI p, .ref 66]) (h_q := h_253) (cl_q := 0) (sl_q := 0) rfl ?_
    refine ik_Wc 129 2 0 [.ref 66, fI p] [] rfl rfl rfl (by decide +kernel) rfl rfl (fw_rec k_253 rfl g_253_66 rfl (Nat.le_of_ble_eq_true rfl)) ?_
    refine ik_Wk 0 (pc_q := 0) (loc_q := [some (.ref 66), some (fI p)]) (st_q := []) (h_q := h_253) (cl_q := 0) (sl_q := 0) rfl ?_
    refine ik_Wk 1 (pc_q := 1) (loc_q := [some (.ref 66), some (fI p)]) (st_q := [fI p]) (h_q := h_253) (cl_q := 0) (sl_q := 0) rfl ?_
    refine fw_i2l rfl (by omega) (by omega) ?_
    refine fw_lc (z := 0) rfl (by decide +kernel) ?_
    refine ik_Wk 1 (pc_q := 4) (loc_q := [some (.ref 66), some (fI p)]) (st_q := [.ref 66, fJ 0, fJ p]) (h_q := h_253) (cl_q := 0) (sl_q := 0) rfl ?_
    refine fw_gf rfl rfl g_253_66 rfl ?_
    refine ik_Wk 1 (pc_q := 8) (loc_q := [some (.ref 66), some (fI p)]) (st_q := [fI 1, fI pl, fJ 0, fJ p]) (h_q := h_253) (cl_q := 0) (sl_q := 0) rfl ?_
    refine fw_sub rfl ?_
    refine fw_i2l rfl (by omega) (by omega) ?_
    refine fw_call 127 3 3 [fJ p, fJ 0, fJ (pl - 1)] [] rfl rfl rfl (Nat.le_of_ble_eq_true rfl) rfl rfl (fw_sta k_253 rfl (by decide +kernel)) (cr_in (v := p) (a := 0) (b := pl - 1) (by omega) (by omega) (by omega)  k_253) ?_
    rintro _ h_254 (⟨rfl, p_254_0, F_254⟩ | ⟨rfl, p_254_0, F_254⟩)
    · have k_254 : cL h_254 := F_254.1.trans k_253
      have fr_254 := hfr_cb fr_253 F_254 rfl
      have g_254_66 := (hfr_g F_254 66 rfl).trans g_253_66
      have g_254_67 := (hfr_g F_254 67 rfl).trans g_253_67
      have g_254_68 := (hfr_g F_254 68 rfl).trans g_253_68
      have g_254_69 := (hfr_g F_254 69 rfl).trans g_253_69
      have g_254_77 := (hfr_g F_254 77 rfl).trans g_253_77
      have g_254_78 := (hfr_g F_254 78 rfl).trans g_253_78
      have g_254_79 := (hfr_g F_254 79 rfl).trans g_253_79
      have g_254_80 := (hfr_g F_254 80 rfl).trans g_253_80
      refine ik_Wk 0 (pc_q := 13) (loc_q := [some (.ref 66), some (fI p)]) (st_q := [fI 1]) (h_q := h_254) (cl_q := 0) (sl_q := 0) rfl ?_
      refine ik_Wret rfl rfl ⟨_, _, rfl, rfl, ?_⟩
      refine ik_Wk 0 (pc_q := 12) (loc_q := [some (.ref 66), some (fI kd), some (fI p), some (fI t)]) (st_q := [fI 1]) (h_q := h_254) (cl_q := 0) (sl_q := 0) rfl ?_
      refine fw_if_ne rfl rfl (by decide +kernel) (by decide +kernel) (fun hc2 => absurd hc2 (by decide +kernel)) (fun hc2 => ?_)
      refine ik_Wk 1 (pc_q := 19) (loc_q := [some (.ref 66), some (fI kd), some (fI p), some (fI t)]) (st_q := [fI t]) (h_q := h_254) (cl_q := 0) (sl_q := 0) rfl ?_
      refine ik_Wc 159 1 3 [fI t] [] rfl rfl rfl (by decide +kernel) rfl rfl (fw_sta k_254 rfl (by decide +kernel)) ?_
      refine ik_Wk 0 (pc_q := 0) (loc_q := [some (fI t)]) (st_q := []) (h_q := h_254) (cl_q := 0) (sl_q := 0) rfl ?_
      refine ik_Wk 1 (pc_q := 1) (loc_q := [some (fI t)]) (st_q := [fI t]) (h_q := h_254) (cl_q := 0) (sl_q := 0) rfl ?_
      refine fw_i2l rfl (by omega) (by omega) ?_
      refine fw_lc (z := 0) rfl (by decide +kernel) ?_
      refine fw_l2 200 rfl rfl (by decide +kernel) ?_
      refine fw_call 127 3 3 [fJ t, fJ 0, fJ 200] [] rfl rfl rfl (Nat.le_of_ble_eq_true rfl) rfl rfl (fw_sta k_254 rfl (by decide +kernel)) (cr_in (v := t) (a := 0) (b := 200) (by omega) (by omega) (by omega)  k_254) ?_
      rintro _ h_255 (⟨rfl, p_255_0, F_255⟩ | ⟨rfl, p_255_0, F_255⟩)
      · have k_255 : cL h_255 := F_255.1.trans k_254
        have fr_255 := hfr_cb fr_254 F_255 rfl
        have g_255_66 := (hfr_g F_255 66 rfl).trans g_254_66
        have g_255_67 := (hfr_g F_255 67 rfl).trans g_254_67
        have g_255_68 := (hfr_g F_255 68 rfl).trans g_254_68
        have g_255_69 := (hfr_g F_255 69 rfl).trans g_254_69
        have g_255_77 := (hfr_g F_255 77 rfl).trans g_254_77
        have g_255_78 := (hfr_g F_255 78 rfl).trans g_254_78
        have g_255_79 := (hfr_g F_255 79 rfl).trans g_254_79
        have g_255_80 := (hfr_g F_255 80 rfl).trans g_254_80
        refine ik_Wk 0 (pc_q := 9) (loc_q := [some (fI t)]) (st_q := [fI 1]) (h_q := h_255) (cl_q := 0) (sl_q := 0) rfl ?_
        refine ik_Wret rfl rfl ⟨_, _, rfl, rfl, ?_⟩
        refine ik_Wk 0 (pc_q := 22) (loc_q := [some (.ref 66), some (fI kd), some (fI p), some (fI t)]) (st_q := [fI 1]) (h_q := h_255) (cl_q := 0) (sl_q := 0) rfl ?_
        refine fw_if_ne rfl rfl (by decide +kernel) (by decide +kernel) (fun hc3 => absurd hc3 (by decide +kernel)) (fun hc3 => ?_)
        refine ik_Wk 4 (pc_q := 32) (loc_q := [some (.ref 66), some (fI kd), some (fI p), some (fI t)]) (st_q := [fI t, fI p, fI kd, .ref 66]) (h_q := h_255) (cl_q := 0) (sl_q := 0) rfl ?_
        refine fw_call 156 4 0 [.ref 66, fI kd, fI p, fI t] [] rfl rfl rfl (Nat.le_of_ble_eq_true rfl) rfl rfl (fw_rec k_255 rfl g_255_66 rfl (Nat.le_of_ble_eq_true rfl)) (cr_oddsAt (pl := pl) (f := fun j => ((0 :: 0 :: 0 :: 0 :: 0 :: 0 :: 0 :: f 7 :: f 8 :: 0 :: f 10 :: f 11 :: f 12 :: f 13 :: f 14 :: f 15 :: f 16 :: f 17 :: 0 :: 0 :: 0 :: 0 :: 0 :: 0 :: f 24 :: 0 :: 0 :: 0 :: 0 :: 0 :: 0 :: 0 :: f 32 :: f 33 :: 0 :: 0 :: f 36 :: 0 :: 0 :: 0 :: 0 :: 0 :: 0 :: []) : List Int).getD j 0) (s := s) (cn := cn) (go := go) (ch := ch) (gt := gt) (gd := gd) (xs := xs) (ys := ys) (kd := kd) (qp := p) (t := t) (by omega) (by omega) q2 q3 q4 (by omega) (by omega) (by omega) g_255_66 g_255_67 n67 g_255_68 n68 g_255_69 n69 g_255_77 n77 g_255_78 n78 g_255_79 n79 g_255_80 n80 k_255) ?_
        rintro _ h_256 ⟨w'_256, gt'_256, gd'_256, xs'_256, ys'_256, rfl, e_256_66, e_256_77, m_256_77, e_256_78, m_256_78, e_256_79, m_256_79, e_256_80, m_256_80, p_256_0, F_256⟩
        have k_256 : cL h_256 := F_256.1.trans k_255
        have fr_256 := hfr_cb fr_255 F_256 rfl
        have g_256_67 := (hfr_g F_256 67 rfl).trans g_255_67
        have g_256_68 := (hfr_g F_256 68 rfl).trans g_255_68
        have g_256_69 := (hfr_g F_256 69 rfl).trans g_255_69
        have g_256_66 : cE h_256 66 (.inr (10, (fI pl :: .ref 67 :: .ref 68 :: .ref 69 :: fI ((s : Nat) : Int) :: .ref 70 :: .ref 71 :: fI (f 7) :: fI (f 8) :: .ref 72 :: fI (f 10) :: fI (f 11) :: fI (f 12) :: fJ (f 13) :: fI (f 14) :: fI (f 15) :: fI (f 16) :: fI (f 17) :: .ref 73 :: .ref 74 :: .ref 75 :: .ref 76 :: .ref 77 :: .ref 78 :: fI w'_256 :: .ref 79 :: .ref 80 :: .ref 81 :: .ref 82 :: .ref 83 :: .ref 84 :: .ref 85 :: fJ (f 32) :: fJ (f 33) :: .ref 86 :: .ref 87 :: fI (f 36) :: .ref 88 :: .ref 89 :: .ref 90 :: .ref 91 :: .ref 92 :: .ref 93 :: []))) := e_256_66
        have g_256_77 : cE h_256 77 (.inl (.int, fA gt'_256)) := e_256_77
        have g_256_78 : cE h_256 78 (.inl (.int, fA gd'_256)) := e_256_78
        have g_256_79 : cE h_256 79 (.inl (.long, fL xs'_256)) := e_256_79
        have g_256_80 : cE h_256 80 (.inl (.long, fL ys'_256)) := e_256_80
        refine ik_Wk 0 (pc_q := 35) (loc_q := [some (.ref 66), some (fI kd), some (fI p), some (fI t)]) (st_q := []) (h_q := h_256) (cl_q := 0) (sl_q := 0) rfl ?_
        refine ik_Wk 1 (pc_q := 36) (loc_q := [some (.ref 66), some (fI kd), some (fI p), some (fI t)]) (st_q := [.ref 66]) (h_q := h_256) (cl_q := 0) (sl_q := 0) rfl ?_
        refine fw_gf rfl rfl g_256_66 rfl ?_
        refine ik_Wk 1 (pc_q := 40) (loc_q := [some (.ref 66), some (fI kd), some (fI p), some (fI t)]) (st_q := [.ref 66, .ref 79]) (h_q := h_256) (cl_q := 0) (sl_q := 0) rfl ?_
        refine ik_Wc 130 1 0 [.ref 66] [.ref 79] rfl rfl rfl (by decide +kernel) rfl rfl (fw_rec k_256 rfl g_256_66 rfl (Nat.le_of_ble_eq_true rfl)) ?_
        refine ik_Wk 0 (pc_q := 0) (loc_q := [some (.ref 66)]) (st_q := []) (h_q := h_256) (cl_q := 0) (sl_q := 0) rfl ?_
        refine ik_Wk 1 (pc_q := 1) (loc_q := [some (.ref 66)]) (st_q := [.ref 66]) (h_q := h_256) (cl_q := 0) (sl_q := 0) rfl ?_
        refine fw_gf rfl rfl g_256_66 rfl ?_
        refine ik_Wk 1 (pc_q := 5) (loc_q := [some (.ref 66)]) (st_q := [fI 1, fI pl]) (h_q := h_256) (cl_q := 0) (sl_q := 0) rfl ?_
        refine fw_sub rfl ?_
        refine ik_Wret rfl rfl ⟨_, _, rfl, rfl, ?_⟩
        refine ik_Wk 0 (pc_q := 43) (loc_q := [some (.ref 66), some (fI kd), some (fI p), some (fI t)]) (st_q := [fI (pl - 1), .ref 79]) (h_q := h_256) (cl_q := 0) (sl_q := 0) rfl ?_
        refine fx_lal rfl g_256_79 (by omega) (by omega) (by omega) ?_
        refine fx_l2i rfl ?_
        have ev : xs'_256.getD (pl - 1).toNat 0 = mf_cm (fun x => mx_w cn go ch s x) (pl - 1) kd p t.toNat := p_256_0 _ (by omega)
        have ev2 := ev
        exact ik_Wret rfl rfl ⟨_, _, rfl, rfl, rfl, rfl, ⟨w'_256, gt'_256, gd'_256, xs'_256, ys'_256, (congrArg (fun z => [fI z]) (by rw [ev]; unfold an_kp; (repeat' split) <;> first | rfl | omega)), g_256_66, g_256_77, m_256_77, g_256_78, m_256_78, g_256_79, m_256_79, g_256_80, m_256_80, fr_256⟩⟩
      · have k_255 : cL h_255 := F_255.1.trans k_254
        have fr_255 := hfr_cb fr_254 F_255 rfl
        have g_255_66 := (hfr_g F_255 66 rfl).trans g_254_66
        have g_255_67 := (hfr_g F_255 67 rfl).trans g_254_67
        have g_255_68 := (hfr_g F_255 68 rfl).trans g_254_68
        have g_255_69 := (hfr_g F_255 69 rfl).trans g_254_69
        have g_255_77 := (hfr_g F_255 77 rfl).trans g_254_77
        have g_255_78 := (hfr_g F_255 78 rfl).trans g_254_78
        have g_255_79 := (hfr_g F_255 79 rfl).trans g_254_79
        have g_255_80 := (hfr_g F_255 80 rfl).trans g_254_80
        refine ik_Wk 0 (pc_q := 9) (loc_q := [some (fI t)]) (st_q := [fI 0]) (h_q := h_255) (cl_q := 0) (sl_q := 0) rfl ?_
        refine ik_Wret rfl rfl ⟨_, _, rfl, rfl, ?_⟩
        refine ik_Wk 0 (pc_q := 22) (loc_q := [some (.ref 66), some (fI kd), some (fI p), some (fI t)]) (st_q := [fI 0]) (h_q := h_255) (cl_q := 0) (sl_q := 0) rfl ?_
        refine fw_if_ne rfl rfl (by decide +kernel) (by decide +kernel) (fun hc4 => ?_) (fun hc4 => absurd hc4 (by decide +kernel))
        refine fw_ld (-1000000002) rfl rfl (by decide +kernel) ?_
        exact ik_Wret rfl rfl ⟨_, _, rfl, rfl, rfl, rfl, ⟨(f 24), gt, gd, xs, ys, (congrArg (fun z => [fI z]) (by unfold an_kp; (repeat' split) <;> first | rfl | omega)), g_255_66, g_255_77, n77, g_255_78, n78, g_255_79, n79, g_255_80, n80, fr_255⟩⟩
    · have k_254 : cL h_254 := F_254.1.trans k_253
      have fr_254 := hfr_cb fr_253 F_254 rfl
      have g_254_66 := (hfr_g F_254 66 rfl).trans g_253_66
      have g_254_67 := (hfr_g F_254 67 rfl).trans g_253_67
      have g_254_68 := (hfr_g F_254 68 rfl).trans g_253_68
      have g_254_69 := (hfr_g F_254 69 rfl).trans g_253_69
      have g_254_77 := (hfr_g F_254 77 rfl).trans g_253_77
      have g_254_78 := (hfr_g F_254 78 rfl).trans g_253_78
      have g_254_79 := (hfr_g F_254 79 rfl).trans g_253_79
      have g_254_80 := (hfr_g F_254 80 rfl).trans g_253_80
      refine ik_Wk 0 (pc_q := 13) (loc_q := [some (.ref 66), some (fI p)]) (st_q := [fI 0]) (h_q := h_254) (cl_q := 0) (sl_q := 0) rfl ?_
      refine ik_Wret rfl rfl ⟨_, _, rfl, rfl, ?_⟩
      refine ik_Wk 0 (pc_q := 12) (loc_q := [some (.ref 66), some (fI kd), some (fI p), some (fI t)]) (st_q := [fI 0]) (h_q := h_254) (cl_q := 0) (sl_q := 0) rfl ?_
      refine fw_if_ne rfl rfl (by decide +kernel) (by decide +kernel) (fun hc5 => ?_) (fun hc5 => absurd hc5 (by decide +kernel))
      refine fw_ld (-1000000001) rfl rfl (by decide +kernel) ?_
      exact ik_Wret rfl rfl ⟨_, _, rfl, rfl, rfl, rfl, ⟨(f 24), gt, gd, xs, ys, (congrArg (fun z => [fI z]) (by unfold an_kp; (repeat' split) <;> first | rfl | omega)), g_254_66, g_254_77, n77, g_254_78, n78, g_254_79, n79, g_254_80, n80, fr_254⟩⟩
  · have k_253 : cL h_253 := F_253.1.trans hl
    have fr_253 := hfr_cb (hfr_refl [66, 77, 78, 79, 80] h) F_253 rfl
    have g_253_66 := (hfr_g F_253 66 rfl).trans h66
    have g_253_67 := (hfr_g F_253 67 rfl).trans h67
    have g_253_68 := (hfr_g F_253 68 rfl).trans h68
    have g_253_69 := (hfr_g F_253 69 rfl).trans h69
    have g_253_77 := (hfr_g F_253 77 rfl).trans h77
    have g_253_78 := (hfr_g F_253 78 rfl).trans h78
    have g_253_79 := (hfr_g F_253 79 rfl).trans h79
    have g_253_80 := (hfr_g F_253 80 rfl).trans h80
    refine ik_Wk 0 (pc_q := 9) (loc_q := [some (fI kd)]) (st_q := [fI 0]) (h_q := h_253) (cl_q := 0) (sl_q := 0) rfl ?_
    refine ik_Wret rfl rfl ⟨_, _, rfl, rfl, ?_⟩
    refine ik_Wk 0 (pc_q := 4) (loc_q := [some (.ref 66), some (fI kd), some (fI p), some (fI t)]) (st_q := [fI 0]) (h_q := h_253) (cl_q := 0) (sl_q := 0) rfl ?_
    refine fw_if_eq rfl rfl (by decide +kernel) (by decide +kernel) (fun hc6 => ?_) (fun hc6 => absurd hc6 (by decide +kernel))
    refine fw_ld (-1000000001) rfl rfl (by decide +kernel) ?_
    exact ik_Wret rfl rfl ⟨_, _, rfl, rfl, rfl, rfl, ⟨(f 24), gt, gd, xs, ys, (congrArg (fun z => [fI z]) (by unfold an_kp; (repeat' split) <;> first | rfl | omega)), g_253_66, g_253_77, n77, g_253_78, n78, g_253_79, n79, g_253_80, n80, fr_253⟩⟩

theorem rp_at {h : List ik_E} {pl : Int} {f : Nat → Int} {s : Nat} {cn : List Int} {go : List Int} {ch : List Int} {gt : List Int} {gd : List Int} {xs : List Int} {ys : List Int} {kd : Int} {p : Int} {t : Int} {q : Int} (q0 : 0 ≤ pl ∧ pl ≤ 12) (q1 : s < 4096) (q2 : ∀ x : Int, (0 : Int) ≤ x → x < pl - 1 → 0 ≤ cn.getD x.toNat 0 ∧ cn.getD x.toNat 0 ≤ 4) (q3 : ∀ x : Int, (0 : Int) ≤ x → x < pl - 1 → 1 ≤ cn.getD x.toNat 0 ∧ ∀ j : Int, 4 * x ≤ j → j < 4 * x + cn.getD x.toNat 0 → 0 ≤ ch.getD j.toNat 0 ∧ ch.getD j.toNat 0 ≤ 100) (q4 : ∀ x : Int, (0 : Int) ≤ x → x < pl - 1 → mx_ok pl (mx_w cn go ch s x)) (q5 : (-2147483648 : Int) ≤ kd ∧ kd < (2147483648 : Int)) (q6 : (-2147483648 : Int) ≤ p ∧ p < (2147483648 : Int)) (q7 : (-2147483648 : Int) ≤ t ∧ t < (2147483648 : Int)) (q8 : (-2147483648 : Int) ≤ q ∧ q < (2147483648 : Int)) (h66 : cE h 66 (.inr (10, (fI pl :: .ref 67 :: .ref 68 :: .ref 69 :: fI ((s : Nat) : Int) :: .ref 70 :: .ref 71 :: fI (f 7) :: fI (f 8) :: .ref 72 :: fI (f 10) :: fI (f 11) :: fI (f 12) :: fJ (f 13) :: fI (f 14) :: fI (f 15) :: fI (f 16) :: fI (f 17) :: .ref 73 :: .ref 74 :: .ref 75 :: .ref 76 :: .ref 77 :: .ref 78 :: fI (f 24) :: .ref 79 :: .ref 80 :: .ref 81 :: .ref 82 :: .ref 83 :: .ref 84 :: .ref 85 :: fJ (f 32) :: fJ (f 33) :: .ref 86 :: .ref 87 :: fI (f 36) :: .ref 88 :: .ref 89 :: .ref 90 :: .ref 91 :: .ref 92 :: .ref 93 :: [])))) (h67 : cE h 67 (.inl (.int, fA cn))) (n67 : cn.length = (12 : Nat)) (h68 : cE h 68 (.inl (.int, fA go))) (n68 : go.length = (48 : Nat)) (h69 : cE h 69 (.inl (.int, fA ch))) (n69 : ch.length = (48 : Nat)) (h77 : cE h 77 (.inl (.int, fA gt))) (n77 : gt.length = (5 : Nat)) (h78 : cE h 78 (.inl (.int, fA gd))) (n78 : gd.length = (5 : Nat)) (h79 : cE h 79 (.inl (.long, fL xs))) (n79 : xs.length = (12 : Nat)) (h80 : cE h 80 (.inl (.long, fL ys))) (n80 : ys.length = (12 : Nat)) (hl : h.length = (94 : Nat)) : ik_F 161 [.ref 66, fI kd, fI p, fI t, fI q] h (fun rv h_q => ∃ (w' : Int) (gt' : List Int) (gd' : List Int) (xs' : List Int) (ys' : List Int), rv = [fI (an_kpq kd p q pl t (mf_od (fun x => mx_w cn go ch s x) (pl - 1) kd p t.toNat q.toNat))] ∧ cE h_q 66 (.inr (10, (fI pl :: .ref 67 :: .ref 68 :: .ref 69 :: fI ((s : Nat) : Int) :: .ref 70 :: .ref 71 :: fI (f 7) :: fI (f 8) :: .ref 72 :: fI (f 10) :: fI (f 11) :: fI (f 12) :: fJ (f 13) :: fI (f 14) :: fI (f 15) :: fI (f 16) :: fI (f 17) :: .ref 73 :: .ref 74 :: .ref 75 :: .ref 76 :: .ref 77 :: .ref 78 :: fI w' :: .ref 79 :: .ref 80 :: .ref 81 :: .ref 82 :: .ref 83 :: .ref 84 :: .ref 85 :: fJ (f 32) :: fJ (f 33) :: .ref 86 :: .ref 87 :: fI (f 36) :: .ref 88 :: .ref 89 :: .ref 90 :: .ref 91 :: .ref 92 :: .ref 93 :: []))) ∧ cE h_q 77 (.inl (.int, fA gt')) ∧ gt'.length = (5 : Nat) ∧ cE h_q 78 (.inl (.int, fA gd')) ∧ gd'.length = (5 : Nat) ∧ cE h_q 79 (.inl (.long, fL xs')) ∧ xs'.length = (12 : Nat) ∧ cE h_q 80 (.inl (.long, fL ys')) ∧ ys'.length = (12 : Nat) ∧ hfr [66, 77, 78, 79, 80] h h_q) := by
  refine ik_Wk 1 (pc_q := 1) (loc_q := [some (.ref 66), some (fI kd), some (fI p), some (fI t), some (fI q)]) (st_q := [fI kd]) (h_q := h) (cl_q := 0) (sl_q := 0) rfl ?_
  refine ik_Wc 133 1 3 [fI kd] [] rfl rfl rfl (by decide +kernel) rfl rfl (fw_sta hl rfl (by decide +kernel)) ?_
  refine ik_Wk 0 (pc_q := 0) (loc_q := [some (fI kd)]) (st_q := []) (h_q := h) (cl_q := 0) (sl_q := 0) rfl ?_
  refine ik_Wk 1 (pc_q := 1) (loc_q := [some (fI kd)]) (st_q := [fI kd]) (h_q := h) (cl_q := 0) (sl_q := 0) rfl ?_
  refine fw_i2l rfl (by omega) (by omega) ?_
  refine fw_lc (z := 0) rfl (by decide +kernel) ?_
  refine fw_l2 2 rfl rfl (by decide +kernel) ?_
  refine fw_call 127 3 3 [fJ kd, fJ 0, fJ 2] [] rfl rfl rfl (Nat.le_of_ble_eq_true rfl) rfl rfl (fw_sta hl rfl (by decide +kernel)) (cr_in (v := kd) (a := 0) (b := 2) (by omega) (by omega) (by omega)  hl) ?_
  rintro _ h_257 (⟨rfl, p_257_0, F_257⟩ | ⟨rfl, p_257_0, F_257⟩)
  · have k_257 : cL h_257 := F_257.1.trans hl
    have fr_257 := hfr_cb (hfr_refl [66, 77, 78, 79, 80] h) F_257 rfl
    have g_257_66 := (hfr_g F_257 66 rfl).trans h66
    have g_257_67 := (hfr_g F_257 67 rfl).trans h67
    have g_257_68 := (hfr_g F_257 68 rfl).trans h68
    have g_257_69 := (hfr_g F_257 69 rfl).trans h69
    have g_257_77 := (hfr_g F_257 77 rfl).trans h77
    have g_257_78 := (hfr_g F_257 78 rfl).trans h78
    have g_257_79 := (hfr_g F_257 79 rfl).trans h79
    have g_257_80 := (hfr_g F_257 80 rfl).trans h80
    refine ik_Wk 0 (pc_q := 9) (loc_q := [some (fI kd)]) (st_q := [fI 1]) (h_q := h_257) (cl_q := 0) (sl_q := 0) rfl ?_
    refine ik_Wret rfl rfl ⟨_, _, rfl, rfl, ?_⟩
    refine ik_Wk 0 (pc_q := 4) (loc_q := [some (.ref 66), some (fI kd), some (fI p), some (fI t), some (fI q)]) (st_q := [fI 1]) (h_q := h_257) (cl_q := 0) (sl_q := 0) rfl ?_
    refine fw_if_eq rfl rfl (by decide +kernel) (by decide +kernel) (fun hc1 => absurd hc1 (by decide +kernel)) (fun hc1 => ?_)
    refine ik_Wk 2 (pc_q := 9) (loc_q := [some (.ref 66), some (fI kd), some (fI p), some (fI t), some (fI q)]) (st_q := [fI p, .ref 66]) (h_q := h_257) (cl_q := 0) (sl_q := 0) rfl ?_
    refine ik_Wc 129 2 0 [.ref 66, fI p] [] rfl rfl rfl (by decide +kernel) rfl rfl (fw_rec k_257 rfl g_257_66 rfl (Nat.le_of_ble_eq_true rfl)) ?_
    refine ik_Wk 0 (pc_q := 0) (loc_q := [some (.ref 66), some (fI p)]) (st_q := []) (h_q := h_257) (cl_q := 0) (sl_q := 0) rfl ?_
    refine ik_Wk 1 (pc_q := 1) (loc_q := [some (.ref 66), some (fI p)]) (st_q := [fI p]) (h_q := h_257) (cl_q := 0) (sl_q := 0) rfl ?_
    refine fw_i2l rfl (by omega) (by omega) ?_
    refine fw_lc (z := 0) rfl (by decide +kernel) ?_
    refine ik_Wk 1 (pc_q := 4) (loc_q := [some (.ref 66), some (fI p)]) (st_q := [.ref 66, fJ 0, fJ p]) (h_q := h_257) (cl_q := 0) (sl_q := 0) rfl ?_
    refine fw_gf rfl rfl g_257_66 rfl ?_
    refine ik_Wk 1 (pc_q := 8) (loc_q := [some (.ref 66), some (fI p)]) (st_q := [fI 1, fI pl, fJ 0, fJ p]) (h_q := h_257) (cl_q := 0) (sl_q := 0) rfl ?_
    refine fw_sub rfl ?_
    refine fw_i2l rfl (by omega) (by omega) ?_
    refine fw_call 127 3 3 [fJ p, fJ 0, fJ (pl - 1)] [] rfl rfl rfl (Nat.le_of_ble_eq_true rfl) rfl rfl (fw_sta k_257 rfl (by decide +kernel)) (cr_in (v := p) (a := 0) (b := pl - 1) (by omega) (by omega) (by omega)  k_257) ?_
    rintro _ h_258 (⟨rfl, p_258_0, F_258⟩ | ⟨rfl, p_258_0, F_258⟩)
    · have k_258 : cL h_258 := F_258.1.trans k_257
      have fr_258 := hfr_cb fr_257 F_258 rfl
      have g_258_66 := (hfr_g F_258 66 rfl).trans g_257_66
      have g_258_67 := (hfr_g F_258 67 rfl).trans g_257_67
      have g_258_68 := (hfr_g F_258 68 rfl).trans g_257_68
      have g_258_69 := (hfr_g F_258 69 rfl).trans g_257_69
      have g_258_77 := (hfr_g F_258 77 rfl).trans g_257_77
      have g_258_78 := (hfr_g F_258 78 rfl).trans g_257_78
      have g_258_79 := (hfr_g F_258 79 rfl).trans g_257_79
      have g_258_80 := (hfr_g F_258 80 rfl).trans g_257_80
      refine ik_Wk 0 (pc_q := 13) (loc_q := [some (.ref 66), some (fI p)]) (st_q := [fI 1]) (h_q := h_258) (cl_q := 0) (sl_q := 0) rfl ?_
      refine ik_Wret rfl rfl ⟨_, _, rfl, rfl, ?_⟩
      refine ik_Wk 0 (pc_q := 12) (loc_q := [some (.ref 66), some (fI kd), some (fI p), some (fI t), some (fI q)]) (st_q := [fI 1]) (h_q := h_258) (cl_q := 0) (sl_q := 0) rfl ?_
      refine fw_if_eq rfl rfl (by decide +kernel) (by decide +kernel) (fun hc2 => absurd hc2 (by decide +kernel)) (fun hc2 => ?_)
      refine ik_Wk 2 (pc_q := 18) (loc_q := [some (.ref 66), some (fI kd), some (fI p), some (fI t), some (fI q)]) (st_q := [fI q, .ref 66]) (h_q := h_258) (cl_q := 0) (sl_q := 0) rfl ?_
      refine ik_Wc 129 2 0 [.ref 66, fI q] [] rfl rfl rfl (by decide +kernel) rfl rfl (fw_rec k_258 rfl g_258_66 rfl (Nat.le_of_ble_eq_true rfl)) ?_
      refine ik_Wk 0 (pc_q := 0) (loc_q := [some (.ref 66), some (fI q)]) (st_q := []) (h_q := h_258) (cl_q := 0) (sl_q := 0) rfl ?_
      refine ik_Wk 1 (pc_q := 1) (loc_q := [some (.ref 66), some (fI q)]) (st_q := [fI q]) (h_q := h_258) (cl_q := 0) (sl_q := 0) rfl ?_
      refine fw_i2l rfl (by omega) (by omega) ?_
      refine fw_lc (z := 0) rfl (by decide +kernel) ?_
      refine ik_Wk 1 (pc_q := 4) (loc_q := [some (.ref 66), some (fI q)]) (st_q := [.ref 66, fJ 0, fJ q]) (h_q := h_258) (cl_q := 0) (sl_q := 0) rfl ?_
      refine fw_gf rfl rfl g_258_66 rfl ?_
      refine ik_Wk 1 (pc_q := 8) (loc_q := [some (.ref 66), some (fI q)]) (st_q := [fI 1, fI pl, fJ 0, fJ q]) (h_q := h_258) (cl_q := 0) (sl_q := 0) rfl ?_
      refine fw_sub rfl ?_
      refine fw_i2l rfl (by omega) (by omega) ?_
      refine fw_call 127 3 3 [fJ q, fJ 0, fJ (pl - 1)] [] rfl rfl rfl (Nat.le_of_ble_eq_true rfl) rfl rfl (fw_sta k_258 rfl (by decide +kernel)) (cr_in (v := q) (a := 0) (b := pl - 1) (by omega) (by omega) (by omega)  k_258) ?_
      rintro _ h_259 (⟨rfl, p_259_0, F_259⟩ | ⟨rfl, p_259_0, F_259⟩)
      · have k_259 : cL h_259 := F_259.1.trans k_258
        have fr_259 := hfr_cb fr_258 F_259 rfl
        have g_259_66 := (hfr_g F_259 66 rfl).trans g_258_66
        have g_259_67 := (hfr_g F_259 67 rfl).trans g_258_67
        have g_259_68 := (hfr_g F_259 68 rfl).trans g_258_68
        have g_259_69 := (hfr_g F_259 69 rfl).trans g_258_69
        have g_259_77 := (hfr_g F_259 77 rfl).trans g_258_77
        have g_259_78 := (hfr_g F_259 78 rfl).trans g_258_78
        have g_259_79 := (hfr_g F_259 79 rfl).trans g_258_79
        have g_259_80 := (hfr_g F_259 80 rfl).trans g_258_80
        refine ik_Wk 0 (pc_q := 13) (loc_q := [some (.ref 66), some (fI q)]) (st_q := [fI 1]) (h_q := h_259) (cl_q := 0) (sl_q := 0) rfl ?_
        refine ik_Wret rfl rfl ⟨_, _, rfl, rfl, ?_⟩
        refine ik_Wk 0 (pc_q := 21) (loc_q := [some (.ref 66), some (fI kd), some (fI p), some (fI t), some (fI q)]) (st_q := [fI 1]) (h_q := h_259) (cl_q := 0) (sl_q := 0) rfl ?_
        refine fw_if_ne rfl rfl (by decide +kernel) (by decide +kernel) (fun hc3 => absurd hc3 (by decide +kernel)) (fun hc3 => ?_)
        refine ik_Wk 1 (pc_q := 28) (loc_q := [some (.ref 66), some (fI kd), some (fI p), some (fI t), some (fI q)]) (st_q := [fI t]) (h_q := h_259) (cl_q := 0) (sl_q := 0) rfl ?_
        refine ik_Wc 159 1 3 [fI t] [] rfl rfl rfl (by decide +kernel) rfl rfl (fw_sta k_259 rfl (by decide +kernel)) ?_
        refine ik_Wk 0 (pc_q := 0) (loc_q := [some (fI t)]) (st_q := []) (h_q := h_259) (cl_q := 0) (sl_q := 0) rfl ?_
        refine ik_Wk 1 (pc_q := 1) (loc_q := [some (fI t)]) (st_q := [fI t]) (h_q := h_259) (cl_q := 0) (sl_q := 0) rfl ?_
        refine fw_i2l rfl (by omega) (by omega) ?_
        refine fw_lc (z := 0) rfl (by decide +kernel) ?_
        refine fw_l2 200 rfl rfl (by decide +kernel) ?_
        refine fw_call 127 3 3 [fJ t, fJ 0, fJ 200] [] rfl rfl rfl (Nat.le_of_ble_eq_true rfl) rfl rfl (fw_sta k_259 rfl (by decide +kernel)) (cr_in (v := t) (a := 0) (b := 200) (by omega) (by omega) (by omega)  k_259) ?_
        rintro _ h_260 (⟨rfl, p_260_0, F_260⟩ | ⟨rfl, p_260_0, F_260⟩)
        · have k_260 : cL h_260 := F_260.1.trans k_259
          have fr_260 := hfr_cb fr_259 F_260 rfl
          have g_260_66 := (hfr_g F_260 66 rfl).trans g_259_66
          have g_260_67 := (hfr_g F_260 67 rfl).trans g_259_67
          have g_260_68 := (hfr_g F_260 68 rfl).trans g_259_68
          have g_260_69 := (hfr_g F_260 69 rfl).trans g_259_69
          have g_260_77 := (hfr_g F_260 77 rfl).trans g_259_77
          have g_260_78 := (hfr_g F_260 78 rfl).trans g_259_78
          have g_260_79 := (hfr_g F_260 79 rfl).trans g_259_79
          have g_260_80 := (hfr_g F_260 80 rfl).trans g_259_80
          refine ik_Wk 0 (pc_q := 9) (loc_q := [some (fI t)]) (st_q := [fI 1]) (h_q := h_260) (cl_q := 0) (sl_q := 0) rfl ?_
          refine ik_Wret rfl rfl ⟨_, _, rfl, rfl, ?_⟩
          refine ik_Wk 0 (pc_q := 31) (loc_q := [some (.ref 66), some (fI kd), some (fI p), some (fI t), some (fI q)]) (st_q := [fI 1]) (h_q := h_260) (cl_q := 0) (sl_q := 0) rfl ?_
          refine fw_if_ne rfl rfl (by decide +kernel) (by decide +kernel) (fun hc4 => absurd hc4 (by decide +kernel)) (fun hc4 => ?_)
          refine ik_Wk 4 (pc_q := 41) (loc_q := [some (.ref 66), some (fI kd), some (fI p), some (fI t), some (fI q)]) (st_q := [fI t, fI p, fI kd, .ref 66]) (h_q := h_260) (cl_q := 0) (sl_q := 0) rfl ?_
          refine fw_call 156 4 0 [.ref 66, fI kd, fI p, fI t] [] rfl rfl rfl (Nat.le_of_ble_eq_true rfl) rfl rfl (fw_rec k_260 rfl g_260_66 rfl (Nat.le_of_ble_eq_true rfl)) (cr_oddsAt (pl := pl) (f := fun j => ((0 :: 0 :: 0 :: 0 :: 0 :: 0 :: 0 :: f 7 :: f 8 :: 0 :: f 10 :: f 11 :: f 12 :: f 13 :: f 14 :: f 15 :: f 16 :: f 17 :: 0 :: 0 :: 0 :: 0 :: 0 :: 0 :: f 24 :: 0 :: 0 :: 0 :: 0 :: 0 :: 0 :: 0 :: f 32 :: f 33 :: 0 :: 0 :: f 36 :: 0 :: 0 :: 0 :: 0 :: 0 :: 0 :: []) : List Int).getD j 0) (s := s) (cn := cn) (go := go) (ch := ch) (gt := gt) (gd := gd) (xs := xs) (ys := ys) (kd := kd) (qp := p) (t := t) (by omega) (by omega) q2 q3 q4 (by omega) (by omega) (by omega) g_260_66 g_260_67 n67 g_260_68 n68 g_260_69 n69 g_260_77 n77 g_260_78 n78 g_260_79 n79 g_260_80 n80 k_260) ?_
          rintro _ h_261 ⟨w'_261, gt'_261, gd'_261, xs'_261, ys'_261, rfl, e_261_66, e_261_77, m_261_77, e_261_78, m_261_78, e_261_79, m_261_79, e_261_80, m_261_80, p_261_0, F_261⟩
          have k_261 : cL h_261 := F_261.1.trans k_260
          have fr_261 := hfr_cb fr_260 F_261 rfl
          have g_261_67 := (hfr_g F_261 67 rfl).trans g_260_67
          have g_261_68 := (hfr_g F_261 68 rfl).trans g_260_68
          have g_261_69 := (hfr_g F_261 69 rfl).trans g_260_69
          have g_261_66 : cE h_261 66 (.inr (10, (fI pl :: .ref 67 :: .ref 68 :: .ref 69 :: fI ((s : Nat) : Int) :: .ref 70 :: .ref 71 :: fI (f 7) :: fI (f 8) :: .ref 72 :: fI (f 10) :: fI (f 11) :: fI (f 12) :: fJ (f 13) :: fI (f 14) :: fI (f 15) :: fI (f 16) :: fI (f 17) :: .ref 73 :: .ref 74 :: .ref 75 :: .ref 76 :: .ref 77 :: .ref 78 :: fI w'_261 :: .ref 79 :: .ref 80 :: .ref 81 :: .ref 82 :: .ref 83 :: .ref 84 :: .ref 85 :: fJ (f 32) :: fJ (f 33) :: .ref 86 :: .ref 87 :: fI (f 36) :: .ref 88 :: .ref 89 :: .ref 90 :: .ref 91 :: .ref 92 :: .ref 93 :: []))) := e_261_66
          have g_261_77 : cE h_261 77 (.inl (.int, fA gt'_261)) := e_261_77
          have g_261_78 : cE h_261 78 (.inl (.int, fA gd'_261)) := e_261_78
          have g_261_79 : cE h_261 79 (.inl (.long, fL xs'_261)) := e_261_79
          have g_261_80 : cE h_261 80 (.inl (.long, fL ys'_261)) := e_261_80
          refine ik_Wk 0 (pc_q := 44) (loc_q := [some (.ref 66), some (fI kd), some (fI p), some (fI t), some (fI q)]) (st_q := []) (h_q := h_261) (cl_q := 0) (sl_q := 0) rfl ?_
          refine ik_Wk 1 (pc_q := 45) (loc_q := [some (.ref 66), some (fI kd), some (fI p), some (fI t), some (fI q)]) (st_q := [.ref 66]) (h_q := h_261) (cl_q := 0) (sl_q := 0) rfl ?_
          refine fw_gf rfl rfl g_261_66 rfl ?_
          refine ik_Wk 1 (pc_q := 50) (loc_q := [some (.ref 66), some (fI kd), some (fI p), some (fI t), some (fI q)]) (st_q := [fI q, .ref 79]) (h_q := h_261) (cl_q := 0) (sl_q := 0) rfl ?_
          refine fx_lal rfl g_261_79 (by omega) (by omega) (by omega) ?_
          refine fx_l2i rfl ?_
          have ev : xs'_261.getD q.toNat 0 = mf_od (fun x => mx_w cn go ch s x) (pl - 1) kd p t.toNat q.toNat := p_261_0 _ (by omega)
          have ev2 := ev
          exact ik_Wret rfl rfl ⟨_, _, rfl, rfl, rfl, rfl, ⟨w'_261, gt'_261, gd'_261, xs'_261, ys'_261, (congrArg (fun z => [fI z]) (by rw [ev]; unfold an_kpq; (repeat' split) <;> first | rfl | omega)), g_261_66, g_261_77, m_261_77, g_261_78, m_261_78, g_261_79, m_261_79, g_261_80, m_261_80, fr_261⟩⟩
        · have k_260 : cL h_260 := F_260.1.trans k_259
          have fr_260 := hfr_cb fr_259 F_260 rfl
          have g_260_66 := (hfr_g F_260 66 rfl).trans g_259_66
          have g_260_67 := (hfr_g F_260 67 rfl).trans g_259_67
          have g_260_68 := (hfr_g F_260 68 rfl).trans g_259_68
          have g_260_69 := (hfr_g F_260 69 rfl).trans g_259_69
          have g_260_77 := (hfr_g F_260 77 rfl).trans g_259_77
          have g_260_78 := (hfr_g F_260 78 rfl).trans g_259_78
          have g_260_79 := (hfr_g F_260 79 rfl).trans g_259_79
          have g_260_80 := (hfr_g F_260 80 rfl).trans g_259_80
          refine ik_Wk 0 (pc_q := 9) (loc_q := [some (fI t)]) (st_q := [fI 0]) (h_q := h_260) (cl_q := 0) (sl_q := 0) rfl ?_
          refine ik_Wret rfl rfl ⟨_, _, rfl, rfl, ?_⟩
          refine ik_Wk 0 (pc_q := 31) (loc_q := [some (.ref 66), some (fI kd), some (fI p), some (fI t), some (fI q)]) (st_q := [fI 0]) (h_q := h_260) (cl_q := 0) (sl_q := 0) rfl ?_
          refine fw_if_ne rfl rfl (by decide +kernel) (by decide +kernel) (fun hc5 => ?_) (fun hc5 => absurd hc5 (by decide +kernel))
          refine fw_ld (-1000000002) rfl rfl (by decide +kernel) ?_
          exact ik_Wret rfl rfl ⟨_, _, rfl, rfl, rfl, rfl, ⟨(f 24), gt, gd, xs, ys, (congrArg (fun z => [fI z]) (by unfold an_kpq; (repeat' split) <;> first | rfl | omega)), g_260_66, g_260_77, n77, g_260_78, n78, g_260_79, n79, g_260_80, n80, fr_260⟩⟩
      · have k_259 : cL h_259 := F_259.1.trans k_258
        have fr_259 := hfr_cb fr_258 F_259 rfl
        have g_259_66 := (hfr_g F_259 66 rfl).trans g_258_66
        have g_259_67 := (hfr_g F_259 67 rfl).trans g_258_67
        have g_259_68 := (hfr_g F_259 68 rfl).trans g_258_68
        have g_259_69 := (hfr_g F_259 69 rfl).trans g_258_69
        have g_259_77 := (hfr_g F_259 77 rfl).trans g_258_77
        have g_259_78 := (hfr_g F_259 78 rfl).trans g_258_78
        have g_259_79 := (hfr_g F_259 79 rfl).trans g_258_79
        have g_259_80 := (hfr_g F_259 80 rfl).trans g_258_80
        refine ik_Wk 0 (pc_q := 13) (loc_q := [some (.ref 66), some (fI q)]) (st_q := [fI 0]) (h_q := h_259) (cl_q := 0) (sl_q := 0) rfl ?_
        refine ik_Wret rfl rfl ⟨_, _, rfl, rfl, ?_⟩
        refine ik_Wk 0 (pc_q := 21) (loc_q := [some (.ref 66), some (fI kd), some (fI p), some (fI t), some (fI q)]) (st_q := [fI 0]) (h_q := h_259) (cl_q := 0) (sl_q := 0) rfl ?_
        refine fw_if_ne rfl rfl (by decide +kernel) (by decide +kernel) (fun hc6 => ?_) (fun hc6 => absurd hc6 (by decide +kernel))
        refine fw_ld (-1000000001) rfl rfl (by decide +kernel) ?_
        exact ik_Wret rfl rfl ⟨_, _, rfl, rfl, rfl, rfl, ⟨(f 24), gt, gd, xs, ys, (congrArg (fun z => [fI z]) (by unfold an_kpq; (repeat' split) <;> first | rfl | omega)), g_259_66, g_259_77, n77, g_259_78, n78, g_259_79, n79, g_259_80, n80, fr_259⟩⟩
    · have k_258 : cL h_258 := F_258.1.trans k_257
      have fr_258 := hfr_cb fr_257 F_258 rfl
      have g_258_66 := (hfr_g F_258 66 rfl).trans g_257_66
      have g_258_67 := (hfr_g F_258 67 rfl).trans g_257_67
      have g_258_68 := (hfr_g F_258 68 rfl).trans g_257_68
      have g_258_69 := (hfr_g F_258 69 rfl).trans g_257_69
      have g_258_77 := (hfr_g F_258 77 rfl).trans g_257_77
      have g_258_78 := (hfr_g F_258 78 rfl).trans g_257_78
      have g_258_79 := (hfr_g F_258 79 rfl).trans g_257_79
      have g_258_80 := (hfr_g F_258 80 rfl).trans g_257_80
      refine ik_Wk 0 (pc_q := 13) (loc_q := [some (.ref 66), some (fI p)]) (st_q := [fI 0]) (h_q := h_258) (cl_q := 0) (sl_q := 0) rfl ?_
      refine ik_Wret rfl rfl ⟨_, _, rfl, rfl, ?_⟩
      refine ik_Wk 0 (pc_q := 12) (loc_q := [some (.ref 66), some (fI kd), some (fI p), some (fI t), some (fI q)]) (st_q := [fI 0]) (h_q := h_258) (cl_q := 0) (sl_q := 0) rfl ?_
      refine fw_if_eq rfl rfl (by decide +kernel) (by decide +kernel) (fun hc7 => ?_) (fun hc7 => absurd hc7 (by decide +kernel))
      refine fw_ld (-1000000001) rfl rfl (by decide +kernel) ?_
      exact ik_Wret rfl rfl ⟨_, _, rfl, rfl, rfl, rfl, ⟨(f 24), gt, gd, xs, ys, (congrArg (fun z => [fI z]) (by unfold an_kpq; (repeat' split) <;> first | rfl | omega)), g_258_66, g_258_77, n77, g_258_78, n78, g_258_79, n79, g_258_80, n80, fr_258⟩⟩
  · have k_257 : cL h_257 := F_257.1.trans hl
    have fr_257 := hfr_cb (hfr_refl [66, 77, 78, 79, 80] h) F_257 rfl
    have g_257_66 := (hfr_g F_257 66 rfl).trans h66
    have g_257_67 := (hfr_g F_257 67 rfl).trans h67
    have g_257_68 := (hfr_g F_257 68 rfl).trans h68
    have g_257_69 := (hfr_g F_257 69 rfl).trans h69
    have g_257_77 := (hfr_g F_257 77 rfl).trans h77
    have g_257_78 := (hfr_g F_257 78 rfl).trans h78
    have g_257_79 := (hfr_g F_257 79 rfl).trans h79
    have g_257_80 := (hfr_g F_257 80 rfl).trans h80
    refine ik_Wk 0 (pc_q := 9) (loc_q := [some (fI kd)]) (st_q := [fI 0]) (h_q := h_257) (cl_q := 0) (sl_q := 0) rfl ?_
    refine ik_Wret rfl rfl ⟨_, _, rfl, rfl, ?_⟩
    refine ik_Wk 0 (pc_q := 4) (loc_q := [some (.ref 66), some (fI kd), some (fI p), some (fI t), some (fI q)]) (st_q := [fI 0]) (h_q := h_257) (cl_q := 0) (sl_q := 0) rfl ?_
    refine fw_if_eq rfl rfl (by decide +kernel) (by decide +kernel) (fun hc8 => ?_) (fun hc8 => absurd hc8 (by decide +kernel))
    refine fw_ld (-1000000001) rfl rfl (by decide +kernel) ?_
    exact ik_Wret rfl rfl ⟨_, _, rfl, rfl, rfl, rfl, ⟨(f 24), gt, gd, xs, ys, (congrArg (fun z => [fI z]) (by unfold an_kpq; (repeat' split) <;> first | rfl | omega)), g_257_66, g_257_77, n77, g_257_78, n78, g_257_79, n79, g_257_80, n80, fr_257⟩⟩

theorem rp_knownL {h : List ik_E} {pl : Int} {f : Nat → Int} {s : Nat} {cn : List Int} {go : List Int} {ch : List Int} {gt : List Int} {gd : List Int} {xs : List Int} {ys : List Int} {r1 : List Int} {r2 : List Int} {kd : Int} {p : Int} {d : Int} (q0 : 0 ≤ pl ∧ pl ≤ 12) (q1 : s < 4096) (q2 : ∀ x : Int, (0 : Int) ≤ x → x < pl - 1 → 0 ≤ cn.getD x.toNat 0 ∧ cn.getD x.toNat 0 ≤ 4) (q3 : ∀ x : Int, (0 : Int) ≤ x → x < pl - 1 → 1 ≤ cn.getD x.toNat 0 ∧ ∀ j : Int, 4 * x ≤ j → j < 4 * x + cn.getD x.toNat 0 → 0 ≤ ch.getD j.toNat 0 ∧ ch.getD j.toNat 0 ≤ 100) (q4 : ∀ x : Int, (0 : Int) ≤ x → x < pl - 1 → mx_ok pl (mx_w cn go ch s x)) (q5 : (-2147483648 : Int) ≤ kd ∧ kd < (2147483648 : Int)) (q6 : (-2147483648 : Int) ≤ p ∧ p < (2147483648 : Int)) (q7 : (-2147483648 : Int) ≤ d ∧ d < (2147483648 : Int)) {w1 : Int} {g1 d1 x1 y1 s1 s2 : List Int} (hkp : (((0 : Int) ≤ kd ∧ kd ≤ (2 : Int)) ∧ ((0 : Int) ≤ p ∧ p < pl)) ∧ (1 : Int) ≤ d ∧ d ≤ (1000 : Int)) (hr1 : ∀ j : Nat, j ≤ 200 → s1.getD j 0 = (mf_cm (fun x => mx_w cn go ch s x) (pl - 1) kd p) j) (hr2 : ∀ j : Nat, j ≤ 200 → s2.getD j 0 = (mf_cm (fun x => mx_w cn go ch s x) (pl - 1) 0 p) j) : ∀ (k : Nat) (t : Int) (u : List ik_E) (u66 : cE u 66 (.inr (10, (fI pl :: .ref 67 :: .ref 68 :: .ref 69 :: fI ((s : Nat) : Int) :: .ref 70 :: .ref 71 :: fI (f 7) :: fI (f 8) :: .ref 72 :: fI (f 10) :: fI (f 11) :: fI (f 12) :: fJ (f 13) :: fI (f 14) :: fI (f 15) :: fI (f 16) :: fI (f 17) :: .ref 73 :: .ref 74 :: .ref 75 :: .ref 76 :: .ref 77 :: .ref 78 :: fI w1 :: .ref 79 :: .ref 80 :: .ref 81 :: .ref 82 :: .ref 83 :: .ref 84 :: .ref 85 :: fJ (f 32) :: fJ (f 33) :: .ref 86 :: .ref 87 :: fI (f 36) :: .ref 88 :: .ref 89 :: .ref 90 :: .ref 91 :: .ref 92 :: .ref 93 :: [])))) (u67 : cE u 67 (.inl (.int, fA cn))) (n67 : cn.length = (12 : Nat)) (u68 : cE u 68 (.inl (.int, fA go))) (n68 : go.length = (48 : Nat)) (u69 : cE u 69 (.inl (.int, fA ch))) (n69 : ch.length = (48 : Nat)) (u77 : cE u 77 (.inl (.int, fA g1))) (n77 : g1.length = (5 : Nat)) (u78 : cE u 78 (.inl (.int, fA d1))) (n78 : d1.length = (5 : Nat)) (u79 : cE u 79 (.inl (.long, fL x1))) (n79 : x1.length = (12 : Nat)) (u80 : cE u 80 (.inl (.long, fL y1))) (n80 : y1.length = (12 : Nat)) (u81 : cE u 81 (.inl (.long, fL s1))) (n81 : s1.length = (201 : Nat)) (u82 : cE u 82 (.inl (.long, fL s2))) (n82 : s2.length = (201 : Nat)) (ul : u.length = (94 : Nat)) (F : hfr [66, 77, 78, 79, 80, 81, 82] h u) (ht : (0 : Int) ≤ t ∧ t ≤ (201 : Int)) (he : mk_kn (mf_cm (fun x => mx_w cn go ch s x) (pl - 1) kd p) (mf_cm (fun x => mx_w cn go ch s x) (pl - 1) 0 p) d 201 0 = mk_kn (mf_cm (fun x => mx_w cn go ch s x) (pl - 1) kd p) (mf_cm (fun x => mx_w cn go ch s x) (pl - 1) 0 p) d (201 - t).toNat t) (hk : 201 - t < (k : Int)), ik_G 164 56 [some (.ref 66), some (fI kd), some (fI p), some (fI d), some (fI t)] [] u (fun rv h_q => ∃ (w' : Int) (gt' : List Int) (gd' : List Int) (xs' : List Int) (ys' : List Int) (r1' : List Int) (r2' : List Int), rv = [fI (an_kpd kd p pl d (mk_kn (mf_cm (fun x => mx_w cn go ch s x) (pl - 1) kd p) (mf_cm (fun x => mx_w cn go ch s x) (pl - 1) 0 p) d 201 0))] ∧ cE h_q 66 (.inr (10, (fI pl :: .ref 67 :: .ref 68 :: .ref 69 :: fI ((s : Nat) : Int) :: .ref 70 :: .ref 71 :: fI (f 7) :: fI (f 8) :: .ref 72 :: fI (f 10) :: fI (f 11) :: fI (f 12) :: fJ (f 13) :: fI (f 14) :: fI (f 15) :: fI (f 16) :: fI (f 17) :: .ref 73 :: .ref 74 :: .ref 75 :: .ref 76 :: .ref 77 :: .ref 78 :: fI w' :: .ref 79 :: .ref 80 :: .ref 81 :: .ref 82 :: .ref 83 :: .ref 84 :: .ref 85 :: fJ (f 32) :: fJ (f 33) :: .ref 86 :: .ref 87 :: fI (f 36) :: .ref 88 :: .ref 89 :: .ref 90 :: .ref 91 :: .ref 92 :: .ref 93 :: []))) ∧ cE h_q 77 (.inl (.int, fA gt')) ∧ gt'.length = (5 : Nat) ∧ cE h_q 78 (.inl (.int, fA gd')) ∧ gd'.length = (5 : Nat) ∧ cE h_q 79 (.inl (.long, fL xs')) ∧ xs'.length = (12 : Nat) ∧ cE h_q 80 (.inl (.long, fL ys')) ∧ ys'.length = (12 : Nat) ∧ cE h_q 81 (.inl (.long, fL r1')) ∧ r1'.length = (201 : Nat) ∧ cE h_q 82 (.inl (.long, fL r2')) ∧ r2'.length = (201 : Nat) ∧ hfr [66, 77, 78, 79, 80, 81, 82] h h_q) := by
  intro k
  induction k with
  | zero => intro t u u66 u67 n67 u68 n68 u69 n69 u77 n77 u78 n78 u79 n79 u80 n80 u81 n81 u82 n82 ul F ht he hk; omega
  | succ k ih =>
    intro t u u66 u67 n67 u68 n68 u69 n69 u77 n77 u78 n78 u79 n79 u80 n80 u81 n81 u82 n82 ul F ht he hk
    have b0 := mf_cm_b (W := (fun x => mx_w cn go ch s x)) (k := kd) q4 hkp.1.2 t.toNat
    have b1 := mf_cm_b (W := (fun x => mx_w cn go ch s x)) (k := 0) q4 hkp.1.2 t.toNat
    refine ik_Wk 1 (pc_q := 58) (loc_q := [some (.ref 66), some (fI kd), some (fI p), some (fI d), some (fI t)]) (st_q := [fI t]) (h_q := u) (cl_q := 0) (sl_q := 0) rfl ?_
    refine fw_si rfl (by decide +kernel) ?_
    refine fw_ic_gt rfl rfl (by omega) (by omega) (by omega) (by omega) (fun hc1 => ?_) (fun hc1 => ?_)
    · refine ik_Wk 1 (pc_q := 102) (loc_q := [some (.ref 66), some (fI kd), some (fI p), some (fI d), some (fI t)]) (st_q := [fI (-1)]) (h_q := u) (cl_q := 0) (sl_q := 0) rfl ?_
      exact ik_Wret rfl rfl ⟨_, _, rfl, rfl, rfl, rfl, ⟨w1, g1, d1, x1, y1, s1, s2, (by rw [an_kpd, if_pos hkp.1, if_pos hkp.2, he, show (201 - t).toNat = 0 by omega]; rfl), u66, u77, n77, u78, n78, u79, n79, u80, n80, u81, n81, u82, n82, F⟩⟩
    · refine ik_Wk 1 (pc_q := 65) (loc_q := [some (.ref 66), some (fI kd), some (fI p), some (fI d), some (fI t)]) (st_q := [.ref 66]) (h_q := u) (cl_q := 0) (sl_q := 0) rfl ?_
      refine fw_gf rfl rfl u66 rfl ?_
      refine ik_Wk 1 (pc_q := 70) (loc_q := [some (.ref 66), some (fI kd), some (fI p), some (fI d), some (fI t)]) (st_q := [fI t, .ref 81]) (h_q := u) (cl_q := 0) (sl_q := 0) rfl ?_
      refine fx_lal rfl u81 (by omega) (by omega) (by omega) ?_
      have e0 := hr1 t.toNat (by omega)
      refine ik_Wk 1 (pc_q := 72) (loc_q := [some (.ref 66), some (fI kd), some (fI p), some (fI d), some (fI t)]) (st_q := [.ref 66, fJ (s1.getD t.toNat 0)]) (h_q := u) (cl_q := 0) (sl_q := 0) rfl ?_
      refine fw_gf rfl rfl u66 rfl ?_
      refine ik_Wk 1 (pc_q := 77) (loc_q := [some (.ref 66), some (fI kd), some (fI p), some (fI d), some (fI t)]) (st_q := [fI t, .ref 82, fJ (s1.getD t.toNat 0)]) (h_q := u) (cl_q := 0) (sl_q := 0) rfl ?_
      refine fx_lal rfl u82 (by omega) (by omega) (by omega) ?_
      have e1 := hr2 t.toNat (by omega)
      refine fw_lsub rfl ?_
      refine ik_Wc 163 1 3 [fJ ((s1.getD t.toNat 0) - (s2.getD t.toNat 0))] [] rfl rfl rfl (by decide +kernel) rfl rfl (fw_sta ul rfl (by decide +kernel)) ?_
      refine ik_Wk 0 (pc_q := 0) (loc_q := [some (fJ ((s1.getD t.toNat 0) - (s2.getD t.toNat 0))), none]) (st_q := []) (h_q := u) (cl_q := 0) (sl_q := 0) rfl ?_
      refine ik_Wk 1 (pc_q := 1) (loc_q := [some (fJ ((s1.getD t.toNat 0) - (s2.getD t.toNat 0))), none]) (st_q := [fJ ((s1.getD t.toNat 0) - (s2.getD t.toNat 0))]) (h_q := u) (cl_q := 0) (sl_q := 0) rfl ?_
      refine fw_lc (z := 0) rfl (by decide +kernel) ?_
      refine fw_lcmp_ge rfl rfl rfl (by omega) (by omega) (by omega) (by omega) (fun hc2 => ?_) (fun hc2 => ?_)
      · refine ik_Wk 1 (pc_q := 12) (loc_q := [some (fJ ((s1.getD t.toNat 0) - (s2.getD t.toNat 0))), none]) (st_q := [fJ ((s1.getD t.toNat 0) - (s2.getD t.toNat 0))]) (h_q := u) (cl_q := 0) (sl_q := 0) rfl ?_
        refine ik_Wret rfl rfl ⟨_, _, rfl, rfl, ?_⟩
        refine ik_Wk 0 (pc_q := 82) (loc_q := [some (.ref 66), some (fI kd), some (fI p), some (fI d), some (fI t)]) (st_q := [fJ ((s1.getD t.toNat 0) - (s2.getD t.toNat 0))]) (h_q := u) (cl_q := 0) (sl_q := 0) rfl ?_
        refine fw_l2 1000000 rfl rfl (by decide +kernel) ?_
        have ea : mk_ab ((mf_cm (fun x => mx_w cn go ch s x) (pl - 1) kd p) t.toNat - (mf_cm (fun x => mx_w cn go ch s x) (pl - 1) 0 p) t.toNat) = (s1.getD t.toNat 0) - (s2.getD t.toNat 0) := by unfold mk_ab; split <;> omega
        refine fx_ldiv rfl (by omega) (by omega) (by omega) (by omega) ?_
        refine ik_Wk 1 (pc_q := 87) (loc_q := [some (.ref 66), some (fI kd), some (fI p), some (fI d), some (fI t)]) (st_q := [fI d, fJ (((s1.getD t.toNat 0) - (s2.getD t.toNat 0)) / 1000000)]) (h_q := u) (cl_q := 0) (sl_q := 0) rfl ?_
        refine fw_i2l rfl (by omega) (by omega) ?_
        refine fw_lcmp_lt rfl rfl rfl (by omega) (by omega) (by omega) (by omega) (fun hc3 => ?_) (fun hc3 => ?_)
        · refine fw_inc (a := t) (loc_q := [some (.ref 66), some (fI kd), some (fI p), some (fI d), some (fI (t + 1))]) rfl rfl (Nat.le_of_ble_eq_true rfl) rfl ?_
          refine ik_Wk 1 (pc_q := 56) (loc_q := [some (.ref 66), some (fI kd), some (fI p), some (fI d), some (fI (t + 1))]) (st_q := []) (h_q := u) (cl_q := 0) (sl_q := 0) rfl ?_
          exact ih  (t + 1) u u66 u67 n67 u68 n68 u69 n69 u77 n77 u78 n78 u79 n79 u80 n80 u81 n81 u82 n82 ul F (by omega) (by rw [he, mk_kn_s (by omega), if_neg (by rw [ea]; omega)]) (by omega)
        · refine ik_Wk 1 (pc_q := 94) (loc_q := [some (.ref 66), some (fI kd), some (fI p), some (fI d), some (fI t)]) (st_q := [fI t]) (h_q := u) (cl_q := 0) (sl_q := 0) rfl ?_
          exact ik_Wret rfl rfl ⟨_, _, rfl, rfl, rfl, rfl, ⟨w1, g1, d1, x1, y1, s1, s2, (by rw [an_kpd, if_pos hkp.1, if_pos hkp.2, he, mk_kn_s (by omega), if_pos (by rw [ea]; omega)]), u66, u77, n77, u78, n78, u79, n79, u80, n80, u81, n81, u82, n82, F⟩⟩
      · refine ik_Wk 1 (pc_q := 7) (loc_q := [some (fJ ((s1.getD t.toNat 0) - (s2.getD t.toNat 0))), none]) (st_q := [fJ ((s1.getD t.toNat 0) - (s2.getD t.toNat 0))]) (h_q := u) (cl_q := 0) (sl_q := 0) rfl ?_
        refine fx_lneg rfl ?_
        refine ik_Wk 1 (pc_q := 12) (loc_q := [some (fJ ((s1.getD t.toNat 0) - (s2.getD t.toNat 0))), none]) (st_q := [fJ (-((s1.getD t.toNat 0) - (s2.getD t.toNat 0)))]) (h_q := u) (cl_q := 0) (sl_q := 0) rfl ?_
        refine ik_Wret rfl rfl ⟨_, _, rfl, rfl, ?_⟩
        refine ik_Wk 0 (pc_q := 82) (loc_q := [some (.ref 66), some (fI kd), some (fI p), some (fI d), some (fI t)]) (st_q := [fJ (-((s1.getD t.toNat 0) - (s2.getD t.toNat 0)))]) (h_q := u) (cl_q := 0) (sl_q := 0) rfl ?_
        refine fw_l2 1000000 rfl rfl (by decide +kernel) ?_
        have ea : mk_ab ((mf_cm (fun x => mx_w cn go ch s x) (pl - 1) kd p) t.toNat - (mf_cm (fun x => mx_w cn go ch s x) (pl - 1) 0 p) t.toNat) = -((s1.getD t.toNat 0) - (s2.getD t.toNat 0)) := by unfold mk_ab; split <;> omega
        refine fx_ldiv rfl (by omega) (by omega) (by omega) (by omega) ?_
        refine ik_Wk 1 (pc_q := 87) (loc_q := [some (.ref 66), some (fI kd), some (fI p), some (fI d), some (fI t)]) (st_q := [fI d, fJ ((-((s1.getD t.toNat 0) - (s2.getD t.toNat 0))) / 1000000)]) (h_q := u) (cl_q := 0) (sl_q := 0) rfl ?_
        refine fw_i2l rfl (by omega) (by omega) ?_
        refine fw_lcmp_lt rfl rfl rfl (by omega) (by omega) (by omega) (by omega) (fun hc4 => ?_) (fun hc4 => ?_)
        · refine fw_inc (a := t) (loc_q := [some (.ref 66), some (fI kd), some (fI p), some (fI d), some (fI (t + 1))]) rfl rfl (Nat.le_of_ble_eq_true rfl) rfl ?_
          refine ik_Wk 1 (pc_q := 56) (loc_q := [some (.ref 66), some (fI kd), some (fI p), some (fI d), some (fI (t + 1))]) (st_q := []) (h_q := u) (cl_q := 0) (sl_q := 0) rfl ?_
          exact ih  (t + 1) u u66 u67 n67 u68 n68 u69 n69 u77 n77 u78 n78 u79 n79 u80 n80 u81 n81 u82 n82 ul F (by omega) (by rw [he, mk_kn_s (by omega), if_neg (by rw [ea]; omega)]) (by omega)
        · refine ik_Wk 1 (pc_q := 94) (loc_q := [some (.ref 66), some (fI kd), some (fI p), some (fI d), some (fI t)]) (st_q := [fI t]) (h_q := u) (cl_q := 0) (sl_q := 0) rfl ?_
          exact ik_Wret rfl rfl ⟨_, _, rfl, rfl, rfl, rfl, ⟨w1, g1, d1, x1, y1, s1, s2, (by rw [an_kpd, if_pos hkp.1, if_pos hkp.2, he, mk_kn_s (by omega), if_pos (by rw [ea]; omega)]), u66, u77, n77, u78, n78, u79, n79, u80, n80, u81, n81, u82, n82, F⟩⟩

theorem rp_known {h : List ik_E} {pl : Int} {f : Nat → Int} {s : Nat} {cn : List Int} {go : List Int} {ch : List Int} {gt : List Int} {gd : List Int} {xs : List Int} {ys : List Int} {r1 : List Int} {r2 : List Int} {kd : Int} {p : Int} {d : Int} (q0 : 0 ≤ pl ∧ pl ≤ 12) (q1 : s < 4096) (q2 : ∀ x : Int, (0 : Int) ≤ x → x < pl - 1 → 0 ≤ cn.getD x.toNat 0 ∧ cn.getD x.toNat 0 ≤ 4) (q3 : ∀ x : Int, (0 : Int) ≤ x → x < pl - 1 → 1 ≤ cn.getD x.toNat 0 ∧ ∀ j : Int, 4 * x ≤ j → j < 4 * x + cn.getD x.toNat 0 → 0 ≤ ch.getD j.toNat 0 ∧ ch.getD j.toNat 0 ≤ 100) (q4 : ∀ x : Int, (0 : Int) ≤ x → x < pl - 1 → mx_ok pl (mx_w cn go ch s x)) (q5 : (-2147483648 : Int) ≤ kd ∧ kd < (2147483648 : Int)) (q6 : (-2147483648 : Int) ≤ p ∧ p < (2147483648 : Int)) (q7 : (-2147483648 : Int) ≤ d ∧ d < (2147483648 : Int)) (h66 : cE h 66 (.inr (10, (fI pl :: .ref 67 :: .ref 68 :: .ref 69 :: fI ((s : Nat) : Int) :: .ref 70 :: .ref 71 :: fI (f 7) :: fI (f 8) :: .ref 72 :: fI (f 10) :: fI (f 11) :: fI (f 12) :: fJ (f 13) :: fI (f 14) :: fI (f 15) :: fI (f 16) :: fI (f 17) :: .ref 73 :: .ref 74 :: .ref 75 :: .ref 76 :: .ref 77 :: .ref 78 :: fI (f 24) :: .ref 79 :: .ref 80 :: .ref 81 :: .ref 82 :: .ref 83 :: .ref 84 :: .ref 85 :: fJ (f 32) :: fJ (f 33) :: .ref 86 :: .ref 87 :: fI (f 36) :: .ref 88 :: .ref 89 :: .ref 90 :: .ref 91 :: .ref 92 :: .ref 93 :: [])))) (h67 : cE h 67 (.inl (.int, fA cn))) (n67 : cn.length = (12 : Nat)) (h68 : cE h 68 (.inl (.int, fA go))) (n68 : go.length = (48 : Nat)) (h69 : cE h 69 (.inl (.int, fA ch))) (n69 : ch.length = (48 : Nat)) (h77 : cE h 77 (.inl (.int, fA gt))) (n77 : gt.length = (5 : Nat)) (h78 : cE h 78 (.inl (.int, fA gd))) (n78 : gd.length = (5 : Nat)) (h79 : cE h 79 (.inl (.long, fL xs))) (n79 : xs.length = (12 : Nat)) (h80 : cE h 80 (.inl (.long, fL ys))) (n80 : ys.length = (12 : Nat)) (h81 : cE h 81 (.inl (.long, fL r1))) (n81 : r1.length = (201 : Nat)) (h82 : cE h 82 (.inl (.long, fL r2))) (n82 : r2.length = (201 : Nat)) (hl : h.length = (94 : Nat)) : ik_F 164 [.ref 66, fI kd, fI p, fI d] h (fun rv h_q => ∃ (w' : Int) (gt' : List Int) (gd' : List Int) (xs' : List Int) (ys' : List Int) (r1' : List Int) (r2' : List Int), rv = [fI (an_kpd kd p pl d (mk_kn (mf_cm (fun x => mx_w cn go ch s x) (pl - 1) kd p) (mf_cm (fun x => mx_w cn go ch s x) (pl - 1) 0 p) d 201 0))] ∧ cE h_q 66 (.inr (10, (fI pl :: .ref 67 :: .ref 68 :: .ref 69 :: fI ((s : Nat) : Int) :: .ref 70 :: .ref 71 :: fI (f 7) :: fI (f 8) :: .ref 72 :: fI (f 10) :: fI (f 11) :: fI (f 12) :: fJ (f 13) :: fI (f 14) :: fI (f 15) :: fI (f 16) :: fI (f 17) :: .ref 73 :: .ref 74 :: .ref 75 :: .ref 76 :: .ref 77 :: .ref 78 :: fI w' :: .ref 79 :: .ref 80 :: .ref 81 :: .ref 82 :: .ref 83 :: .ref 84 :: .ref 85 :: fJ (f 32) :: fJ (f 33) :: .ref 86 :: .ref 87 :: fI (f 36) :: .ref 88 :: .ref 89 :: .ref 90 :: .ref 91 :: .ref 92 :: .ref 93 :: []))) ∧ cE h_q 77 (.inl (.int, fA gt')) ∧ gt'.length = (5 : Nat) ∧ cE h_q 78 (.inl (.int, fA gd')) ∧ gd'.length = (5 : Nat) ∧ cE h_q 79 (.inl (.long, fL xs')) ∧ xs'.length = (12 : Nat) ∧ cE h_q 80 (.inl (.long, fL ys')) ∧ ys'.length = (12 : Nat) ∧ cE h_q 81 (.inl (.long, fL r1')) ∧ r1'.length = (201 : Nat) ∧ cE h_q 82 (.inl (.long, fL r2')) ∧ r2'.length = (201 : Nat) ∧ hfr [66, 77, 78, 79, 80, 81, 82] h h_q) := by
  refine ik_Wk 1 (pc_q := 1) (loc_q := [some (.ref 66), some (fI kd), some (fI p), some (fI d), none]) (st_q := [fI kd]) (h_q := h) (cl_q := 0) (sl_q := 0) rfl ?_
  refine ik_Wc 133 1 3 [fI kd] [] rfl rfl rfl (by decide +kernel) rfl rfl (fw_sta hl rfl (by decide +kernel)) ?_
  refine ik_Wk 0 (pc_q := 0) (loc_q := [some (fI kd)]) (st_q := []) (h_q := h) (cl_q := 0) (sl_q := 0) rfl ?_
  refine ik_Wk 1 (pc_q := 1) (loc_q := [some (fI kd)]) (st_q := [fI kd]) (h_q := h) (cl_q := 0) (sl_q := 0) rfl ?_
  refine fw_i2l rfl (by omega) (by omega) ?_
  refine fw_lc (z := 0) rfl (by decide +kernel) ?_
  refine fw_l2 2 rfl rfl (by decide +kernel) ?_
  refine fw_call 127 3 3 [fJ kd, fJ 0, fJ 2] [] rfl rfl rfl (Nat.le_of_ble_eq_true rfl) rfl rfl (fw_sta hl rfl (by decide +kernel)) (cr_in (v := kd) (a := 0) (b := 2) (by omega) (by omega) (by omega)  hl) ?_
  rintro _ h_262 (⟨rfl, p_262_0, F_262⟩ | ⟨rfl, p_262_0, F_262⟩)
  · have k_262 : cL h_262 := F_262.1.trans hl
    have fr_262 := hfr_cb (hfr_refl [66, 77, 78, 79, 80, 81, 82] h) F_262 rfl
    have g_262_66 := (hfr_g F_262 66 rfl).trans h66
    have g_262_67 := (hfr_g F_262 67 rfl).trans h67
    have g_262_68 := (hfr_g F_262 68 rfl).trans h68
    have g_262_69 := (hfr_g F_262 69 rfl).trans h69
    have g_262_77 := (hfr_g F_262 77 rfl).trans h77
    have g_262_78 := (hfr_g F_262 78 rfl).trans h78
    have g_262_79 := (hfr_g F_262 79 rfl).trans h79
    have g_262_80 := (hfr_g F_262 80 rfl).trans h80
    have g_262_81 := (hfr_g F_262 81 rfl).trans h81
    have g_262_82 := (hfr_g F_262 82 rfl).trans h82
    refine ik_Wk 0 (pc_q := 9) (loc_q := [some (fI kd)]) (st_q := [fI 1]) (h_q := h_262) (cl_q := 0) (sl_q := 0) rfl ?_
    refine ik_Wret rfl rfl ⟨_, _, rfl, rfl, ?_⟩
    refine ik_Wk 0 (pc_q := 4) (loc_q := [some (.ref 66), some (fI kd), some (fI p), some (fI d), none]) (st_q := [fI 1]) (h_q := h_262) (cl_q := 0) (sl_q := 0) rfl ?_
    refine fw_if_eq rfl rfl (by decide +kernel) (by decide +kernel) (fun hc1 => absurd hc1 (by decide +kernel)) (fun hc1 => ?_)
    refine ik_Wk 2 (pc_q := 9) (loc_q := [some (.ref 66), some (fI kd), some (fI p), some (fI d), none]) (st_q := [fI p, .ref 66]) (h_q := h_262) (cl_q := 0) (sl_q := 0) rfl ?_
    refine ik_Wc 129 2 0 [.ref 66, fI p] [] rfl rfl rfl (by decide +kernel) rfl rfl (fw_rec k_262 rfl g_262_66 rfl (Nat.le_of_ble_eq_true rfl)) ?_
    refine ik_Wk 0 (pc_q := 0) (loc_q := [some (.ref 66), some (fI p)]) (st_q := []) (h_q := h_262) (cl_q := 0) (sl_q := 0) rfl ?_
    refine ik_Wk 1 (pc_q := 1) (loc_q := [some (.ref 66), some (fI p)]) (st_q := [fI p]) (h_q := h_262) (cl_q := 0) (sl_q := 0) rfl ?_
    refine fw_i2l rfl (by omega) (by omega) ?_
    refine fw_lc (z := 0) rfl (by decide +kernel) ?_
    refine ik_Wk 1 (pc_q := 4) (loc_q := [some (.ref 66), some (fI p)]) (st_q := [.ref 66, fJ 0, fJ p]) (h_q := h_262) (cl_q := 0) (sl_q := 0) rfl ?_
    refine fw_gf rfl rfl g_262_66 rfl ?_
    refine ik_Wk 1 (pc_q := 8) (loc_q := [some (.ref 66), some (fI p)]) (st_q := [fI 1, fI pl, fJ 0, fJ p]) (h_q := h_262) (cl_q := 0) (sl_q := 0) rfl ?_
    refine fw_sub rfl ?_
    refine fw_i2l rfl (by omega) (by omega) ?_
    refine fw_call 127 3 3 [fJ p, fJ 0, fJ (pl - 1)] [] rfl rfl rfl (Nat.le_of_ble_eq_true rfl) rfl rfl (fw_sta k_262 rfl (by decide +kernel)) (cr_in (v := p) (a := 0) (b := pl - 1) (by omega) (by omega) (by omega)  k_262) ?_
    rintro _ h_263 (⟨rfl, p_263_0, F_263⟩ | ⟨rfl, p_263_0, F_263⟩)
    · have k_263 : cL h_263 := F_263.1.trans k_262
      have fr_263 := hfr_cb fr_262 F_263 rfl
      have g_263_66 := (hfr_g F_263 66 rfl).trans g_262_66
      have g_263_67 := (hfr_g F_263 67 rfl).trans g_262_67
      have g_263_68 := (hfr_g F_263 68 rfl).trans g_262_68
      have g_263_69 := (hfr_g F_263 69 rfl).trans g_262_69
      have g_263_77 := (hfr_g F_263 77 rfl).trans g_262_77
      have g_263_78 := (hfr_g F_263 78 rfl).trans g_262_78
      have g_263_79 := (hfr_g F_263 79 rfl).trans g_262_79
      have g_263_80 := (hfr_g F_263 80 rfl).trans g_262_80
      have g_263_81 := (hfr_g F_263 81 rfl).trans g_262_81
      have g_263_82 := (hfr_g F_263 82 rfl).trans g_262_82
      refine ik_Wk 0 (pc_q := 13) (loc_q := [some (.ref 66), some (fI p)]) (st_q := [fI 1]) (h_q := h_263) (cl_q := 0) (sl_q := 0) rfl ?_
      refine ik_Wret rfl rfl ⟨_, _, rfl, rfl, ?_⟩
      refine ik_Wk 0 (pc_q := 12) (loc_q := [some (.ref 66), some (fI kd), some (fI p), some (fI d), none]) (st_q := [fI 1]) (h_q := h_263) (cl_q := 0) (sl_q := 0) rfl ?_
      refine fw_if_ne rfl rfl (by decide +kernel) (by decide +kernel) (fun hc2 => absurd hc2 (by decide +kernel)) (fun hc2 => ?_)
      refine ik_Wk 1 (pc_q := 19) (loc_q := [some (.ref 66), some (fI kd), some (fI p), some (fI d), none]) (st_q := [fI d]) (h_q := h_263) (cl_q := 0) (sl_q := 0) rfl ?_
      refine fw_i2l rfl (by omega) (by omega) ?_
      refine fw_lc (z := 1) rfl (by decide +kernel) ?_
      refine fw_l2 1000 rfl rfl (by decide +kernel) ?_
      refine fw_call 127 3 3 [fJ d, fJ 1, fJ 1000] [] rfl rfl rfl (Nat.le_of_ble_eq_true rfl) rfl rfl (fw_sta k_263 rfl (by decide +kernel)) (cr_in (v := d) (a := 1) (b := 1000) (by omega) (by omega) (by omega)  k_263) ?_
      rintro _ h_264 (⟨rfl, p_264_0, F_264⟩ | ⟨rfl, p_264_0, F_264⟩)
      · have k_264 : cL h_264 := F_264.1.trans k_263
        have fr_264 := hfr_cb fr_263 F_264 rfl
        have g_264_66 := (hfr_g F_264 66 rfl).trans g_263_66
        have g_264_67 := (hfr_g F_264 67 rfl).trans g_263_67
        have g_264_68 := (hfr_g F_264 68 rfl).trans g_263_68
        have g_264_69 := (hfr_g F_264 69 rfl).trans g_263_69
        have g_264_77 := (hfr_g F_264 77 rfl).trans g_263_77
        have g_264_78 := (hfr_g F_264 78 rfl).trans g_263_78
        have g_264_79 := (hfr_g F_264 79 rfl).trans g_263_79
        have g_264_80 := (hfr_g F_264 80 rfl).trans g_263_80
        have g_264_81 := (hfr_g F_264 81 rfl).trans g_263_81
        have g_264_82 := (hfr_g F_264 82 rfl).trans g_263_82
        refine ik_Wk 0 (pc_q := 27) (loc_q := [some (.ref 66), some (fI kd), some (fI p), some (fI d), none]) (st_q := [fI 1]) (h_q := h_264) (cl_q := 0) (sl_q := 0) rfl ?_
        refine fw_if_ne rfl rfl (by decide +kernel) (by decide +kernel) (fun hc3 => absurd hc3 (by decide +kernel)) (fun hc3 => ?_)
        refine ik_Wk 2 (pc_q := 35) (loc_q := [some (.ref 66), some (fI kd), some (fI p), some (fI d), none]) (st_q := [.ref 66, .ref 66]) (h_q := h_264) (cl_q := 0) (sl_q := 0) rfl ?_
        refine fw_gf rfl rfl g_264_66 rfl ?_
        refine ik_Wk 2 (pc_q := 40) (loc_q := [some (.ref 66), some (fI kd), some (fI p), some (fI d), none]) (st_q := [fI p, fI kd, .ref 81, .ref 66]) (h_q := h_264) (cl_q := 0) (sl_q := 0) rfl ?_
        refine fw_call 157 4 0 [.ref 66, .ref 81, fI kd, fI p] [] rfl rfl rfl (Nat.le_of_ble_eq_true rfl) rfl rfl (fw_rec k_264 rfl g_264_66 rfl (Nat.le_of_ble_eq_true rfl)) (cr_comesRow (pl := pl) (f := fun j => ((0 :: 0 :: 0 :: 0 :: 0 :: 0 :: 0 :: f 7 :: f 8 :: 0 :: f 10 :: f 11 :: f 12 :: f 13 :: f 14 :: f 15 :: f 16 :: f 17 :: 0 :: 0 :: 0 :: 0 :: 0 :: 0 :: f 24 :: 0 :: 0 :: 0 :: 0 :: 0 :: 0 :: 0 :: f 32 :: f 33 :: 0 :: 0 :: f 36 :: 0 :: 0 :: 0 :: 0 :: 0 :: 0 :: []) : List Int).getD j 0) (s := s) (cn := cn) (go := go) (ch := ch) (gt := gt) (gd := gd) (xs := xs) (ys := ys) (kd := kd) (qp := p) (r := 81) (rr := r1) (by omega) (by omega) q2 q3 q4 (by omega) (by omega) (by omega) g_264_66 g_264_67 n67 g_264_68 n68 g_264_69 n69 g_264_77 n77 g_264_78 n78 g_264_79 n79 g_264_80 n80 g_264_81 n81 k_264) ?_
        rintro _ h_265 ⟨w'_265, gt'_265, gd'_265, xs'_265, ys'_265, rr'_265, rfl, e_265_66, e_265_77, m_265_77, e_265_78, m_265_78, e_265_79, m_265_79, e_265_80, m_265_80, e_265_r, m_265_r, p_265_0, F_265⟩
        have k_265 : cL h_265 := F_265.1.trans k_264
        have fr_265 := hfr_cb fr_264 F_265 rfl
        have g_265_67 := (hfr_g F_265 67 rfl).trans g_264_67
        have g_265_68 := (hfr_g F_265 68 rfl).trans g_264_68
        have g_265_69 := (hfr_g F_265 69 rfl).trans g_264_69
        have g_265_82 := (hfr_g F_265 82 rfl).trans g_264_82
        have g_265_66 : cE h_265 66 (.inr (10, (fI pl :: .ref 67 :: .ref 68 :: .ref 69 :: fI ((s : Nat) : Int) :: .ref 70 :: .ref 71 :: fI (f 7) :: fI (f 8) :: .ref 72 :: fI (f 10) :: fI (f 11) :: fI (f 12) :: fJ (f 13) :: fI (f 14) :: fI (f 15) :: fI (f 16) :: fI (f 17) :: .ref 73 :: .ref 74 :: .ref 75 :: .ref 76 :: .ref 77 :: .ref 78 :: fI w'_265 :: .ref 79 :: .ref 80 :: .ref 81 :: .ref 82 :: .ref 83 :: .ref 84 :: .ref 85 :: fJ (f 32) :: fJ (f 33) :: .ref 86 :: .ref 87 :: fI (f 36) :: .ref 88 :: .ref 89 :: .ref 90 :: .ref 91 :: .ref 92 :: .ref 93 :: []))) := e_265_66
        have g_265_77 : cE h_265 77 (.inl (.int, fA gt'_265)) := e_265_77
        have g_265_78 : cE h_265 78 (.inl (.int, fA gd'_265)) := e_265_78
        have g_265_79 : cE h_265 79 (.inl (.long, fL xs'_265)) := e_265_79
        have g_265_80 : cE h_265 80 (.inl (.long, fL ys'_265)) := e_265_80
        have g_265_81 : cE h_265 81 (.inl (.long, fL rr'_265)) := e_265_r
        refine ik_Wk 0 (pc_q := 43) (loc_q := [some (.ref 66), some (fI kd), some (fI p), some (fI d), none]) (st_q := []) (h_q := h_265) (cl_q := 0) (sl_q := 0) rfl ?_
        refine ik_Wk 2 (pc_q := 45) (loc_q := [some (.ref 66), some (fI kd), some (fI p), some (fI d), none]) (st_q := [.ref 66, .ref 66]) (h_q := h_265) (cl_q := 0) (sl_q := 0) rfl ?_
        refine fw_gf rfl rfl g_265_66 rfl ?_
        refine ik_Wk 2 (pc_q := 50) (loc_q := [some (.ref 66), some (fI kd), some (fI p), some (fI d), none]) (st_q := [fI p, fI 0, .ref 82, .ref 66]) (h_q := h_265) (cl_q := 0) (sl_q := 0) rfl ?_
        refine fw_call 157 4 0 [.ref 66, .ref 82, fI 0, fI p] [] rfl rfl rfl (Nat.le_of_ble_eq_true rfl) rfl rfl (fw_rec k_265 rfl g_265_66 rfl (Nat.le_of_ble_eq_true rfl)) (cr_comesRow (pl := pl) (f := fun j => ((0 :: 0 :: 0 :: 0 :: 0 :: 0 :: 0 :: ((f 7)) :: ((f 8)) :: 0 :: ((f 10)) :: ((f 11)) :: ((f 12)) :: ((f 13)) :: ((f 14)) :: ((f 15)) :: ((f 16)) :: ((f 17)) :: 0 :: 0 :: 0 :: 0 :: 0 :: 0 :: w'_265 :: 0 :: 0 :: 0 :: 0 :: 0 :: 0 :: 0 :: ((f 32)) :: ((f 33)) :: 0 :: 0 :: ((f 36)) :: 0 :: 0 :: 0 :: 0 :: 0 :: 0 :: []) : List Int).getD j 0) (s := s) (cn := cn) (go := go) (ch := ch) (gt := gt'_265) (gd := gd'_265) (xs := xs'_265) (ys := ys'_265) (kd := 0) (qp := p) (r := 82) (rr := r2) (by omega) (by omega) q2 q3 q4 (by omega) (by omega) (by omega) g_265_66 g_265_67 n67 g_265_68 n68 g_265_69 n69 g_265_77 m_265_77 g_265_78 m_265_78 g_265_79 m_265_79 g_265_80 m_265_80 g_265_82 n82 k_265) ?_
        rintro _ h_266 ⟨w'_266, gt'_266, gd'_266, xs'_266, ys'_266, rr'_266, rfl, e_266_66, e_266_77, m_266_77, e_266_78, m_266_78, e_266_79, m_266_79, e_266_80, m_266_80, e_266_r, m_266_r, p_266_0, F_266⟩
        have k_266 : cL h_266 := F_266.1.trans k_265
        have fr_266 := hfr_cb fr_265 F_266 rfl
        have g_266_67 := (hfr_g F_266 67 rfl).trans g_265_67
        have g_266_68 := (hfr_g F_266 68 rfl).trans g_265_68
        have g_266_69 := (hfr_g F_266 69 rfl).trans g_265_69
        have g_266_81 := (hfr_g F_266 81 rfl).trans g_265_81
        have g_266_66 : cE h_266 66 (.inr (10, (fI pl :: .ref 67 :: .ref 68 :: .ref 69 :: fI ((s : Nat) : Int) :: .ref 70 :: .ref 71 :: fI (f 7) :: fI (f 8) :: .ref 72 :: fI (f 10) :: fI (f 11) :: fI (f 12) :: fJ (f 13) :: fI (f 14) :: fI (f 15) :: fI (f 16) :: fI (f 17) :: .ref 73 :: .ref 74 :: .ref 75 :: .ref 76 :: .ref 77 :: .ref 78 :: fI w'_266 :: .ref 79 :: .ref 80 :: .ref 81 :: .ref 82 :: .ref 83 :: .ref 84 :: .ref 85 :: fJ (f 32) :: fJ (f 33) :: .ref 86 :: .ref 87 :: fI (f 36) :: .ref 88 :: .ref 89 :: .ref 90 :: .ref 91 :: .ref 92 :: .ref 93 :: []))) := e_266_66
        have g_266_77 : cE h_266 77 (.inl (.int, fA gt'_266)) := e_266_77
        have g_266_78 : cE h_266 78 (.inl (.int, fA gd'_266)) := e_266_78
        have g_266_79 : cE h_266 79 (.inl (.long, fL xs'_266)) := e_266_79
        have g_266_80 : cE h_266 80 (.inl (.long, fL ys'_266)) := e_266_80
        have g_266_82 : cE h_266 82 (.inl (.long, fL rr'_266)) := e_266_r
        refine ik_Wk 0 (pc_q := 53) (loc_q := [some (.ref 66), some (fI kd), some (fI p), some (fI d), none]) (st_q := []) (h_q := h_266) (cl_q := 0) (sl_q := 0) rfl ?_
        refine ik_Wk 2 (pc_q := 56) (loc_q := [some (.ref 66), some (fI kd), some (fI p), some (fI d), some (fI 0)]) (st_q := []) (h_q := h_266) (cl_q := 0) (sl_q := 0) rfl ?_
        exact rp_knownL (pl := pl) (f := f) (s := s) (cn := cn) (go := go) (ch := ch) (gt := gt) (gd := gd) (xs := xs) (ys := ys) (r1 := r1) (r2 := r2) (kd := kd) (p := p) (d := d) q0 q1 q2 q3 q4 q5 q6 q7 ⟨⟨by omega, by omega⟩, by omega⟩ p_265_0 p_266_0 202 0 h_266 g_266_66 g_266_67 n67 g_266_68 n68 g_266_69 n69 g_266_77 m_266_77 g_266_78 m_266_78 g_266_79 m_266_79 g_266_80 m_266_80 g_266_81 m_265_r g_266_82 m_266_r k_266 fr_266 (by omega) rfl (by omega)
      · have k_264 : cL h_264 := F_264.1.trans k_263
        have fr_264 := hfr_cb fr_263 F_264 rfl
        have g_264_66 := (hfr_g F_264 66 rfl).trans g_263_66
        have g_264_67 := (hfr_g F_264 67 rfl).trans g_263_67
        have g_264_68 := (hfr_g F_264 68 rfl).trans g_263_68
        have g_264_69 := (hfr_g F_264 69 rfl).trans g_263_69
        have g_264_77 := (hfr_g F_264 77 rfl).trans g_263_77
        have g_264_78 := (hfr_g F_264 78 rfl).trans g_263_78
        have g_264_79 := (hfr_g F_264 79 rfl).trans g_263_79
        have g_264_80 := (hfr_g F_264 80 rfl).trans g_263_80
        have g_264_81 := (hfr_g F_264 81 rfl).trans g_263_81
        have g_264_82 := (hfr_g F_264 82 rfl).trans g_263_82
        refine ik_Wk 0 (pc_q := 27) (loc_q := [some (.ref 66), some (fI kd), some (fI p), some (fI d), none]) (st_q := [fI 0]) (h_q := h_264) (cl_q := 0) (sl_q := 0) rfl ?_
        refine fw_if_ne rfl rfl (by decide +kernel) (by decide +kernel) (fun hc4 => ?_) (fun hc4 => absurd hc4 (by decide +kernel))
        refine fw_ld (-1000000002) rfl rfl (by decide +kernel) ?_
        exact ik_Wret rfl rfl ⟨_, _, rfl, rfl, rfl, rfl, ⟨(f 24), gt, gd, xs, ys, r1, r2, (congrArg (fun z => [fI z]) (by unfold an_kpd; (repeat' split) <;> first | rfl | omega)), g_264_66, g_264_77, n77, g_264_78, n78, g_264_79, n79, g_264_80, n80, g_264_81, n81, g_264_82, n82, fr_264⟩⟩
    · have k_263 : cL h_263 := F_263.1.trans k_262
      have fr_263 := hfr_cb fr_262 F_263 rfl
      have g_263_66 := (hfr_g F_263 66 rfl).trans g_262_66
      have g_263_67 := (hfr_g F_263 67 rfl).trans g_262_67
      have g_263_68 := (hfr_g F_263 68 rfl).trans g_262_68
      have g_263_69 := (hfr_g F_263 69 rfl).trans g_262_69
      have g_263_77 := (hfr_g F_263 77 rfl).trans g_262_77
      have g_263_78 := (hfr_g F_263 78 rfl).trans g_262_78
      have g_263_79 := (hfr_g F_263 79 rfl).trans g_262_79
      have g_263_80 := (hfr_g F_263 80 rfl).trans g_262_80
      have g_263_81 := (hfr_g F_263 81 rfl).trans g_262_81
      have g_263_82 := (hfr_g F_263 82 rfl).trans g_262_82
      refine ik_Wk 0 (pc_q := 13) (loc_q := [some (.ref 66), some (fI p)]) (st_q := [fI 0]) (h_q := h_263) (cl_q := 0) (sl_q := 0) rfl ?_
      refine ik_Wret rfl rfl ⟨_, _, rfl, rfl, ?_⟩
      refine ik_Wk 0 (pc_q := 12) (loc_q := [some (.ref 66), some (fI kd), some (fI p), some (fI d), none]) (st_q := [fI 0]) (h_q := h_263) (cl_q := 0) (sl_q := 0) rfl ?_
      refine fw_if_ne rfl rfl (by decide +kernel) (by decide +kernel) (fun hc5 => ?_) (fun hc5 => absurd hc5 (by decide +kernel))
      refine fw_ld (-1000000001) rfl rfl (by decide +kernel) ?_
      exact ik_Wret rfl rfl ⟨_, _, rfl, rfl, rfl, rfl, ⟨(f 24), gt, gd, xs, ys, r1, r2, (congrArg (fun z => [fI z]) (by unfold an_kpd; (repeat' split) <;> first | rfl | omega)), g_263_66, g_263_77, n77, g_263_78, n78, g_263_79, n79, g_263_80, n80, g_263_81, n81, g_263_82, n82, fr_263⟩⟩
  · have k_262 : cL h_262 := F_262.1.trans hl
    have fr_262 := hfr_cb (hfr_refl [66, 77, 78, 79, 80, 81, 82] h) F_262 rfl
    have g_262_66 := (hfr_g F_262 66 rfl).trans h66
    have g_262_67 := (hfr_g F_262 67 rfl).trans h67
    have g_262_68 := (hfr_g F_262 68 rfl).trans h68
    have g_262_69 := (hfr_g F_262 69 rfl).trans h69
    have g_262_77 := (hfr_g F_262 77 rfl).trans h77
    have g_262_78 := (hfr_g F_262 78 rfl).trans h78
    have g_262_79 := (hfr_g F_262 79 rfl).trans h79
    have g_262_80 := (hfr_g F_262 80 rfl).trans h80
    have g_262_81 := (hfr_g F_262 81 rfl).trans h81
    have g_262_82 := (hfr_g F_262 82 rfl).trans h82
    refine ik_Wk 0 (pc_q := 9) (loc_q := [some (fI kd)]) (st_q := [fI 0]) (h_q := h_262) (cl_q := 0) (sl_q := 0) rfl ?_
    refine ik_Wret rfl rfl ⟨_, _, rfl, rfl, ?_⟩
    refine ik_Wk 0 (pc_q := 4) (loc_q := [some (.ref 66), some (fI kd), some (fI p), some (fI d), none]) (st_q := [fI 0]) (h_q := h_262) (cl_q := 0) (sl_q := 0) rfl ?_
    refine fw_if_eq rfl rfl (by decide +kernel) (by decide +kernel) (fun hc6 => ?_) (fun hc6 => absurd hc6 (by decide +kernel))
    refine fw_ld (-1000000001) rfl rfl (by decide +kernel) ?_
    exact ik_Wret rfl rfl ⟨_, _, rfl, rfl, rfl, rfl, ⟨(f 24), gt, gd, xs, ys, r1, r2, (congrArg (fun z => [fI z]) (by unfold an_kpd; (repeat' split) <;> first | rfl | omega)), g_262_66, g_262_77, n77, g_262_78, n78, g_262_79, n79, g_262_80, n80, g_262_81, n81, g_262_82, n82, fr_262⟩⟩

theorem rp_later {h : List ik_E} {pl : Int} {f : Nat → Int} {s : Nat} {cn : List Int} {go : List Int} {ch : List Int} {gt : List Int} {gd : List Int} {xs : List Int} {ys : List Int} {ka : Int} {pa : Int} {fa : Int} {kb : Int} {pb : Int} {fb : Int} {r1 : List Int} {r2 : List Int} {what : Int} (q0 : 0 ≤ pl ∧ pl ≤ 12) (q1 : s < 4096) (q2 : ∀ x : Int, (0 : Int) ≤ x → x < pl - 1 → 0 ≤ cn.getD x.toNat 0 ∧ cn.getD x.toNat 0 ≤ 4) (q3 : ∀ x : Int, (0 : Int) ≤ x → x < pl - 1 → 1 ≤ cn.getD x.toNat 0 ∧ ∀ j : Int, 4 * x ≤ j → j < 4 * x + cn.getD x.toNat 0 → 0 ≤ ch.getD j.toNat 0 ∧ ch.getD j.toNat 0 ≤ 100) (q4 : ∀ x : Int, (0 : Int) ≤ x → x < pl - 1 → mx_ok pl (mx_w cn go ch s x)) (q5 : (0 : Int) ≤ ka ∧ ka ≤ (2 : Int)) (q6 : (0 : Int) ≤ kb ∧ kb ≤ (2 : Int)) (q7 : (1 : Int) < pl → (0 : Int) ≤ pa ∧ pa < pl - 1) (q8 : (1 : Int) < pl → (0 : Int) ≤ pb ∧ pb < pl - 1) (q9 : (0 : Int) ≤ fa ∧ fa ≤ (30 : Int)) (q10 : (0 : Int) ≤ fb ∧ fb ≤ (30 : Int)) (q11 : (-2147483648 : Int) ≤ what ∧ what < (2147483648 : Int)) (h66 : cE h 66 (.inr (10, (fI pl :: .ref 67 :: .ref 68 :: .ref 69 :: fI ((s : Nat) : Int) :: .ref 70 :: .ref 71 :: fI (f 7) :: fI (f 8) :: .ref 72 :: fI (f 10) :: fI (f 11) :: fI (f 12) :: fJ (f 13) :: fI (f 14) :: fI (f 15) :: fI (f 16) :: fI (f 17) :: .ref 73 :: .ref 74 :: .ref 75 :: .ref 76 :: .ref 77 :: .ref 78 :: fI (f 24) :: .ref 79 :: .ref 80 :: .ref 81 :: .ref 82 :: .ref 83 :: .ref 84 :: .ref 85 :: fJ (f 32) :: fJ (f 33) :: .ref 86 :: .ref 87 :: fI (f 36) :: .ref 88 :: .ref 89 :: .ref 90 :: .ref 91 :: .ref 92 :: .ref 93 :: [])))) (h67 : cE h 67 (.inl (.int, fA cn))) (n67 : cn.length = (12 : Nat)) (h68 : cE h 68 (.inl (.int, fA go))) (n68 : go.length = (48 : Nat)) (h69 : cE h 69 (.inl (.int, fA ch))) (n69 : ch.length = (48 : Nat)) (h77 : cE h 77 (.inl (.int, fA gt))) (n77 : gt.length = (5 : Nat)) (h78 : cE h 78 (.inl (.int, fA gd))) (n78 : gd.length = (5 : Nat)) (h79 : cE h 79 (.inl (.long, fL xs))) (n79 : xs.length = (12 : Nat)) (h80 : cE h 80 (.inl (.long, fL ys))) (n80 : ys.length = (12 : Nat)) (h70 : cE h 70 (.inl (.int, fA [ka, pa, fa, kb, pb, fb]))) (h81 : cE h 81 (.inl (.long, fL r1))) (n81 : r1.length = (201 : Nat)) (h82 : cE h 82 (.inl (.long, fL r2))) (n82 : r2.length = (201 : Nat)) (hl : h.length = (94 : Nat)) : ik_F 170 [.ref 66, fI what] h (fun rv h_q => ∃ (w' : Int) (gt' : List Int) (gd' : List Int) (xs' : List Int) (ys' : List Int) (r1' : List Int) (r2' : List Int), rv = [fI (an_la what pl (mk_lw cn go ch s pl ka pa fa kb pb fb what))] ∧ cE h_q 66 (.inr (10, (fI pl :: .ref 67 :: .ref 68 :: .ref 69 :: fI ((s : Nat) : Int) :: .ref 70 :: .ref 71 :: fI (f 7) :: fI (f 8) :: .ref 72 :: fI (f 10) :: fI (f 11) :: fI (f 12) :: fJ (f 13) :: fI (f 14) :: fI (f 15) :: fI (f 16) :: fI (f 17) :: .ref 73 :: .ref 74 :: .ref 75 :: .ref 76 :: .ref 77 :: .ref 78 :: fI w' :: .ref 79 :: .ref 80 :: .ref 81 :: .ref 82 :: .ref 83 :: .ref 84 :: .ref 85 :: fJ (f 32) :: fJ (f 33) :: .ref 86 :: .ref 87 :: fI (f 36) :: .ref 88 :: .ref 89 :: .ref 90 :: .ref 91 :: .ref 92 :: .ref 93 :: []))) ∧ cE h_q 77 (.inl (.int, fA gt')) ∧ gt'.length = (5 : Nat) ∧ cE h_q 78 (.inl (.int, fA gd')) ∧ gd'.length = (5 : Nat) ∧ cE h_q 79 (.inl (.long, fL xs')) ∧ xs'.length = (12 : Nat) ∧ cE h_q 80 (.inl (.long, fL ys')) ∧ ys'.length = (12 : Nat) ∧ cE h_q 81 (.inl (.long, fL r1')) ∧ r1'.length = (201 : Nat) ∧ cE h_q 82 (.inl (.long, fL r2')) ∧ r2'.length = (201 : Nat) ∧ hfr [66, 77, 78, 79, 80, 81, 82] h h_q) := by
  refine ik_Wk 1 (pc_q := 1) (loc_q := [some (.ref 66), some (fI what)]) (st_q := [fI what]) (h_q := h) (cl_q := 0) (sl_q := 0) rfl ?_
  refine fw_i2l rfl (by omega) (by omega) ?_
  refine fw_lc (z := 0) rfl (by decide +kernel) ?_
  refine fw_l2 2 rfl rfl (by decide +kernel) ?_
  refine fw_call 127 3 3 [fJ what, fJ 0, fJ 2] [] rfl rfl rfl (Nat.le_of_ble_eq_true rfl) rfl rfl (fw_sta hl rfl (by decide +kernel)) (cr_in (v := what) (a := 0) (b := 2) (by omega) (by omega) (by omega)  hl) ?_
  rintro _ h_267 (⟨rfl, p_267_0, F_267⟩ | ⟨rfl, p_267_0, F_267⟩)
  · have k_267 : cL h_267 := F_267.1.trans hl
    have fr_267 := hfr_cb (hfr_refl [66, 77, 78, 79, 80, 81, 82] h) F_267 rfl
    have g_267_66 := (hfr_g F_267 66 rfl).trans h66
    have g_267_67 := (hfr_g F_267 67 rfl).trans h67
    have g_267_68 := (hfr_g F_267 68 rfl).trans h68
    have g_267_69 := (hfr_g F_267 69 rfl).trans h69
    have g_267_77 := (hfr_g F_267 77 rfl).trans h77
    have g_267_78 := (hfr_g F_267 78 rfl).trans h78
    have g_267_79 := (hfr_g F_267 79 rfl).trans h79
    have g_267_80 := (hfr_g F_267 80 rfl).trans h80
    have g_267_70 := (hfr_g F_267 70 rfl).trans h70
    have g_267_81 := (hfr_g F_267 81 rfl).trans h81
    have g_267_82 := (hfr_g F_267 82 rfl).trans h82
    refine ik_Wk 0 (pc_q := 9) (loc_q := [some (.ref 66), some (fI what)]) (st_q := [fI 1]) (h_q := h_267) (cl_q := 0) (sl_q := 0) rfl ?_
    refine fw_if_ne rfl rfl (by decide +kernel) (by decide +kernel) (fun hc1 => absurd hc1 (by decide +kernel)) (fun hc1 => ?_)
    refine ik_Wk 1 (pc_q := 16) (loc_q := [some (.ref 66), some (fI what)]) (st_q := [.ref 66]) (h_q := h_267) (cl_q := 0) (sl_q := 0) rfl ?_
    refine ik_Wc 134 1 0 [.ref 66] [] rfl rfl rfl (by decide +kernel) rfl rfl (fw_rec k_267 rfl g_267_66 rfl (Nat.le_of_ble_eq_true rfl)) ?_
    refine ik_Wk 0 (pc_q := 0) (loc_q := [some (.ref 66)]) (st_q := []) (h_q := h_267) (cl_q := 0) (sl_q := 0) rfl ?_
    refine ik_Wk 1 (pc_q := 1) (loc_q := [some (.ref 66)]) (st_q := [.ref 66]) (h_q := h_267) (cl_q := 0) (sl_q := 0) rfl ?_
    refine fw_gf rfl rfl g_267_66 rfl ?_
    refine ik_Wk 1 (pc_q := 5) (loc_q := [some (.ref 66)]) (st_q := [fI 1, fI pl]) (h_q := h_267) (cl_q := 0) (sl_q := 0) rfl ?_
    refine fw_ic_le rfl rfl (by omega) (by omega) (by omega) (by omega) (fun hc2 => ?_) (fun hc2 => ?_)
    · refine ik_Wk 1 (pc_q := 13) (loc_q := [some (.ref 66)]) (st_q := [fI 0]) (h_q := h_267) (cl_q := 0) (sl_q := 0) rfl ?_
      refine ik_Wret rfl rfl ⟨_, _, rfl, rfl, ?_⟩
      refine ik_Wk 0 (pc_q := 19) (loc_q := [some (.ref 66), some (fI what)]) (st_q := [fI 0]) (h_q := h_267) (cl_q := 0) (sl_q := 0) rfl ?_
      refine fw_if_eq rfl rfl (by decide +kernel) (by decide +kernel) (fun hc3 => ?_) (fun hc3 => absurd hc3 (by decide +kernel))
      refine fw_ld (-1000000003) rfl rfl (by decide +kernel) ?_
      exact ik_Wret rfl rfl ⟨_, _, rfl, rfl, rfl, rfl, ⟨(f 24), gt, gd, xs, ys, r1, r2, (congrArg (fun z => [fI z]) (by unfold an_la; (repeat' split) <;> first | rfl | omega)), g_267_66, g_267_77, n77, g_267_78, n78, g_267_79, n79, g_267_80, n80, g_267_81, n81, g_267_82, n82, fr_267⟩⟩
    · refine ik_Wk 2 (pc_q := 13) (loc_q := [some (.ref 66)]) (st_q := [fI 1]) (h_q := h_267) (cl_q := 0) (sl_q := 0) rfl ?_
      refine ik_Wret rfl rfl ⟨_, _, rfl, rfl, ?_⟩
      refine ik_Wk 0 (pc_q := 19) (loc_q := [some (.ref 66), some (fI what)]) (st_q := [fI 1]) (h_q := h_267) (cl_q := 0) (sl_q := 0) rfl ?_
      refine fw_if_eq rfl rfl (by decide +kernel) (by decide +kernel) (fun hc4 => absurd hc4 (by decide +kernel)) (fun hc4 => ?_)
      refine ik_Wk 2 (pc_q := 24) (loc_q := [some (.ref 66), some (fI what)]) (st_q := [fI what, .ref 66]) (h_q := h_267) (cl_q := 0) (sl_q := 0) rfl ?_
      refine fw_call 169 2 0 [.ref 66, fI what] [] rfl rfl rfl (Nat.le_of_ble_eq_true rfl) rfl rfl (fw_rec k_267 rfl g_267_66 rfl (Nat.le_of_ble_eq_true rfl)) (cr_laterOf (pl := pl) (f := fun j => ((0 :: 0 :: 0 :: 0 :: 0 :: 0 :: 0 :: f 7 :: f 8 :: 0 :: f 10 :: f 11 :: f 12 :: f 13 :: f 14 :: f 15 :: f 16 :: f 17 :: 0 :: 0 :: 0 :: 0 :: 0 :: 0 :: f 24 :: 0 :: 0 :: 0 :: 0 :: 0 :: 0 :: 0 :: f 32 :: f 33 :: 0 :: 0 :: f 36 :: 0 :: 0 :: 0 :: 0 :: 0 :: 0 :: []) : List Int).getD j 0) (s := s) (cn := cn) (go := go) (ch := ch) (gt := gt) (gd := gd) (xs := xs) (ys := ys) (ka := ka) (pa := pa) (fa := fa) (kb := kb) (pb := pb) (fb := fb) (r1 := r1) (r2 := r2) (wh := what) (by omega) (by omega) q2 q3 q4 q5 q6 (q7 (by omega)) (q8 (by omega)) q9 q10 (by omega) g_267_66 g_267_67 n67 g_267_68 n68 g_267_69 n69 g_267_77 n77 g_267_78 n78 g_267_79 n79 g_267_80 n80 g_267_70 g_267_81 n81 g_267_82 n82 k_267) ?_
      rintro _ h_268 ⟨w'_268, gt'_268, gd'_268, xs'_268, ys'_268, r1'_268, r2'_268, rfl, e_268_66, e_268_77, m_268_77, e_268_78, m_268_78, e_268_79, m_268_79, e_268_80, m_268_80, e_268_81, m_268_81, e_268_82, m_268_82, F_268⟩
      have k_268 : cL h_268 := F_268.1.trans k_267
      have fr_268 := hfr_cb fr_267 F_268 rfl
      have g_268_67 := (hfr_g F_268 67 rfl).trans g_267_67
      have g_268_68 := (hfr_g F_268 68 rfl).trans g_267_68
      have g_268_69 := (hfr_g F_268 69 rfl).trans g_267_69
      have g_268_70 := (hfr_g F_268 70 rfl).trans g_267_70
      have g_268_66 : cE h_268 66 (.inr (10, (fI pl :: .ref 67 :: .ref 68 :: .ref 69 :: fI ((s : Nat) : Int) :: .ref 70 :: .ref 71 :: fI (f 7) :: fI (f 8) :: .ref 72 :: fI (f 10) :: fI (f 11) :: fI (f 12) :: fJ (f 13) :: fI (f 14) :: fI (f 15) :: fI (f 16) :: fI (f 17) :: .ref 73 :: .ref 74 :: .ref 75 :: .ref 76 :: .ref 77 :: .ref 78 :: fI w'_268 :: .ref 79 :: .ref 80 :: .ref 81 :: .ref 82 :: .ref 83 :: .ref 84 :: .ref 85 :: fJ (f 32) :: fJ (f 33) :: .ref 86 :: .ref 87 :: fI (f 36) :: .ref 88 :: .ref 89 :: .ref 90 :: .ref 91 :: .ref 92 :: .ref 93 :: []))) := e_268_66
      have g_268_77 : cE h_268 77 (.inl (.int, fA gt'_268)) := e_268_77
      have g_268_78 : cE h_268 78 (.inl (.int, fA gd'_268)) := e_268_78
      have g_268_79 : cE h_268 79 (.inl (.long, fL xs'_268)) := e_268_79
      have g_268_80 : cE h_268 80 (.inl (.long, fL ys'_268)) := e_268_80
      have g_268_81 : cE h_268 81 (.inl (.long, fL r1'_268)) := e_268_81
      have g_268_82 : cE h_268 82 (.inl (.long, fL r2'_268)) := e_268_82
      refine ik_Wk 0 (pc_q := 27) (loc_q := [some (.ref 66), some (fI what)]) (st_q := [fI (mr_w (mf_cm (fun x => mx_w cn go ch s x) (pl - 1) ka pa) fa (mf_cm (fun x => mx_w cn go ch s x) (pl - 1) kb pb) fb what)]) (h_q := h_268) (cl_q := 0) (sl_q := 0) rfl ?_
      refine ik_Wk 1 (pc_q := 32) (loc_q := [some (.ref 66), some (fI what)]) (st_q := [fI (mr_w (mf_cm (fun x => mx_w cn go ch s x) (pl - 1) ka pa) fa (mf_cm (fun x => mx_w cn go ch s x) (pl - 1) kb pb) fb what)]) (h_q := h_268) (cl_q := 0) (sl_q := 0) rfl ?_
      exact ik_Wret rfl rfl ⟨_, _, rfl, rfl, rfl, rfl, ⟨w'_268, gt'_268, gd'_268, xs'_268, ys'_268, r1'_268, r2'_268, (congrArg (fun z => [fI z]) (by unfold an_la; (repeat' split) <;> first | rfl | omega)), g_268_66, g_268_77, m_268_77, g_268_78, m_268_78, g_268_79, m_268_79, g_268_80, m_268_80, g_268_81, m_268_81, g_268_82, m_268_82, fr_268⟩⟩
  · have k_267 : cL h_267 := F_267.1.trans hl
    have fr_267 := hfr_cb (hfr_refl [66, 77, 78, 79, 80, 81, 82] h) F_267 rfl
    have g_267_66 := (hfr_g F_267 66 rfl).trans h66
    have g_267_67 := (hfr_g F_267 67 rfl).trans h67
    have g_267_68 := (hfr_g F_267 68 rfl).trans h68
    have g_267_69 := (hfr_g F_267 69 rfl).trans h69
    have g_267_77 := (hfr_g F_267 77 rfl).trans h77
    have g_267_78 := (hfr_g F_267 78 rfl).trans h78
    have g_267_79 := (hfr_g F_267 79 rfl).trans h79
    have g_267_80 := (hfr_g F_267 80 rfl).trans h80
    have g_267_70 := (hfr_g F_267 70 rfl).trans h70
    have g_267_81 := (hfr_g F_267 81 rfl).trans h81
    have g_267_82 := (hfr_g F_267 82 rfl).trans h82
    refine ik_Wk 0 (pc_q := 9) (loc_q := [some (.ref 66), some (fI what)]) (st_q := [fI 0]) (h_q := h_267) (cl_q := 0) (sl_q := 0) rfl ?_
    refine fw_if_ne rfl rfl (by decide +kernel) (by decide +kernel) (fun hc5 => ?_) (fun hc5 => absurd hc5 (by decide +kernel))
    refine fw_ld (-1000000002) rfl rfl (by decide +kernel) ?_
    exact ik_Wret rfl rfl ⟨_, _, rfl, rfl, rfl, rfl, ⟨(f 24), gt, gd, xs, ys, r1, r2, (congrArg (fun z => [fI z]) (by unfold an_la; (repeat' split) <;> first | rfl | omega)), g_267_66, g_267_77, n77, g_267_78, n78, g_267_79, n79, g_267_80, n80, g_267_81, n81, g_267_82, n82, fr_267⟩⟩

end
