noncomputable section
theorem cs_best1I {h : List ik_E} {pl : Int} {lo : Int} {s : Nat} {m : Int} {ka : Int} {pa : Int} {fa : Int} {kb : Int} {pb : Int} {fb : Int} {bo : Int} {la : Int} {lb : Int} {t0 : Int} {t1 : Int} {t2 : Int} {t3 : Int} {wg : List Int} {wc : List Int} {we : List Int} {W : Int → List (Int × Int)} (q0 : 2 ≤ pl ∧ pl ≤ 12) (q1 : 0 ≤ ka ∧ ka ≤ 2 ∧ 0 ≤ kb ∧ kb ≤ 2) (q2 : 0 ≤ pa ∧ pa < pl - 1) (q3 : 0 ≤ pb ∧ pb < pl - 1) (q4 : 0 ≤ fa ∧ fa ≤ 30 ∧ 0 ≤ fb ∧ fb ≤ 30) (q5 : ∀ x : Int, 0 ≤ x → x < pl - 1 → mx_wy wg wc we x (W x)) (q6 : ∀ x : Int, 0 ≤ x → x < pl - 1 → mx_ok pl (W x)) (q7 : 0 ≤ m ∧ m ≤ 10) (p : Int) (hp : 0 ≤ p ∧ p < pl - 1) (X : Int × Int × Int) {R : List Value → List ik_E → Prop} (K : ∀ (w : List ik_E) (x : Int) (y : Int) (l : Int) (z0 : Int) (z1 : Int) (z2 : Int) (z3 : Int) (l0 : Int) (l1 : Int) (l2 : Int) (uo : Int) (i2 : Int) (uw : Int) (x6 : Option Value) (x7 : Option Value) (w7 : cE w 7 (.inr (0, [fI pl, fI ((s : Nat) : Int), fI lo, .ref 8, .ref 9, .ref 10, .ref 11, .ref 12, .ref 13]))) (w11 : cE w 11 (.inl (.int, fA wg))) (nw_11 : wg.length = 60) (w12 : cE w 12 (.inl (.int, fA wc))) (nw_12 : wc.length = 60) (w13 : cE w 13 (.inl (.int, fA we))) (nw_13 : we.length = 12) (w15 : cE w 15 (.inl (.int, fA [ka, pa, fa, kb, pb, fb]))) (w17 : cE w 17 (.inr (8, [.ref 7, .ref 15, .ref 18, .ref 19, fJ l2, .ref 20]))) (w18 : cE w 18 (.inl (.object "SlowerCork$Course", [.ref 21, .ref 25, .ref 29, .ref 33, .ref 37, .ref 41]))) (w19 : cE w 19 (.inl (.long, fL [l0, l1]))) (w20 : cE w 20 (.inl (.int, fA [z0, z1, z2, z3]))) (w21 : mf_cv w 21 W pl ka pa uo) (w33 : mf_cv w 33 W pl kb p uw) (wl : w.length = 94) (F : hfr [17, 19, 20, 21, 22, 23, 24, 33, 34, 35, 36] h w) (hl : 0 ≤ l ∧ l ≤ 1000001) (hz : z0 = x ∧ z1 = y ∧ z2 = l) (hX : X = (x, y, l)) (w6 : ik_wl 94 x6 = true) (w7 : ik_wl 94 x7 = true), ik_G 83 141 [some (.ref 17), some (fI 1), some (fI m), some (fI l), some (fI p), some (fI i2), x6, x7] [] w R) : ∀ (k : Nat) (i : Int) (x : Int) (y : Int) (l : Int) (z0 : Int) (z1 : Int) (z2 : Int) (z3 : Int) (l0 : Int) (l1 : Int) (l2 : Int) (uo : Int) (uw : Int) (x6 : Option Value) (x7 : Option Value) (u : List ik_E) (u7 : cE u 7 (.inr (0, [fI pl, fI ((s : Nat) : Int), fI lo, .ref 8, .ref 9, .ref 10, .ref 11, .ref 12, .ref 13]))) (u11 : cE u 11 (.inl (.int, fA wg))) (n11 : wg.length = 60) (u12 : cE u 12 (.inl (.int, fA wc))) (n12 : wc.length = 60) (u13 : cE u 13 (.inl (.int, fA we))) (n13 : we.length = 12) (u15 : cE u 15 (.inl (.int, fA [ka, pa, fa, kb, pb, fb]))) (u17 : cE u 17 (.inr (8, [.ref 7, .ref 15, .ref 18, .ref 19, fJ l2, .ref 20]))) (u18 : cE u 18 (.inl (.object "SlowerCork$Course", [.ref 21, .ref 25, .ref 29, .ref 33, .ref 37, .ref 41]))) (u19 : cE u 19 (.inl (.long, fL [l0, l1]))) (u20 : cE u 20 (.inl (.int, fA [z0, z1, z2, z3]))) (u21 : mf_cv u 21 W pl ka pa uo) (u33 : mf_cv u 33 W pl kb p uw) (ul : u.length = 94) (F : hfr [17, 19, 20, 21, 22, 23, 24, 33, 34, 35, 36] h u) (hi : 0 ≤ i ∧ i ≤ m + 1) (hl : 0 ≤ l ∧ l ≤ 1000001) (hz : mk_fs (p = 0 ∧ i = 0) x y l z0 z1 z2) (he : X = (mk_bk (mk_vb W pl ka pa fa kb pb fb 1) p (m + 1 - i).toNat i x y l)) (w6 : ik_wl 94 x6 = true) (w7 : ik_wl 94 x7 = true) (hk : m + 1 - i < (k : Int)), ik_G 83 49 [some (.ref 17), some (fI 1), some (fI m), some (fI l), some (fI p), some (fI i), x6, x7] [] u R := by
  intro k
  induction k with
  | zero => intro i x y l z0 z1 z2 z3 l0 l1 l2 uo uw x6 x7 u u7 u11 n11 u12 n12 u13 n13 u15 u17 u18 u19 u20 u21 u33 ul F hi hl hz he w6 w7 hk; omega
  | succ k ih =>
    intro i x y l z0 z1 z2 z3 l0 l1 l2 uo uw x6 x7 u u7 u11 n11 u12 n12 u13 n13 u15 u17 u18 u19 u20 u21 u33 ul F hi hl hz he w6 w7 hk
    refine ik_Wk 2 (pc' := 52) (loc' := [some (.ref 17), some (fI 1), some (fI m), some (fI l), some (fI p), some (fI i), x6, x7]) (st' := [fI m, fI i]) (h' := u) (cl' := 0) (sl' := 0) rfl ?_
    refine fw_ic_gt rfl rfl (by omega) (by omega) (by omega) (by omega) (fun hc1 => ?_) (fun hc1 => ?_)
    · have e0 : (m + 1 - i).toNat = 0 := by omega
      rw [e0] at he
      exact K u x y l z0 z1 z2 z3 l0 l1 l2 uo i uw x6 x7 u7 u11 n11 u12 n12 u13 n13 u15 u17 u18 u19 u20 u21 u33 ul F hl (hz.elim (fun w => absurd w (by omega)) id) he w6 w7
    · refine ik_Wk 1 (pc' := 56) (loc' := [some (.ref 17), some (fI 1), some (fI m), some (fI l), some (fI p), some (fI i), x6, x7]) (st' := [fI 1]) (h' := u) (cl' := 0) (sl' := 0) rfl ?_
      refine fw_if_ne rfl rfl (by omega) (by omega) (fun hc2 => absurd hc2 (by omega)) (fun hc2 => ?_)
      refine ik_Wk 1 (pc' := 65) (loc' := [some (.ref 17), some (fI 1), some (fI m), some (fI l), some (fI p), some (fI i), x6, x7]) (st' := [.ref 17]) (h' := u) (cl' := 0) (sl' := 0) rfl ?_
      refine fw_gf rfl rfl u17 rfl ?_
      refine ik_Wk 1 (pc' := 69) (loc' := [some (.ref 17), some (fI 1), some (fI m), some (fI l), some (fI p), some (fI i), x6, x7]) (st' := [fI 2, .ref 15]) (h' := u) (cl' := 0) (sl' := 0) rfl ?_
      refine fw_ial (z := 2) rfl u15 (by decide) (Nat.le_of_ble_eq_true rfl) (by decide) ?_
      refine ik_Wk 0 (pc' := 70) (loc' := [some (.ref 17), some (fI 1), some (fI m), some (fI l), some (fI p), some (fI i), x6, x7]) (st' := [fI fa]) (h' := u) (cl' := 0) (sl' := 0) rfl ?_
      refine ik_Wk 3 (pc' := 74) (loc' := [some (.ref 17), some (fI 1), some (fI m), some (fI l), some (fI p), some (fI i), some (fI fa), x7]) (st' := [fI 1, fI 1]) (h' := u) (cl' := 0) (sl' := 0) rfl ?_
      refine fw_ic_ne rfl rfl (by omega) (by omega) (by omega) (by omega) (fun hc3 => ?_) (fun hc3 => absurd hc3 (by omega))
      refine ik_Wk 6 (pc' := 93) (loc' := [some (.ref 17), some (fI 1), some (fI m), some (fI l), some (fI p), some (fI i), some (fI fa), some (fI i)]) (st' := [fI 0, .ref 17, .ref 17]) (h' := u) (cl' := 0) (sl' := 0) rfl ?_
      refine ik_Wc 77 2 0 [.ref 17, fI 0] [.ref 17] rfl rfl rfl (by decide) rfl rfl (fw_rec ul rfl u17 rfl (by decide)) ?_
      refine ik_Wk 0 (pc' := 0) (loc' := [some (.ref 17), some (fI 0)]) (st' := []) (h' := u) (cl' := 0) (sl' := 0) rfl ?_
      refine ik_Wk 1 (pc' := 1) (loc' := [some (.ref 17), some (fI 0)]) (st' := [.ref 17]) (h' := u) (cl' := 0) (sl' := 0) rfl ?_
      refine fw_gf rfl rfl u17 rfl ?_
      refine ik_Wk 2 (pc' := 6) (loc' := [some (.ref 17), some (fI 0)]) (st' := [fI 3, fI 0, .ref 18]) (h' := u) (cl' := 0) (sl' := 0) rfl ?_
      refine fw_mul rfl ?_
      refine fx_aal (z := 0) rfl u18 (by decide) (by decide) rfl ?_
      refine ik_Wret rfl rfl ⟨_, _, rfl, rfl, ?_⟩
      refine ik_Wk 0 (pc' := 96) (loc' := [some (.ref 17), some (fI 1), some (fI m), some (fI l), some (fI p), some (fI i), some (fI fa), some (fI i)]) (st' := [.ref 21, .ref 17]) (h' := u) (cl' := 0) (sl' := 0) rfl ?_
      refine ik_Wk 3 (pc' := 100) (loc' := [some (.ref 17), some (fI 1), some (fI m), some (fI l), some (fI p), some (fI i), some (fI fa), some (fI i)]) (st' := [fI 1, .ref 17, fI fa, .ref 21, .ref 17]) (h' := u) (cl' := 0) (sl' := 0) rfl ?_
      refine ik_Wc 77 2 0 [.ref 17, fI 1] [fI fa, .ref 21, .ref 17] rfl rfl rfl (by decide) rfl rfl (fw_rec ul rfl u17 rfl (by decide)) ?_
      refine ik_Wk 0 (pc' := 0) (loc' := [some (.ref 17), some (fI 1)]) (st' := []) (h' := u) (cl' := 0) (sl' := 0) rfl ?_
      refine ik_Wk 1 (pc' := 1) (loc' := [some (.ref 17), some (fI 1)]) (st' := [.ref 17]) (h' := u) (cl' := 0) (sl' := 0) rfl ?_
      refine fw_gf rfl rfl u17 rfl ?_
      refine ik_Wk 2 (pc' := 6) (loc' := [some (.ref 17), some (fI 1)]) (st' := [fI 3, fI 1, .ref 18]) (h' := u) (cl' := 0) (sl' := 0) rfl ?_
      refine fw_mul rfl ?_
      refine fx_aal (z := 3) rfl u18 (by decide) (by decide) rfl ?_
      refine ik_Wret rfl rfl ⟨_, _, rfl, rfl, ?_⟩
      refine ik_Wk 0 (pc' := 103) (loc' := [some (.ref 17), some (fI 1), some (fI m), some (fI l), some (fI p), some (fI i), some (fI fa), some (fI i)]) (st' := [.ref 33, fI fa, .ref 21, .ref 17]) (h' := u) (cl' := 0) (sl' := 0) rfl ?_
      refine ik_Wk 1 (pc' := 105) (loc' := [some (.ref 17), some (fI 1), some (fI m), some (fI l), some (fI p), some (fI i), some (fI fa), some (fI i)]) (st' := [fI i, .ref 33, fI fa, .ref 21, .ref 17]) (h' := u) (cl' := 0) (sl' := 0) rfl ?_
      refine fw_ld 1000000 rfl rfl (by decide) ?_
      refine fw_call 80 6 0 [.ref 17, .ref 21, fI fa, .ref 33, fI i, fI 1000000] [] rfl rfl rfl (by decide) rfl rfl (fw_rec ul rfl u17 rfl (by decide)) (cs_race (C := 21) (E := 33) (pl := pl) (lo := lo) (s := s) (ka := ka) (pa := pa) (ma := fa) (kb := kb) (pb := p) (mb := i) (ua := uo) (ub := uw) (lim := 1000000) (bo := l2) (la := l0) (lb := l1) (wg := wg) (wc := wc) (we := we) (W := W) (by omega) (by omega) (by omega) (by omega) (by omega) (by omega) (by omega) q5 q6 u7 u11 n11 u12 n12 u13 n13 u17 u19 u21 u33 ul) ?_
      rintro _ h_226 ⟨l0_226, l1_226, l2_226, ua'_226, ub'_226, rfl, e_226_17, e_226_19, e_226_C, e_226_E, p_226_0, p_226_1, F_226⟩
      have k_226 := F_226.1.trans ul
      have fr_226 := hfr_c F F_226 (by decide)
      have g_226_7 := (F_226.2 7 (by decide +kernel)).trans u7
      have g_226_11 := (F_226.2 11 (by decide +kernel)).trans u11
      have g_226_12 := (F_226.2 12 (by decide +kernel)).trans u12
      have g_226_13 := (F_226.2 13 (by decide +kernel)).trans u13
      have g_226_15 := (F_226.2 15 (by decide +kernel)).trans u15
      have g_226_18 := (F_226.2 18 (by decide +kernel)).trans u18
      have g_226_20 := (F_226.2 20 (by decide +kernel)).trans u20
      have g_226_17 : cE h_226 17 (.inr (8, [.ref 7, .ref 15, .ref 18, .ref 19, fJ l2_226, .ref 20])) := e_226_17
      have g_226_19 : cE h_226 19 (.inl (.long, fL [l0_226, l1_226])) := e_226_19
      have g_226_21 : mf_cv h_226 21 W pl ka pa ua'_226 := e_226_C
      have g_226_33 : mf_cv h_226 33 W pl kb p ub'_226 := e_226_E
      refine ik_Wk 0 (pc' := 110) (loc' := [some (.ref 17), some (fI 1), some (fI m), some (fI l), some (fI p), some (fI i), some (fI fa), some (fI i)]) (st' := []) (h' := h_226) (cl' := 0) (sl' := 0) rfl ?_
      have ka_226 := mr_ok_cm (W := W) (k := ka) q6 q2
      have kb_226 := mr_ok_cm (W := W) (k := kb) q6 hp
      have Fa_226 := mr_F_b ka_226 kb_226 fa (show 0 ≤ i by omega)
      have Fb_226 := mr_F_b kb_226 ka_226 i (show 0 ≤ fa by omega)
      have el_226 : l0_226 = mr_F0 (mf_cm W (pl - 1) ka pa) fa (mf_cm W (pl - 1) kb p) i ∧ l1_226 = mr_F0 (mf_cm W (pl - 1) kb p) i (mf_cm W (pl - 1) ka pa) fa := by
        rcases p_226_1 with e | e
        · exact ⟨e.1, e.2.1⟩
        · omega
      have ew_226 : (l1_226 / 1000 : Int) = (mr_w (mf_cm W (pl - 1) ka pa) fa (mf_cm W (pl - 1) kb p) i 1 : Int) := by rw [mr_w_1, el_226.2]
      have wb_226 := mr_w_b ka_226 kb_226 (show 0 ≤ fa by omega) (show 0 ≤ i by omega) 1
      have ev : (mk_vb W pl ka pa fa kb pb fb 1) p i = (l1_226 / 1000 : Int) := by rw [ew_226]; exact if_neg (by decide)
      refine ik_Wk 2 (pc' := 112) (loc' := [some (.ref 17), some (fI 1), some (fI m), some (fI l), some (fI p), some (fI i), some (fI fa), some (fI i)]) (st' := [fI 1, .ref 17]) (h' := h_226) (cl' := 0) (sl' := 0) rfl ?_
      refine ik_Wc 74 2 0 [.ref 17, fI 1] [] rfl rfl rfl (by decide) rfl rfl (fw_rec k_226 rfl g_226_17 rfl (by decide)) ?_
      refine ik_Wk 0 (pc' := 0) (loc' := [some (.ref 17), some (fI 1)]) (st' := []) (h' := h_226) (cl' := 0) (sl' := 0) rfl ?_
      refine ik_Wk 1 (pc' := 1) (loc' := [some (.ref 17), some (fI 1)]) (st' := [.ref 17]) (h' := h_226) (cl' := 0) (sl' := 0) rfl ?_
      refine fw_gf rfl rfl g_226_17 rfl ?_
      refine ik_Wk 1 (pc' := 5) (loc' := [some (.ref 17), some (fI 1)]) (st' := [fI 1, .ref 19]) (h' := h_226) (cl' := 0) (sl' := 0) rfl ?_
      refine fx_lal (z := 1) rfl g_226_19 (by decide) (Nat.le_of_ble_eq_true rfl) (by decide) ?_
      refine ik_Wk 0 (pc' := 6) (loc' := [some (.ref 17), some (fI 1)]) (st' := [fJ l1_226]) (h' := h_226) (cl' := 0) (sl' := 0) rfl ?_
      refine fw_l2 1000 rfl rfl (by decide) ?_
      refine fx_ldiv rfl (by omega) (by omega) (by omega) (by omega) ?_
      refine fx_l2i rfl ?_
      refine ik_Wret rfl rfl ⟨_, _, rfl, rfl, ?_⟩
      refine ik_Wk 0 (pc' := 115) (loc' := [some (.ref 17), some (fI 1), some (fI m), some (fI l), some (fI p), some (fI i), some (fI fa), some (fI i)]) (st' := [fI (l1_226 / 1000)]) (h' := h_226) (cl' := 0) (sl' := 0) rfl ?_
      refine ik_Wk 1 (pc' := 116) (loc' := [some (.ref 17), some (fI 1), some (fI m), some (fI l), some (fI p), some (fI i), some (fI fa), some (fI i)]) (st' := [fI l, fI (l1_226 / 1000)]) (h' := h_226) (cl' := 0) (sl' := 0) rfl ?_
      refine fw_ic_ge rfl rfl (by omega) (by omega) (by omega) (by omega) (fun hc4 => ?_) (fun hc4 => ?_)
      · refine fw_inc (a := i) (loc' := [some (.ref 17), some (fI 1), some (fI m), some (fI l), some (fI p), some (fI (i + 1)), some (fI fa), some (fI i)]) rfl rfl (Nat.le_of_ble_eq_true rfl) rfl ?_
        refine ik_Wk 1 (pc' := 49) (loc' := [some (.ref 17), some (fI 1), some (fI m), some (fI l), some (fI p), some (fI (i + 1)), some (fI fa), some (fI i)]) (st' := []) (h' := h_226) (cl' := 0) (sl' := 0) rfl ?_
        have e1 : (m + 1 - i).toNat = (m + 1 - (i + 1)).toNat + 1 := by omega
        have he2 : X = (mk_bk (mk_vb W pl ka pa fa kb pb fb 1) p (m + 1 - (i + 1)).toNat (i + 1) x y l) := by
          rw [he, e1]
          show (if (mk_vb W pl ka pa fa kb pb fb 1) p i < l then _ else _) = _
          rw [if_neg (by omega)]
        exact ih (i + 1) x y l z0 z1 z2 z3 l0_226 l1_226 l2_226 ua'_226 ub'_226 (some (fI fa)) (some (fI i)) h_226 g_226_7 g_226_11 n11 g_226_12 n12 g_226_13 n13 g_226_15 g_226_17 g_226_18 g_226_19 g_226_20 g_226_21 g_226_33 k_226 fr_226 (by omega) (by omega) (hz.elim (fun w => absurd w (by omega)) Or.inr) he2 rfl rfl (by omega)
      · refine ik_Wk 2 (pc' := 121) (loc' := [some (.ref 17), some (fI 1), some (fI m), some (fI l), some (fI p), some (fI i), some (fI fa), some (fI i)]) (st' := [fI 1, .ref 17]) (h' := h_226) (cl' := 0) (sl' := 0) rfl ?_
        refine ik_Wc 74 2 0 [.ref 17, fI 1] [] rfl rfl rfl (by decide) rfl rfl (fw_rec k_226 rfl g_226_17 rfl (by decide)) ?_
        refine ik_Wk 0 (pc' := 0) (loc' := [some (.ref 17), some (fI 1)]) (st' := []) (h' := h_226) (cl' := 0) (sl' := 0) rfl ?_
        refine ik_Wk 1 (pc' := 1) (loc' := [some (.ref 17), some (fI 1)]) (st' := [.ref 17]) (h' := h_226) (cl' := 0) (sl' := 0) rfl ?_
        refine fw_gf rfl rfl g_226_17 rfl ?_
        refine ik_Wk 1 (pc' := 5) (loc' := [some (.ref 17), some (fI 1)]) (st' := [fI 1, .ref 19]) (h' := h_226) (cl' := 0) (sl' := 0) rfl ?_
        refine fx_lal (z := 1) rfl g_226_19 (by decide) (Nat.le_of_ble_eq_true rfl) (by decide) ?_
        refine ik_Wk 0 (pc' := 6) (loc' := [some (.ref 17), some (fI 1)]) (st' := [fJ l1_226]) (h' := h_226) (cl' := 0) (sl' := 0) rfl ?_
        refine fw_l2 1000 rfl rfl (by decide) ?_
        refine fx_ldiv rfl (by omega) (by omega) (by omega) (by omega) ?_
        refine fx_l2i rfl ?_
        refine ik_Wret rfl rfl ⟨_, _, rfl, rfl, ?_⟩
        refine ik_Wk 0 (pc' := 124) (loc' := [some (.ref 17), some (fI 1), some (fI m), some (fI l), some (fI p), some (fI i), some (fI fa), some (fI i)]) (st' := [fI (l1_226 / 1000)]) (h' := h_226) (cl' := 0) (sl' := 0) rfl ?_
        refine ik_Wk 6 (pc' := 132) (loc' := [some (.ref 17), some (fI 1), some (fI m), some (fI (l1_226 / 1000)), some (fI p), some (fI i), some (fI fa), some (fI i)]) (st' := [fI (-1), fI (l1_226 / 1000), fI i, fI p, .ref 17]) (h' := h_226) (cl' := 0) (sl' := 0) rfl ?_
        refine ik_Wc 88 5 0 [.ref 17, fI p, fI i, fI (l1_226 / 1000), fI (-1)] [] rfl rfl rfl (by decide) rfl rfl (fw_rec k_226 rfl g_226_17 rfl (by decide)) ?_
        refine ik_Wk 0 (pc' := 0) (loc' := [some (.ref 17), some (fI p), some (fI i), some (fI (l1_226 / 1000)), some (fI (-1))]) (st' := []) (h' := h_226) (cl' := 0) (sl' := 0) rfl ?_
        refine ik_Wk 1 (pc' := 1) (loc' := [some (.ref 17), some (fI p), some (fI i), some (fI (l1_226 / 1000)), some (fI (-1))]) (st' := [.ref 17]) (h' := h_226) (cl' := 0) (sl' := 0) rfl ?_
        refine fw_gf rfl rfl g_226_17 rfl ?_
        refine ik_Wk 2 (pc' := 6) (loc' := [some (.ref 17), some (fI p), some (fI i), some (fI (l1_226 / 1000)), some (fI (-1))]) (st' := [fI p, fI 0, .ref 20]) (h' := h_226) (cl' := 0) (sl' := 0) rfl ?_
        refine fx_ias (z := 0) rfl g_226_20 (by decide) (Nat.le_of_ble_eq_true rfl) (by decide) ?_
        intro h_227 e_227 f_227 l_227
        have k_227 := l_227.trans k_226
        have fr_227 := hfr_w fr_226 f_227 l_227 (by decide)
        have g_227_7 := (f_227 7 (by decide)).trans g_226_7
        have g_227_11 := (f_227 11 (by decide)).trans g_226_11
        have g_227_12 := (f_227 12 (by decide)).trans g_226_12
        have g_227_13 := (f_227 13 (by decide)).trans g_226_13
        have g_227_15 := (f_227 15 (by decide)).trans g_226_15
        have g_227_17 := (f_227 17 (by decide)).trans g_226_17
        have g_227_18 := (f_227 18 (by decide)).trans g_226_18
        have g_227_19 := (f_227 19 (by decide)).trans g_226_19
        have g_227_21 := mf_cv_f g_226_21 (f_227 21 (by decide)) (f_227 22 (by decide)) (f_227 23 (by decide)) (f_227 24 (by decide))
        have g_227_33 := mf_cv_f g_226_33 (f_227 33 (by decide)) (f_227 34 (by decide)) (f_227 35 (by decide)) (f_227 36 (by decide))
        have g_227_20 : cE h_227 20 (.inl (.int, fA [p, z1, z2, z3])) := e_227
        refine ik_Wk 1 (pc' := 8) (loc' := [some (.ref 17), some (fI p), some (fI i), some (fI (l1_226 / 1000)), some (fI (-1))]) (st' := [.ref 17]) (h' := h_227) (cl' := 0) (sl' := 0) rfl ?_
        refine fw_gf rfl rfl g_227_17 rfl ?_
        refine ik_Wk 2 (pc' := 13) (loc' := [some (.ref 17), some (fI p), some (fI i), some (fI (l1_226 / 1000)), some (fI (-1))]) (st' := [fI i, fI 1, .ref 20]) (h' := h_227) (cl' := 0) (sl' := 0) rfl ?_
        refine fx_ias (z := 1) rfl g_227_20 (by decide) (Nat.le_of_ble_eq_true rfl) (by decide) ?_
        intro h_228 e_228 f_228 l_228
        have k_228 := l_228.trans k_227
        have fr_228 := hfr_w fr_227 f_228 l_228 (by decide)
        have g_228_7 := (f_228 7 (by decide)).trans g_227_7
        have g_228_11 := (f_228 11 (by decide)).trans g_227_11
        have g_228_12 := (f_228 12 (by decide)).trans g_227_12
        have g_228_13 := (f_228 13 (by decide)).trans g_227_13
        have g_228_15 := (f_228 15 (by decide)).trans g_227_15
        have g_228_17 := (f_228 17 (by decide)).trans g_227_17
        have g_228_18 := (f_228 18 (by decide)).trans g_227_18
        have g_228_19 := (f_228 19 (by decide)).trans g_227_19
        have g_228_21 := mf_cv_f g_227_21 (f_228 21 (by decide)) (f_228 22 (by decide)) (f_228 23 (by decide)) (f_228 24 (by decide))
        have g_228_33 := mf_cv_f g_227_33 (f_228 33 (by decide)) (f_228 34 (by decide)) (f_228 35 (by decide)) (f_228 36 (by decide))
        have g_228_20 : cE h_228 20 (.inl (.int, fA [p, i, z2, z3])) := e_228
        refine ik_Wk 1 (pc' := 15) (loc' := [some (.ref 17), some (fI p), some (fI i), some (fI (l1_226 / 1000)), some (fI (-1))]) (st' := [.ref 17]) (h' := h_228) (cl' := 0) (sl' := 0) rfl ?_
        refine fw_gf rfl rfl g_228_17 rfl ?_
        refine ik_Wk 2 (pc' := 20) (loc' := [some (.ref 17), some (fI p), some (fI i), some (fI (l1_226 / 1000)), some (fI (-1))]) (st' := [fI (l1_226 / 1000), fI 2, .ref 20]) (h' := h_228) (cl' := 0) (sl' := 0) rfl ?_
        refine fx_ias (z := 2) rfl g_228_20 (by decide) (Nat.le_of_ble_eq_true rfl) (by decide) ?_
        intro h_229 e_229 f_229 l_229
        have k_229 := l_229.trans k_228
        have fr_229 := hfr_w fr_228 f_229 l_229 (by decide)
        have g_229_7 := (f_229 7 (by decide)).trans g_228_7
        have g_229_11 := (f_229 11 (by decide)).trans g_228_11
        have g_229_12 := (f_229 12 (by decide)).trans g_228_12
        have g_229_13 := (f_229 13 (by decide)).trans g_228_13
        have g_229_15 := (f_229 15 (by decide)).trans g_228_15
        have g_229_17 := (f_229 17 (by decide)).trans g_228_17
        have g_229_18 := (f_229 18 (by decide)).trans g_228_18
        have g_229_19 := (f_229 19 (by decide)).trans g_228_19
        have g_229_21 := mf_cv_f g_228_21 (f_229 21 (by decide)) (f_229 22 (by decide)) (f_229 23 (by decide)) (f_229 24 (by decide))
        have g_229_33 := mf_cv_f g_228_33 (f_229 33 (by decide)) (f_229 34 (by decide)) (f_229 35 (by decide)) (f_229 36 (by decide))
        have g_229_20 : cE h_229 20 (.inl (.int, fA [p, i, l1_226 / 1000, z3])) := e_229
        refine ik_Wk 1 (pc' := 22) (loc' := [some (.ref 17), some (fI p), some (fI i), some (fI (l1_226 / 1000)), some (fI (-1))]) (st' := [.ref 17]) (h' := h_229) (cl' := 0) (sl' := 0) rfl ?_
        refine fw_gf rfl rfl g_229_17 rfl ?_
        refine ik_Wk 2 (pc' := 28) (loc' := [some (.ref 17), some (fI p), some (fI i), some (fI (l1_226 / 1000)), some (fI (-1))]) (st' := [fI (-1), fI 3, .ref 20]) (h' := h_229) (cl' := 0) (sl' := 0) rfl ?_
        refine fx_ias (z := 3) rfl g_229_20 (by decide) (Nat.le_of_ble_eq_true rfl) (by decide) ?_
        intro h_230 e_230 f_230 l_230
        have k_230 := l_230.trans k_229
        have fr_230 := hfr_w fr_229 f_230 l_230 (by decide)
        have g_230_7 := (f_230 7 (by decide)).trans g_229_7
        have g_230_11 := (f_230 11 (by decide)).trans g_229_11
        have g_230_12 := (f_230 12 (by decide)).trans g_229_12
        have g_230_13 := (f_230 13 (by decide)).trans g_229_13
        have g_230_15 := (f_230 15 (by decide)).trans g_229_15
        have g_230_17 := (f_230 17 (by decide)).trans g_229_17
        have g_230_18 := (f_230 18 (by decide)).trans g_229_18
        have g_230_19 := (f_230 19 (by decide)).trans g_229_19
        have g_230_21 := mf_cv_f g_229_21 (f_230 21 (by decide)) (f_230 22 (by decide)) (f_230 23 (by decide)) (f_230 24 (by decide))
        have g_230_33 := mf_cv_f g_229_33 (f_230 33 (by decide)) (f_230 34 (by decide)) (f_230 35 (by decide)) (f_230 36 (by decide))
        have g_230_20 : cE h_230 20 (.inl (.int, fA [p, i, l1_226 / 1000, -1])) := e_230
        refine ik_Wret rfl rfl ⟨_, _, rfl, rfl, ?_⟩
        refine ik_Wk 0 (pc' := 135) (loc' := [some (.ref 17), some (fI 1), some (fI m), some (fI (l1_226 / 1000)), some (fI p), some (fI i), some (fI fa), some (fI i)]) (st' := []) (h' := h_230) (cl' := 0) (sl' := 0) rfl ?_
        refine fw_inc (a := i) (loc' := [some (.ref 17), some (fI 1), some (fI m), some (fI (l1_226 / 1000)), some (fI p), some (fI (i + 1)), some (fI fa), some (fI i)]) rfl rfl (Nat.le_of_ble_eq_true rfl) rfl ?_
        refine ik_Wk 1 (pc' := 49) (loc' := [some (.ref 17), some (fI 1), some (fI m), some (fI (l1_226 / 1000)), some (fI p), some (fI (i + 1)), some (fI fa), some (fI i)]) (st' := []) (h' := h_230) (cl' := 0) (sl' := 0) rfl ?_
        have e1 : (m + 1 - i).toNat = (m + 1 - (i + 1)).toNat + 1 := by omega
        have he2 : X = (mk_bk (mk_vb W pl ka pa fa kb pb fb 1) p (m + 1 - (i + 1)).toNat (i + 1) p i (l1_226 / 1000)) := by
          rw [he, e1]
          show (if (mk_vb W pl ka pa fa kb pb fb 1) p i < l then _ else _) = _
          rw [if_pos (by omega), ev]
        exact ih (i + 1) p i (l1_226 / 1000) p i (l1_226 / 1000) (-1) l0_226 l1_226 l2_226 ua'_226 ub'_226 (some (fI fa)) (some (fI i)) h_230 g_230_7 g_230_11 n11 g_230_12 n12 g_230_13 n13 g_230_15 g_230_17 g_230_18 g_230_19 g_230_20 g_230_21 g_230_33 k_230 fr_230 (by omega) (by omega) (Or.inr ⟨rfl, rfl, rfl⟩) he2 rfl rfl (by omega)

theorem cs_best1L {h : List ik_E} {pl : Int} {lo : Int} {s : Nat} {m : Int} {ka : Int} {pa : Int} {fa : Int} {kb : Int} {pb : Int} {fb : Int} {bo : Int} {la : Int} {lb : Int} {t0 : Int} {t1 : Int} {t2 : Int} {t3 : Int} {wg : List Int} {wc : List Int} {we : List Int} {W : Int → List (Int × Int)} (q0 : 2 ≤ pl ∧ pl ≤ 12) (q1 : 0 ≤ ka ∧ ka ≤ 2 ∧ 0 ≤ kb ∧ kb ≤ 2) (q2 : 0 ≤ pa ∧ pa < pl - 1) (q3 : 0 ≤ pb ∧ pb < pl - 1) (q4 : 0 ≤ fa ∧ fa ≤ 30 ∧ 0 ≤ fb ∧ fb ≤ 30) (q5 : ∀ x : Int, 0 ≤ x → x < pl - 1 → mx_wy wg wc we x (W x)) (q6 : ∀ x : Int, 0 ≤ x → x < pl - 1 → mx_ok pl (W x)) (q7 : 0 ≤ m ∧ m ≤ 10)  : ∀ (k : Nat) (p : Int) (x : Int) (y : Int) (l : Int) (z0 : Int) (z1 : Int) (z2 : Int) (z3 : Int) (l0 : Int) (l1 : Int) (l2 : Int) (uo : Int) (x5 : Option Value) (x6 : Option Value) (x7 : Option Value) (u : List ik_E) (u7 : cE u 7 (.inr (0, [fI pl, fI ((s : Nat) : Int), fI lo, .ref 8, .ref 9, .ref 10, .ref 11, .ref 12, .ref 13]))) (u11 : cE u 11 (.inl (.int, fA wg))) (n11 : wg.length = 60) (u12 : cE u 12 (.inl (.int, fA wc))) (n12 : wc.length = 60) (u13 : cE u 13 (.inl (.int, fA we))) (n13 : we.length = 12) (u15 : cE u 15 (.inl (.int, fA [ka, pa, fa, kb, pb, fb]))) (u17 : cE u 17 (.inr (8, [.ref 7, .ref 15, .ref 18, .ref 19, fJ l2, .ref 20]))) (u18 : cE u 18 (.inl (.object "SlowerCork$Course", [.ref 21, .ref 25, .ref 29, .ref 33, .ref 37, .ref 41]))) (u19 : cE u 19 (.inl (.long, fL [l0, l1]))) (u20 : cE u 20 (.inl (.int, fA [z0, z1, z2, z3]))) (u21 : mf_cv u 21 W pl ka pa uo) (u33 : mf_cr u 33 ) (ul : u.length = 94) (F : hfr [17, 19, 20, 21, 22, 23, 24, 33, 34, 35, 36] h u) (hp : 0 ≤ p ∧ p ≤ pl - 1) (hl : 0 ≤ l ∧ l ≤ 1000001) (hz : mk_fs (p = 0) x y l z0 z1 z2) (he : (mk_bp (mk_vb W pl ka pa fa kb pb fb 1) (m.toNat + 1) (pl - 1).toNat 0 0 0 1000001) = mk_bp (mk_vb W pl ka pa fa kb pb fb 1) (m.toNat + 1) (pl - 1 - p).toNat p x y l) (w5 : ik_wl 94 x5 = true) (w6 : ik_wl 94 x6 = true) (w7 : ik_wl 94 x7 = true) (hk : pl - p < (k : Int)), ik_G 83 13 [some (.ref 17), some (fI 1), some (fI m), some (fI l), some (fI p), x5, x6, x7] [] u (fun rv h' => ∃ (l0 : Int) (l1 : Int) (l2 : Int) (t' : Int), rv = [] ∧ cE h' 17 (.inr (8, [.ref 7, .ref 15, .ref 18, .ref 19, fJ l2, .ref 20])) ∧ cE h' 19 (.inl (.long, fL [l0, l1])) ∧ cE h' 20 (.inl (.int, fA [(mk_bp (mk_vb W pl ka pa fa kb pb fb 1) (m.toNat + 1) (pl - 1).toNat 0 0 0 1000001).1, (mk_bp (mk_vb W pl ka pa fa kb pb fb 1) (m.toNat + 1) (pl - 1).toNat 0 0 0 1000001).2.1, (mk_bp (mk_vb W pl ka pa fa kb pb fb 1) (m.toNat + 1) (pl - 1).toNat 0 0 0 1000001).2.2, t'])) ∧ mf_cr h' 21  ∧ mf_cr h' 33  ∧ hfr [17, 19, 20, 21, 22, 23, 24, 33, 34, 35, 36] h h') := by
  intro k
  induction k with
  | zero => intro p x y l z0 z1 z2 z3 l0 l1 l2 uo x5 x6 x7 u u7 u11 n11 u12 n12 u13 n13 u15 u17 u18 u19 u20 u21 u33 ul F hp hl hz he w5 w6 w7 hk; omega
  | succ k ih =>
    intro p x y l z0 z1 z2 z3 l0 l1 l2 uo x5 x6 x7 u u7 u11 n11 u12 n12 u13 n13 u15 u17 u18 u19 u20 u21 u33 ul F hp hl hz he w5 w6 w7 hk
    refine ik_Wk 2 (pc' := 16) (loc' := [some (.ref 17), some (fI 1), some (fI m), some (fI l), some (fI p), x5, x6, x7]) (st' := [.ref 17, fI p]) (h' := u) (cl' := 0) (sl' := 0) rfl ?_
    refine fw_gf rfl rfl u17 rfl ?_
    refine ik_Wc 2 1 0 [.ref 7] [fI p] rfl rfl rfl (by decide) rfl rfl (fw_rec ul (fw_ftx rfl (wv_c rfl wv_n) (wl_c rfl (wl_c rfl (wl_c rfl (wl_c rfl (wl_c rfl (wl_c w5 (wl_c w6 (wl_c w7 wl_n))))))))) u7 rfl (by decide)) ?_
    refine ik_Wk 0 (pc' := 0) (loc' := [some (.ref 7)]) (st' := []) (h' := u) (cl' := 0) (sl' := 0) rfl ?_
    refine ik_Wk 1 (pc' := 1) (loc' := [some (.ref 7)]) (st' := [.ref 7]) (h' := u) (cl' := 0) (sl' := 0) rfl ?_
    refine fw_gf rfl rfl u7 rfl ?_
    refine ik_Wk 1 (pc' := 5) (loc' := [some (.ref 7)]) (st' := [fI 1, fI pl]) (h' := u) (cl' := 0) (sl' := 0) rfl ?_
    refine fw_sub rfl ?_
    refine ik_Wret rfl rfl ⟨_, _, rfl, rfl, ?_⟩
    refine ik_Wk 0 (pc' := 22) (loc' := [some (.ref 17), some (fI 1), some (fI m), some (fI l), some (fI p), x5, x6, x7]) (st' := [fI (pl - 1), fI p]) (h' := u) (cl' := 0) (sl' := 0) rfl ?_
    refine fw_ic_ge rfl rfl (by omega) (by omega) (by omega) (by omega) (fun hc1 => ?_) (fun hc1 => ?_)
    · have e0 : (pl - 1 - p).toNat = 0 := by omega
      rw [e0] at he
      have hz2 : z0 = x ∧ z1 = y ∧ z2 = l := hz.elim (fun w => absurd w (by omega)) id
      obtain ⟨ez0, ez1, ez2⟩ := hz2
      subst ez0
      subst ez1
      subst ez2
      rw [he]
      exact ik_Wret rfl rfl ⟨_, _, rfl, rfl, rfl, rfl, ⟨l0, l1, l2, z3, rfl, u17, u19, u20, (mf_cv_r u21), u33, F⟩⟩
    · refine ik_Wk 2 (pc' := 27) (loc' := [some (.ref 17), some (fI 1), some (fI m), some (fI l), some (fI p), x5, x6, x7]) (st' := [fI 1, .ref 17]) (h' := u) (cl' := 0) (sl' := 0) rfl ?_
      refine ik_Wc 77 2 0 [.ref 17, fI 1] [] rfl rfl rfl (by decide) rfl rfl (fw_rec ul (fw_ftx rfl wv_n (wl_c rfl (wl_c rfl (wl_c rfl (wl_c rfl (wl_c rfl (wl_c w5 (wl_c w6 (wl_c w7 wl_n))))))))) u17 rfl (by decide)) ?_
      refine ik_Wk 0 (pc' := 0) (loc' := [some (.ref 17), some (fI 1)]) (st' := []) (h' := u) (cl' := 0) (sl' := 0) rfl ?_
      refine ik_Wk 1 (pc' := 1) (loc' := [some (.ref 17), some (fI 1)]) (st' := [.ref 17]) (h' := u) (cl' := 0) (sl' := 0) rfl ?_
      refine fw_gf rfl rfl u17 rfl ?_
      refine ik_Wk 2 (pc' := 6) (loc' := [some (.ref 17), some (fI 1)]) (st' := [fI 3, fI 1, .ref 18]) (h' := u) (cl' := 0) (sl' := 0) rfl ?_
      refine fw_mul rfl ?_
      refine fx_aal (z := 3) rfl u18 (by decide) (by decide) rfl ?_
      refine ik_Wret rfl rfl ⟨_, _, rfl, rfl, ?_⟩
      refine ik_Wk 0 (pc' := 30) (loc' := [some (.ref 17), some (fI 1), some (fI m), some (fI l), some (fI p), x5, x6, x7]) (st' := [.ref 33]) (h' := u) (cl' := 0) (sl' := 0) rfl ?_
      refine ik_Wk 1 (pc' := 31) (loc' := [some (.ref 17), some (fI 1), some (fI m), some (fI l), some (fI p), x5, x6, x7]) (st' := [.ref 17, .ref 33]) (h' := u) (cl' := 0) (sl' := 0) rfl ?_
      refine fw_gf rfl rfl u17 rfl ?_
      refine ik_Wk 2 (pc' := 36) (loc' := [some (.ref 17), some (fI 1), some (fI m), some (fI l), some (fI p), x5, x6, x7]) (st' := [fI 3, fI 1, .ref 15, .ref 33]) (h' := u) (cl' := 0) (sl' := 0) rfl ?_
      refine fw_mul rfl ?_
      refine ik_Wk 1 (pc' := 38) (loc' := [some (.ref 17), some (fI 1), some (fI m), some (fI l), some (fI p), x5, x6, x7]) (st' := [fI 0, fI 3, .ref 15, .ref 33]) (h' := u) (cl' := 0) (sl' := 0) rfl ?_
      refine fw_add rfl ?_
      refine fw_ial (z := 3) rfl u15 (by decide) (Nat.le_of_ble_eq_true rfl) (by decide) ?_
      refine ik_Wk 0 (pc' := 40) (loc' := [some (.ref 17), some (fI 1), some (fI m), some (fI l), some (fI p), x5, x6, x7]) (st' := [fI kb, .ref 33]) (h' := u) (cl' := 0) (sl' := 0) rfl ?_
      refine ik_Wk 1 (pc' := 42) (loc' := [some (.ref 17), some (fI 1), some (fI m), some (fI l), some (fI p), x5, x6, x7]) (st' := [fI p, fI kb, .ref 33]) (h' := u) (cl' := 0) (sl' := 0) rfl ?_
      refine fw_call 30 3 0 [.ref 33, fI kb, fI p] [] rfl rfl rfl (by decide) rfl rfl (fw_rec ul (fw_ftx rfl wv_n (wl_c rfl (wl_c rfl (wl_c rfl (wl_c rfl (wl_c rfl (wl_c w5 (wl_c w6 (wl_c w7 wl_n))))))))) (mf_cr_o u33).choose_spec rfl (by decide)) (cs_setIn (C := 33) (pl := pl) (lo := lo) (s := s) (kd := kb) (qp := p) (W := W) (by omega) (by omega) (by omega) u7 u33 ul) ?_
      rintro _ h_231 ⟨rfl, e_231_C, F_231⟩
      have k_231 := F_231.1.trans ul
      have fr_231 := hfr_c F F_231 (by decide)
      have g_231_7 := (F_231.2 7 (by decide +kernel)).trans u7
      have g_231_11 := (F_231.2 11 (by decide +kernel)).trans u11
      have g_231_12 := (F_231.2 12 (by decide +kernel)).trans u12
      have g_231_13 := (F_231.2 13 (by decide +kernel)).trans u13
      have g_231_15 := (F_231.2 15 (by decide +kernel)).trans u15
      have g_231_17 := (F_231.2 17 (by decide +kernel)).trans u17
      have g_231_18 := (F_231.2 18 (by decide +kernel)).trans u18
      have g_231_19 := (F_231.2 19 (by decide +kernel)).trans u19
      have g_231_20 := (F_231.2 20 (by decide +kernel)).trans u20
      have g_231_21 := mf_cv_f u21 (F_231.2 21 (by decide)) (F_231.2 22 (by decide)) (F_231.2 23 (by decide)) (F_231.2 24 (by decide))
      have g_231_33 : mf_cv h_231 33 W pl kb p 0 := e_231_C
      refine ik_Wk 0 (pc' := 45) (loc' := [some (.ref 17), some (fI 1), some (fI m), some (fI l), some (fI p), x5, x6, x7]) (st' := [.ref 33]) (h' := h_231) (cl' := 0) (sl' := 0) rfl ?_
      refine ik_Wk 3 (pc' := 49) (loc' := [some (.ref 17), some (fI 1), some (fI m), some (fI l), some (fI p), some (fI 0), x6, x7]) (st' := []) (h' := h_231) (cl' := 0) (sl' := 0) rfl ?_
      refine cs_best1I (pl := pl) (lo := lo) (s := s) (m := m) (ka := ka) (pa := pa) (fa := fa) (kb := kb) (pb := pb) (fb := fb) (bo := bo) (la := la) (lb := lb) (t0 := t0) (t1 := t1) (t2 := t2) (t3 := t3) (wg := wg) (wc := wc) (we := we) (W := W) q0 q1 q2 q3 q4 q5 q6 q7 p (by omega) (mk_bk (mk_vb W pl ka pa fa kb pb fb 1) p (m.toNat + 1) 0 x y l) (R := (fun rv h' => ∃ (l0 : Int) (l1 : Int) (l2 : Int) (t' : Int), rv = [] ∧ cE h' 17 (.inr (8, [.ref 7, .ref 15, .ref 18, .ref 19, fJ l2, .ref 20])) ∧ cE h' 19 (.inl (.long, fL [l0, l1])) ∧ cE h' 20 (.inl (.int, fA [(mk_bp (mk_vb W pl ka pa fa kb pb fb 1) (m.toNat + 1) (pl - 1).toNat 0 0 0 1000001).1, (mk_bp (mk_vb W pl ka pa fa kb pb fb 1) (m.toNat + 1) (pl - 1).toNat 0 0 0 1000001).2.1, (mk_bp (mk_vb W pl ka pa fa kb pb fb 1) (m.toNat + 1) (pl - 1).toNat 0 0 0 1000001).2.2, t'])) ∧ mf_cr h' 21  ∧ mf_cr h' 33  ∧ hfr [17, 19, 20, 21, 22, 23, 24, 33, 34, 35, 36] h h')) (fun h_232 x_232 y_232 l_232 z0_232 z1_232 z2_232 z3_232 l0_232 l1_232 l2_232 uo_232 i2_232 uw_232 x6_232 x7_232 g_232_7 g_232_11 m_232_11 g_232_12 m_232_12 g_232_13 m_232_13 g_232_15 g_232_17 g_232_18 g_232_19 g_232_20 g_232_21 g_232_33 k_232 fr_232 hl_232 hz_232 hX_232 w6_232 w7_232 => ?_) (m.toNat + 2) 0 x y l z0 z1 z2 z3 l0 l1 l2 uo 0 x6 x7 h_231 g_231_7 g_231_11 n11 g_231_12 n12 g_231_13 n13 g_231_15 g_231_17 g_231_18 g_231_19 g_231_20 g_231_21 g_231_33 k_231 fr_231 (by omega) hl (hz.elim (fun w => Or.inl ⟨⟨w.1, rfl⟩, w.2⟩) Or.inr) (by rw [show (m + 1 - 0).toNat = m.toNat + 1 by omega]) w6 w7 (by omega)
      refine fw_inc (a := p) (loc' := [some (.ref 17), some (fI 1), some (fI m), some (fI l_232), some (fI (p + 1)), some (fI i2_232), x6_232, x7_232]) rfl rfl (Nat.le_of_ble_eq_true rfl) rfl ?_
      refine ik_Wk 1 (pc' := 13) (loc' := [some (.ref 17), some (fI 1), some (fI m), some (fI l_232), some (fI (p + 1)), some (fI i2_232), x6_232, x7_232]) (st' := []) (h' := h_232) (cl' := 0) (sl' := 0) rfl ?_
      exact ih  (p + 1) x_232 y_232 l_232 z0_232 z1_232 z2_232 z3_232 l0_232 l1_232 l2_232 uo_232 (some (fI i2_232)) x6_232 x7_232 h_232 g_232_7 g_232_11 m_232_11 g_232_12 m_232_12 g_232_13 m_232_13 g_232_15 g_232_17 g_232_18 g_232_19 g_232_20 g_232_21 (mf_cv_r g_232_33) k_232 fr_232 (by omega) hl_232 (Or.inr hz_232) (by rw [he, show (pl - 1 - p).toNat = (pl - 1 - (p + 1)).toNat + 1 by omega]; show mk_bp (mk_vb W pl ka pa fa kb pb fb 1) (m.toNat + 1) _ (p + 1) _ _ _ = _; rw [hX_232]) rfl w6_232 w7_232 (by omega)

theorem cs_best1 {h : List ik_E} {pl : Int} {lo : Int} {s : Nat} {m : Int} {ka : Int} {pa : Int} {fa : Int} {kb : Int} {pb : Int} {fb : Int} {bo : Int} {la : Int} {lb : Int} {t0 : Int} {t1 : Int} {t2 : Int} {t3 : Int} {wg : List Int} {wc : List Int} {we : List Int} {W : Int → List (Int × Int)} (q0 : 2 ≤ pl ∧ pl ≤ 12) (q1 : 0 ≤ ka ∧ ka ≤ 2 ∧ 0 ≤ kb ∧ kb ≤ 2) (q2 : 0 ≤ pa ∧ pa < pl - 1) (q3 : 0 ≤ pb ∧ pb < pl - 1) (q4 : 0 ≤ fa ∧ fa ≤ 30 ∧ 0 ≤ fb ∧ fb ≤ 30) (q5 : ∀ x : Int, 0 ≤ x → x < pl - 1 → mx_wy wg wc we x (W x)) (q6 : ∀ x : Int, 0 ≤ x → x < pl - 1 → mx_ok pl (W x)) (q7 : 0 ≤ m ∧ m ≤ 10) (h7 : cE h 7 (.inr (0, [fI pl, fI ((s : Nat) : Int), fI lo, .ref 8, .ref 9, .ref 10, .ref 11, .ref 12, .ref 13]))) (h11 : cE h 11 (.inl (.int, fA wg))) (n11 : wg.length = 60) (h12 : cE h 12 (.inl (.int, fA wc))) (n12 : wc.length = 60) (h13 : cE h 13 (.inl (.int, fA we))) (n13 : we.length = 12) (h15 : cE h 15 (.inl (.int, fA [ka, pa, fa, kb, pb, fb]))) (h17 : cE h 17 (.inr (8, [.ref 7, .ref 15, .ref 18, .ref 19, fJ bo, .ref 20]))) (h18 : cE h 18 (.inl (.object "SlowerCork$Course", [.ref 21, .ref 25, .ref 29, .ref 33, .ref 37, .ref 41]))) (h19 : cE h 19 (.inl (.long, fL [la, lb]))) (h20 : cE h 20 (.inl (.int, fA [t0, t1, t2, t3]))) (h21 : mf_cr h 21 ) (h33 : mf_cr h 33 ) (hl : h.length = 94) : ik_F 83 [.ref 17, fI 1, fI m] h (fun rv h' => ∃ (l0 : Int) (l1 : Int) (l2 : Int) (t' : Int), rv = [] ∧ cE h' 17 (.inr (8, [.ref 7, .ref 15, .ref 18, .ref 19, fJ l2, .ref 20])) ∧ cE h' 19 (.inl (.long, fL [l0, l1])) ∧ cE h' 20 (.inl (.int, fA [(mk_bp (mk_vb W pl ka pa fa kb pb fb 1) (m.toNat + 1) (pl - 1).toNat 0 0 0 1000001).1, (mk_bp (mk_vb W pl ka pa fa kb pb fb 1) (m.toNat + 1) (pl - 1).toNat 0 0 0 1000001).2.1, (mk_bp (mk_vb W pl ka pa fa kb pb fb 1) (m.toNat + 1) (pl - 1).toNat 0 0 0 1000001).2.2, t'])) ∧ mf_cr h' 21  ∧ mf_cr h' 33  ∧ hfr [17, 19, 20, 21, 22, 23, 24, 33, 34, 35, 36] h h') := by
  refine ik_Wk 3 (pc' := 3) (loc' := [some (.ref 17), some (fI 1), some (fI m), none, none, none, none, none]) (st' := [fI 1, fI 1, .ref 17]) (h' := h) (cl' := 0) (sl' := 0) rfl ?_
  refine fw_sub rfl ?_
  refine ik_Wc 78 2 0 [.ref 17, fI 0] [] rfl rfl rfl (by decide) rfl rfl (fw_rec hl rfl h17 rfl (by decide)) ?_
  refine ik_Wk 0 (pc' := 0) (loc' := [some (.ref 17), some (fI 0)]) (st' := []) (h' := h) (cl' := 0) (sl' := 0) rfl ?_
  refine ik_Wk 2 (pc' := 2) (loc' := [some (.ref 17), some (fI 0)]) (st' := [fI 0, .ref 17]) (h' := h) (cl' := 0) (sl' := 0) rfl ?_
  refine ik_Wc 77 2 0 [.ref 17, fI 0] [] rfl rfl rfl (by decide) rfl rfl (fw_rec hl rfl h17 rfl (by decide)) ?_
  refine ik_Wk 0 (pc' := 0) (loc' := [some (.ref 17), some (fI 0)]) (st' := []) (h' := h) (cl' := 0) (sl' := 0) rfl ?_
  refine ik_Wk 1 (pc' := 1) (loc' := [some (.ref 17), some (fI 0)]) (st' := [.ref 17]) (h' := h) (cl' := 0) (sl' := 0) rfl ?_
  refine fw_gf rfl rfl h17 rfl ?_
  refine ik_Wk 2 (pc' := 6) (loc' := [some (.ref 17), some (fI 0)]) (st' := [fI 3, fI 0, .ref 18]) (h' := h) (cl' := 0) (sl' := 0) rfl ?_
  refine fw_mul rfl ?_
  refine fx_aal (z := 0) rfl h18 (by decide) (by decide) rfl ?_
  refine ik_Wret rfl rfl ⟨_, _, rfl, rfl, ?_⟩
  refine ik_Wk 0 (pc' := 5) (loc' := [some (.ref 17), some (fI 0)]) (st' := [.ref 21]) (h' := h) (cl' := 0) (sl' := 0) rfl ?_
  refine ik_Wk 1 (pc' := 6) (loc' := [some (.ref 17), some (fI 0)]) (st' := [.ref 17, .ref 21]) (h' := h) (cl' := 0) (sl' := 0) rfl ?_
  refine fw_gf rfl rfl h17 rfl ?_
  refine ik_Wk 2 (pc' := 11) (loc' := [some (.ref 17), some (fI 0)]) (st' := [fI 3, fI 0, .ref 15, .ref 21]) (h' := h) (cl' := 0) (sl' := 0) rfl ?_
  refine fw_mul rfl ?_
  refine ik_Wk 1 (pc' := 13) (loc' := [some (.ref 17), some (fI 0)]) (st' := [fI 0, fI 0, .ref 15, .ref 21]) (h' := h) (cl' := 0) (sl' := 0) rfl ?_
  refine fw_add rfl ?_
  refine fw_ial (z := 0) rfl h15 (by decide) (Nat.le_of_ble_eq_true rfl) (by decide) ?_
  refine ik_Wk 0 (pc' := 15) (loc' := [some (.ref 17), some (fI 0)]) (st' := [fI ka, .ref 21]) (h' := h) (cl' := 0) (sl' := 0) rfl ?_
  refine ik_Wk 1 (pc' := 16) (loc' := [some (.ref 17), some (fI 0)]) (st' := [.ref 17, fI ka, .ref 21]) (h' := h) (cl' := 0) (sl' := 0) rfl ?_
  refine fw_gf rfl rfl h17 rfl ?_
  refine ik_Wk 2 (pc' := 21) (loc' := [some (.ref 17), some (fI 0)]) (st' := [fI 3, fI 0, .ref 15, fI ka, .ref 21]) (h' := h) (cl' := 0) (sl' := 0) rfl ?_
  refine fw_mul rfl ?_
  refine ik_Wk 1 (pc' := 23) (loc' := [some (.ref 17), some (fI 0)]) (st' := [fI 1, fI 0, .ref 15, fI ka, .ref 21]) (h' := h) (cl' := 0) (sl' := 0) rfl ?_
  refine fw_add rfl ?_
  refine fw_ial (z := 1) rfl h15 (by decide) (Nat.le_of_ble_eq_true rfl) (by decide) ?_
  refine ik_Wk 0 (pc' := 25) (loc' := [some (.ref 17), some (fI 0)]) (st' := [fI pa, fI ka, .ref 21]) (h' := h) (cl' := 0) (sl' := 0) rfl ?_
  refine fw_call 30 3 0 [.ref 21, fI ka, fI pa] [] rfl rfl rfl (by decide) rfl rfl (fw_rec hl rfl (mf_cr_o h21).choose_spec rfl (by decide)) (cs_setIn (C := 21) (pl := pl) (lo := lo) (s := s) (kd := ka) (qp := pa) (W := W) (by omega) (by omega) (by omega) h7 h21 hl) ?_
  rintro _ h_233 ⟨rfl, e_233_C, F_233⟩
  have k_233 := F_233.1.trans hl
  have fr_233 := hfr_c (hfr_refl [17, 19, 20, 21, 22, 23, 24, 33, 34, 35, 36] h) F_233 (by decide)
  have g_233_7 := (F_233.2 7 (by decide +kernel)).trans h7
  have g_233_11 := (F_233.2 11 (by decide +kernel)).trans h11
  have g_233_12 := (F_233.2 12 (by decide +kernel)).trans h12
  have g_233_13 := (F_233.2 13 (by decide +kernel)).trans h13
  have g_233_15 := (F_233.2 15 (by decide +kernel)).trans h15
  have g_233_17 := (F_233.2 17 (by decide +kernel)).trans h17
  have g_233_18 := (F_233.2 18 (by decide +kernel)).trans h18
  have g_233_19 := (F_233.2 19 (by decide +kernel)).trans h19
  have g_233_20 := (F_233.2 20 (by decide +kernel)).trans h20
  have g_233_33 := mf_cr_f h33 (F_233.2 33 (by decide)) (F_233.2 34 (by decide)) (F_233.2 35 (by decide)) (F_233.2 36 (by decide))
  have g_233_21 : mf_cv h_233 21 W pl ka pa 0 := e_233_C
  refine ik_Wk 0 (pc' := 28) (loc' := [some (.ref 17), some (fI 0)]) (st' := [.ref 21]) (h' := h_233) (cl' := 0) (sl' := 0) rfl ?_
  refine ik_Wk 1 (pc' := 29) (loc' := [some (.ref 17), some (fI 0)]) (st' := []) (h' := h_233) (cl' := 0) (sl' := 0) rfl ?_
  refine ik_Wret rfl rfl ⟨_, _, rfl, rfl, ?_⟩
  refine ik_Wk 0 (pc' := 7) (loc' := [some (.ref 17), some (fI 1), some (fI m), none, none, none, none, none]) (st' := []) (h' := h_233) (cl' := 0) (sl' := 0) rfl ?_
  refine fw_ld 1000001 rfl rfl (by decide) ?_
  refine ik_Wk 3 (pc' := 13) (loc' := [some (.ref 17), some (fI 1), some (fI m), some (fI 1000001), some (fI 0), none, none, none]) (st' := []) (h' := h_233) (cl' := 0) (sl' := 0) rfl ?_
  exact cs_best1L (pl := pl) (lo := lo) (s := s) (m := m) (ka := ka) (pa := pa) (fa := fa) (kb := kb) (pb := pb) (fb := fb) (bo := bo) (la := la) (lb := lb) (t0 := t0) (t1 := t1) (t2 := t2) (t3 := t3) (wg := wg) (wc := wc) (we := we) (W := W) q0 q1 q2 q3 q4 q5 q6 q7  (pl.toNat + 1) 0 0 0 1000001 t0 t1 t2 t3 la lb bo 0 none none none h_233 g_233_7 g_233_11 n11 g_233_12 n12 g_233_13 n13 g_233_15 g_233_17 g_233_18 g_233_19 g_233_20 g_233_21 g_233_33 k_233 fr_233 (by omega) (by omega) (Or.inl ⟨rfl, rfl, rfl, rfl⟩) (by rw [Int.sub_zero]) rfl rfl rfl (by omega)

end