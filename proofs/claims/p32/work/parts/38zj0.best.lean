noncomputable section
theorem cs_best0I {h : List ik_E} {pl : Int} {lo : Int} {s : Nat} {m : Int} {ka : Int} {pa : Int} {fa : Int} {kb : Int} {pb : Int} {fb : Int} {bo : Int} {la : Int} {lb : Int} {t0 : Int} {t1 : Int} {t2 : Int} {t3 : Int} {wg : List Int} {wc : List Int} {we : List Int} {W : Int → List (Int × Int)} (q0 : 2 ≤ pl ∧ pl ≤ 12) (q1 : 0 ≤ ka ∧ ka ≤ 2 ∧ 0 ≤ kb ∧ kb ≤ 2) (q2 : 0 ≤ pa ∧ pa < pl - 1) (q3 : 0 ≤ pb ∧ pb < pl - 1) (q4 : 0 ≤ fa ∧ fa ≤ 30 ∧ 0 ≤ fb ∧ fb ≤ 30) (q5 : ∀ x : Int, 0 ≤ x → x < pl - 1 → mx_wy wg wc we x (W x)) (q6 : ∀ x : Int, 0 ≤ x → x < pl - 1 → mx_ok pl (W x)) (q7 : 0 ≤ m ∧ m ≤ 10) (p : Int) (hp : 0 ≤ p ∧ p < pl - 1) (X : Int × Int × Int) {R : List Value → List ik_E → Prop} (K : ∀ (w : List ik_E) (x : Int) (y : Int) (l : Int) (z0 : Int) (z1 : Int) (z2 : Int) (z3 : Int) (l0 : Int) (l1 : Int) (l2 : Int) (uo : Int) (i2 : Int) (uw : Int) (x6 : Option Value) (x7 : Option Value) (w7 : cE w 7 (.inr (0, [fI pl, fI ((s : Nat) : Int), fI lo, .ref 8, .ref 9, .ref 10, .ref 11, .ref 12, .ref 13]))) (w11 : cE w 11 (.inl (.int, fA wg))) (nw_11 : wg.length = 60) (w12 : cE w 12 (.inl (.int, fA wc))) (nw_12 : wc.length = 60) (w13 : cE w 13 (.inl (.int, fA we))) (nw_13 : we.length = 12) (w15 : cE w 15 (.inl (.int, fA [ka, pa, fa, kb, pb, fb]))) (w17 : cE w 17 (.inr (8, [.ref 7, .ref 15, .ref 18, .ref 19, fJ l2, .ref 20]))) (w18 : cE w 18 (.inl (.object "SlowerCork$Course", [.ref 21, .ref 25, .ref 29, .ref 33, .ref 37, .ref 41]))) (w19 : cE w 19 (.inl (.long, fL [l0, l1]))) (w20 : cE w 20 (.inl (.int, fA [z0, z1, z2, z3]))) (w21 : mf_cv w 21 W pl ka p uw) (w33 : mf_cv w 33 W pl kb pb uo) (wl : w.length = 94) (F : hfr [17, 19, 20, 21, 22, 23, 24, 33, 34, 35, 36] h w) (hl : 0 ≤ l ∧ l ≤ 1000001) (hz : z0 = x ∧ z1 = y ∧ z2 = l) (hX : X = (x, y, l)) (w6 : ik_wl 94 x6 = true) (w7 : ik_wl 94 x7 = true), ik_G 83 141 [some (.ref 17), some (fI 0), some (fI m), some (fI l), some (fI p), some (fI i2), x6, x7] [] w R) : ∀ (k : Nat) (i : Int) (x : Int) (y : Int) (l : Int) (z0 : Int) (z1 : Int) (z2 : Int) (z3 : Int) (l0 : Int) (l1 : Int) (l2 : Int) (uo : Int) (uw : Int) (x6 : Option Value) (x7 : Option Value) (u : List ik_E) (u7 : cE u 7 (.inr (0, [fI pl, fI ((s : Nat) : Int), fI lo, .ref 8, .ref 9, .ref 10, .ref 11, .ref 12, .ref 13]))) (u11 : cE u 11 (.inl (.int, fA wg))) (n11 : wg.length = 60) (u12 : cE u 12 (.inl (.int, fA wc))) (n12 : wc.length = 60) (u13 : cE u 13 (.inl (.int, fA we))) (n13 : we.length = 12) (u15 : cE u 15 (.inl (.int, fA [ka, pa, fa, kb, pb, fb]))) (u17 : cE u 17 (.inr (8, [.ref 7, .ref 15, .ref 18, .ref 19, fJ l2, .ref 20]))) (u18 : cE u 18 (.inl (.object "SlowerCork$Course", [.ref 21, .ref 25, .ref 29, .ref 33, .ref 37, .ref 41]))) (u19 : cE u 19 (.inl (.long, fL [l0, l1]))) (u20 : cE u 20 (.inl (.int, fA [z0, z1, z2, z3]))) (u21 : mf_cv u 21 W pl ka p uw) (u33 : mf_cv u 33 W pl kb pb uo) (ul : u.length = 94) (F : hfr [17, 19, 20, 21, 22, 23, 24, 33, 34, 35, 36] h u) (hi : 0 ≤ i ∧ i ≤ m + 1) (hl : 0 ≤ l ∧ l ≤ 1000001) (hz : mk_fs (p = 0 ∧ i = 0) x y l z0 z1 z2) (he : X = (mk_bk (mk_vb W pl ka pa fa kb pb fb 0) p (m + 1 - i).toNat i x y l)) (w6 : ik_wl 94 x6 = true) (w7 : ik_wl 94 x7 = true) (hk : m + 1 - i < (k : Int)), ik_G 83 49 [some (.ref 17), some (fI 0), some (fI m), some (fI l), some (fI p), some (fI i), x6, x7] [] u R := by
  intro k
  induction k with
  | zero => intro i x y l z0 z1 z2 z3 l0 l1 l2 uo uw x6 x7 u u7 u11 n11 u12 n12 u13 n13 u15 u17 u18 u19 u20 u21 u33 ul F hi hl hz he w6 w7 hk; omega
  | succ k ih =>
    intro i x y l z0 z1 z2 z3 l0 l1 l2 uo uw x6 x7 u u7 u11 n11 u12 n12 u13 n13 u15 u17 u18 u19 u20 u21 u33 ul F hi hl hz he w6 w7 hk
    refine ik_Wk 2 (pc' := 52) (loc' := [some (.ref 17), some (fI 0), some (fI m), some (fI l), some (fI p), some (fI i), x6, x7]) (st' := [fI m, fI i]) (h' := u) (cl' := 0) (sl' := 0) rfl ?_
    refine fw_ic_gt rfl rfl (by omega) (by omega) (by omega) (by omega) (fun hc1 => ?_) (fun hc1 => ?_)
    · have e0 : (m + 1 - i).toNat = 0 := by omega
      rw [e0] at he
      exact K u x y l z0 z1 z2 z3 l0 l1 l2 uo i uw x6 x7 u7 u11 n11 u12 n12 u13 n13 u15 u17 u18 u19 u20 u21 u33 ul F hl (hz.elim (fun w => absurd w (by omega)) id) he w6 w7
    · refine ik_Wk 1 (pc' := 56) (loc' := [some (.ref 17), some (fI 0), some (fI m), some (fI l), some (fI p), some (fI i), x6, x7]) (st' := [fI 0]) (h' := u) (cl' := 0) (sl' := 0) rfl ?_
      refine fw_if_ne rfl rfl (by omega) (by omega) (fun hc2 => ?_) (fun hc2 => absurd hc2 (by omega))
      refine ik_Wk 5 (pc' := 74) (loc' := [some (.ref 17), some (fI 0), some (fI m), some (fI l), some (fI p), some (fI i), some (fI i), x7]) (st' := [fI 1, fI 0]) (h' := u) (cl' := 0) (sl' := 0) rfl ?_
      refine fw_ic_ne rfl rfl (by omega) (by omega) (by omega) (by omega) (fun hc3 => absurd hc3 (by omega)) (fun hc3 => ?_)
      refine ik_Wk 1 (pc' := 83) (loc' := [some (.ref 17), some (fI 0), some (fI m), some (fI l), some (fI p), some (fI i), some (fI i), x7]) (st' := [.ref 17]) (h' := u) (cl' := 0) (sl' := 0) rfl ?_
      refine fw_gf rfl rfl u17 rfl ?_
      refine ik_Wk 1 (pc' := 87) (loc' := [some (.ref 17), some (fI 0), some (fI m), some (fI l), some (fI p), some (fI i), some (fI i), x7]) (st' := [fI 5, .ref 15]) (h' := u) (cl' := 0) (sl' := 0) rfl ?_
      refine fw_ial (z := 5) rfl u15 (by decide) (Nat.le_of_ble_eq_true rfl) (by decide) ?_
      refine ik_Wk 0 (pc' := 88) (loc' := [some (.ref 17), some (fI 0), some (fI m), some (fI l), some (fI p), some (fI i), some (fI i), x7]) (st' := [fI fb]) (h' := u) (cl' := 0) (sl' := 0) rfl ?_
      refine ik_Wk 4 (pc' := 93) (loc' := [some (.ref 17), some (fI 0), some (fI m), some (fI l), some (fI p), some (fI i), some (fI i), some (fI fb)]) (st' := [fI 0, .ref 17, .ref 17]) (h' := u) (cl' := 0) (sl' := 0) rfl ?_
      refine ik_Wc 77 2 0 [.ref 17, fI 0] [.ref 17] rfl rfl rfl (by decide) rfl rfl (fw_rec ul rfl u17 rfl (by decide)) ?_
      refine ik_Wk 0 (pc' := 0) (loc' := [some (.ref 17), some (fI 0)]) (st' := []) (h' := u) (cl' := 0) (sl' := 0) rfl ?_
      refine ik_Wk 1 (pc' := 1) (loc' := [some (.ref 17), some (fI 0)]) (st' := [.ref 17]) (h' := u) (cl' := 0) (sl' := 0) rfl ?_
      refine fw_gf rfl rfl u17 rfl ?_
      refine ik_Wk 2 (pc' := 6) (loc' := [some (.ref 17), some (fI 0)]) (st' := [fI 3, fI 0, .ref 18]) (h' := u) (cl' := 0) (sl' := 0) rfl ?_
      refine fw_mul rfl ?_
      refine fx_aal (z := 0) rfl u18 (by decide) (by decide) rfl ?_
      refine ik_Wret rfl rfl ⟨_, _, rfl, rfl, ?_⟩
      refine ik_Wk 0 (pc' := 96) (loc' := [some (.ref 17), some (fI 0), some (fI m), some (fI l), some (fI p), some (fI i), some (fI i), some (fI fb)]) (st' := [.ref 21, .ref 17]) (h' := u) (cl' := 0) (sl' := 0) rfl ?_
      refine ik_Wk 3 (pc' := 100) (loc' := [some (.ref 17), some (fI 0), some (fI m), some (fI l), some (fI p), some (fI i), some (fI i), some (fI fb)]) (st' := [fI 1, .ref 17, fI i, .ref 21, .ref 17]) (h' := u) (cl' := 0) (sl' := 0) rfl ?_
      refine ik_Wc 77 2 0 [.ref 17, fI 1] [fI i, .ref 21, .ref 17] rfl rfl rfl (by decide) rfl rfl (fw_rec ul rfl u17 rfl (by decide)) ?_
      refine ik_Wk 0 (pc' := 0) (loc' := [some (.ref 17), some (fI 1)]) (st' := []) (h' := u) (cl' := 0) (sl' := 0) rfl ?_
      refine ik_Wk 1 (pc' := 1) (loc' := [some (.ref 17), some (fI 1)]) (st' := [.ref 17]) (h' := u) (cl' := 0) (sl' := 0) rfl ?_
      refine fw_gf rfl rfl u17 rfl ?_
      refine ik_Wk 2 (pc' := 6) (loc' := [some (.ref 17), some (fI 1)]) (st' := [fI 3, fI 1, .ref 18]) (h' := u) (cl' := 0) (sl' := 0) rfl ?_
      refine fw_mul rfl ?_
      refine fx_aal (z := 3) rfl u18 (by decide) (by decide) rfl ?_
      refine ik_Wret rfl rfl ⟨_, _, rfl, rfl, ?_⟩
      refine ik_Wk 0 (pc' := 103) (loc' := [some (.ref 17), some (fI 0), some (fI m), some (fI l), some (fI p), some (fI i), some (fI i), some (fI fb)]) (st' := [.ref 33, fI i, .ref 21, .ref 17]) (h' := u) (cl' := 0) (sl' := 0) rfl ?_
      refine ik_Wk 1 (pc' := 105) (loc' := [some (.ref 17), some (fI 0), some (fI m), some (fI l), some (fI p), some (fI i), some (fI i), some (fI fb)]) (st' := [fI fb, .ref 33, fI i, .ref 21, .ref 17]) (h' := u) (cl' := 0) (sl' := 0) rfl ?_
      refine fw_ld 1000000 rfl rfl (by decide) ?_
      refine fw_call 80 6 0 [.ref 17, .ref 21, fI i, .ref 33, fI fb, fI 1000000] [] rfl rfl rfl (by decide) rfl rfl (fw_rec ul rfl u17 rfl (by decide)) (cs_race (C := 21) (E := 33) (pl := pl) (lo := lo) (s := s) (ka := ka) (pa := p) (ma := i) (kb := kb) (pb := pb) (mb := fb) (ua := uw) (ub := uo) (lim := 1000000) (bo := l2) (la := l0) (lb := l1) (wg := wg) (wc := wc) (we := we) (W := W) (by omega) (by omega) (by omega) (by omega) (by omega) (by omega) (by omega) q5 q6 u7 u11 n11 u12 n12 u13 n13 u17 u19 u21 u33 ul) ?_
      rintro _ h_218 ⟨l0_218, l1_218, l2_218, ua'_218, ub'_218, rfl, e_218_17, e_218_19, e_218_C, e_218_E, p_218_0, p_218_1, F_218⟩
      have k_218 := F_218.1.trans ul
      have fr_218 := hfr_c F F_218 (by decide)
      have g_218_7 := (F_218.2 7 (by decide +kernel)).trans u7
      have g_218_11 := (F_218.2 11 (by decide +kernel)).trans u11
      have g_218_12 := (F_218.2 12 (by decide +kernel)).trans u12
      have g_218_13 := (F_218.2 13 (by decide +kernel)).trans u13
      have g_218_15 := (F_218.2 15 (by decide +kernel)).trans u15
      have g_218_18 := (F_218.2 18 (by decide +kernel)).trans u18
      have g_218_20 := (F_218.2 20 (by decide +kernel)).trans u20
      have g_218_17 : cE h_218 17 (.inr (8, [.ref 7, .ref 15, .ref 18, .ref 19, fJ l2_218, .ref 20])) := e_218_17
      have g_218_19 : cE h_218 19 (.inl (.long, fL [l0_218, l1_218])) := e_218_19
      have g_218_21 : mf_cv h_218 21 W pl ka p ua'_218 := e_218_C
      have g_218_33 : mf_cv h_218 33 W pl kb pb ub'_218 := e_218_E
      refine ik_Wk 0 (pc' := 110) (loc' := [some (.ref 17), some (fI 0), some (fI m), some (fI l), some (fI p), some (fI i), some (fI i), some (fI fb)]) (st' := []) (h' := h_218) (cl' := 0) (sl' := 0) rfl ?_
      have ka_218 := mr_ok_cm (W := W) (k := ka) q6 hp
      have kb_218 := mr_ok_cm (W := W) (k := kb) q6 q3
      have Fa_218 := mr_F_b ka_218 kb_218 i (show 0 ≤ fb by omega)
      have Fb_218 := mr_F_b kb_218 ka_218 fb (show 0 ≤ i by omega)
      have el_218 : l0_218 = mr_F0 (mf_cm W (pl - 1) ka p) i (mf_cm W (pl - 1) kb pb) fb ∧ l1_218 = mr_F0 (mf_cm W (pl - 1) kb pb) fb (mf_cm W (pl - 1) ka p) i := by
        rcases p_218_1 with e | e
        · exact ⟨e.1, e.2.1⟩
        · omega
      have ew_218 : (l0_218 / 1000 : Int) = (mr_w (mf_cm W (pl - 1) ka p) i (mf_cm W (pl - 1) kb pb) fb 0 : Int) := by rw [mr_w_0, el_218.1]
      have wb_218 := mr_w_b ka_218 kb_218 (show 0 ≤ i by omega) (show 0 ≤ fb by omega) 0
      have ev : (mk_vb W pl ka pa fa kb pb fb 0) p i = (l0_218 / 1000 : Int) := by rw [ew_218]; exact if_pos rfl
      refine ik_Wk 2 (pc' := 112) (loc' := [some (.ref 17), some (fI 0), some (fI m), some (fI l), some (fI p), some (fI i), some (fI i), some (fI fb)]) (st' := [fI 0, .ref 17]) (h' := h_218) (cl' := 0) (sl' := 0) rfl ?_
      refine ik_Wc 74 2 0 [.ref 17, fI 0] [] rfl rfl rfl (by decide) rfl rfl (fw_rec k_218 rfl g_218_17 rfl (by decide)) ?_
      refine ik_Wk 0 (pc' := 0) (loc' := [some (.ref 17), some (fI 0)]) (st' := []) (h' := h_218) (cl' := 0) (sl' := 0) rfl ?_
      refine ik_Wk 1 (pc' := 1) (loc' := [some (.ref 17), some (fI 0)]) (st' := [.ref 17]) (h' := h_218) (cl' := 0) (sl' := 0) rfl ?_
      refine fw_gf rfl rfl g_218_17 rfl ?_
      refine ik_Wk 1 (pc' := 5) (loc' := [some (.ref 17), some (fI 0)]) (st' := [fI 0, .ref 19]) (h' := h_218) (cl' := 0) (sl' := 0) rfl ?_
      refine fx_lal (z := 0) rfl g_218_19 (by decide) (Nat.le_of_ble_eq_true rfl) (by decide) ?_
      refine ik_Wk 0 (pc' := 6) (loc' := [some (.ref 17), some (fI 0)]) (st' := [fJ l0_218]) (h' := h_218) (cl' := 0) (sl' := 0) rfl ?_
      refine fw_l2 1000 rfl rfl (by decide) ?_
      refine fx_ldiv rfl (by omega) (by omega) (by omega) (by omega) ?_
      refine fx_l2i rfl ?_
      refine ik_Wret rfl rfl ⟨_, _, rfl, rfl, ?_⟩
      refine ik_Wk 0 (pc' := 115) (loc' := [some (.ref 17), some (fI 0), some (fI m), some (fI l), some (fI p), some (fI i), some (fI i), some (fI fb)]) (st' := [fI (l0_218 / 1000)]) (h' := h_218) (cl' := 0) (sl' := 0) rfl ?_
      refine ik_Wk 1 (pc' := 116) (loc' := [some (.ref 17), some (fI 0), some (fI m), some (fI l), some (fI p), some (fI i), some (fI i), some (fI fb)]) (st' := [fI l, fI (l0_218 / 1000)]) (h' := h_218) (cl' := 0) (sl' := 0) rfl ?_
      refine fw_ic_ge rfl rfl (by omega) (by omega) (by omega) (by omega) (fun hc4 => ?_) (fun hc4 => ?_)
      · refine fw_inc (a := i) (loc' := [some (.ref 17), some (fI 0), some (fI m), some (fI l), some (fI p), some (fI (i + 1)), some (fI i), some (fI fb)]) rfl rfl (Nat.le_of_ble_eq_true rfl) rfl ?_
        refine ik_Wk 1 (pc' := 49) (loc' := [some (.ref 17), some (fI 0), some (fI m), some (fI l), some (fI p), some (fI (i + 1)), some (fI i), some (fI fb)]) (st' := []) (h' := h_218) (cl' := 0) (sl' := 0) rfl ?_
        have e1 : (m + 1 - i).toNat = (m + 1 - (i + 1)).toNat + 1 := by omega
        have he2 : X = (mk_bk (mk_vb W pl ka pa fa kb pb fb 0) p (m + 1 - (i + 1)).toNat (i + 1) x y l) := by
          rw [he, e1]
          show (if (mk_vb W pl ka pa fa kb pb fb 0) p i < l then _ else _) = _
          rw [if_neg (by omega)]
        exact ih (i + 1) x y l z0 z1 z2 z3 l0_218 l1_218 l2_218 ub'_218 ua'_218 (some (fI i)) (some (fI fb)) h_218 g_218_7 g_218_11 n11 g_218_12 n12 g_218_13 n13 g_218_15 g_218_17 g_218_18 g_218_19 g_218_20 g_218_21 g_218_33 k_218 fr_218 (by omega) (by omega) (hz.elim (fun w => absurd w (by omega)) Or.inr) he2 rfl rfl (by omega)
      · refine ik_Wk 2 (pc' := 121) (loc' := [some (.ref 17), some (fI 0), some (fI m), some (fI l), some (fI p), some (fI i), some (fI i), some (fI fb)]) (st' := [fI 0, .ref 17]) (h' := h_218) (cl' := 0) (sl' := 0) rfl ?_
        refine ik_Wc 74 2 0 [.ref 17, fI 0] [] rfl rfl rfl (by decide) rfl rfl (fw_rec k_218 rfl g_218_17 rfl (by decide)) ?_
        refine ik_Wk 0 (pc' := 0) (loc' := [some (.ref 17), some (fI 0)]) (st' := []) (h' := h_218) (cl' := 0) (sl' := 0) rfl ?_
        refine ik_Wk 1 (pc' := 1) (loc' := [some (.ref 17), some (fI 0)]) (st' := [.ref 17]) (h' := h_218) (cl' := 0) (sl' := 0) rfl ?_
        refine fw_gf rfl rfl g_218_17 rfl ?_
        refine ik_Wk 1 (pc' := 5) (loc' := [some (.ref 17), some (fI 0)]) (st' := [fI 0, .ref 19]) (h' := h_218) (cl' := 0) (sl' := 0) rfl ?_
        refine fx_lal (z := 0) rfl g_218_19 (by decide) (Nat.le_of_ble_eq_true rfl) (by decide) ?_
        refine ik_Wk 0 (pc' := 6) (loc' := [some (.ref 17), some (fI 0)]) (st' := [fJ l0_218]) (h' := h_218) (cl' := 0) (sl' := 0) rfl ?_
        refine fw_l2 1000 rfl rfl (by decide) ?_
        refine fx_ldiv rfl (by omega) (by omega) (by omega) (by omega) ?_
        refine fx_l2i rfl ?_
        refine ik_Wret rfl rfl ⟨_, _, rfl, rfl, ?_⟩
        refine ik_Wk 0 (pc' := 124) (loc' := [some (.ref 17), some (fI 0), some (fI m), some (fI l), some (fI p), some (fI i), some (fI i), some (fI fb)]) (st' := [fI (l0_218 / 1000)]) (h' := h_218) (cl' := 0) (sl' := 0) rfl ?_
        refine ik_Wk 6 (pc' := 132) (loc' := [some (.ref 17), some (fI 0), some (fI m), some (fI (l0_218 / 1000)), some (fI p), some (fI i), some (fI i), some (fI fb)]) (st' := [fI (-1), fI (l0_218 / 1000), fI i, fI p, .ref 17]) (h' := h_218) (cl' := 0) (sl' := 0) rfl ?_
        refine ik_Wc 88 5 0 [.ref 17, fI p, fI i, fI (l0_218 / 1000), fI (-1)] [] rfl rfl rfl (by decide) rfl rfl (fw_rec k_218 rfl g_218_17 rfl (by decide)) ?_
        refine ik_Wk 0 (pc' := 0) (loc' := [some (.ref 17), some (fI p), some (fI i), some (fI (l0_218 / 1000)), some (fI (-1))]) (st' := []) (h' := h_218) (cl' := 0) (sl' := 0) rfl ?_
        refine ik_Wk 1 (pc' := 1) (loc' := [some (.ref 17), some (fI p), some (fI i), some (fI (l0_218 / 1000)), some (fI (-1))]) (st' := [.ref 17]) (h' := h_218) (cl' := 0) (sl' := 0) rfl ?_
        refine fw_gf rfl rfl g_218_17 rfl ?_
        refine ik_Wk 2 (pc' := 6) (loc' := [some (.ref 17), some (fI p), some (fI i), some (fI (l0_218 / 1000)), some (fI (-1))]) (st' := [fI p, fI 0, .ref 20]) (h' := h_218) (cl' := 0) (sl' := 0) rfl ?_
        refine fx_ias (z := 0) rfl g_218_20 (by decide) (Nat.le_of_ble_eq_true rfl) (by decide) ?_
        intro h_219 e_219 f_219 l_219
        have k_219 := l_219.trans k_218
        have fr_219 := hfr_w fr_218 f_219 l_219 (by decide)
        have g_219_7 := (f_219 7 (by decide)).trans g_218_7
        have g_219_11 := (f_219 11 (by decide)).trans g_218_11
        have g_219_12 := (f_219 12 (by decide)).trans g_218_12
        have g_219_13 := (f_219 13 (by decide)).trans g_218_13
        have g_219_15 := (f_219 15 (by decide)).trans g_218_15
        have g_219_17 := (f_219 17 (by decide)).trans g_218_17
        have g_219_18 := (f_219 18 (by decide)).trans g_218_18
        have g_219_19 := (f_219 19 (by decide)).trans g_218_19
        have g_219_21 := mf_cv_f g_218_21 (f_219 21 (by decide)) (f_219 22 (by decide)) (f_219 23 (by decide)) (f_219 24 (by decide))
        have g_219_33 := mf_cv_f g_218_33 (f_219 33 (by decide)) (f_219 34 (by decide)) (f_219 35 (by decide)) (f_219 36 (by decide))
        have g_219_20 : cE h_219 20 (.inl (.int, fA [p, z1, z2, z3])) := e_219
        refine ik_Wk 1 (pc' := 8) (loc' := [some (.ref 17), some (fI p), some (fI i), some (fI (l0_218 / 1000)), some (fI (-1))]) (st' := [.ref 17]) (h' := h_219) (cl' := 0) (sl' := 0) rfl ?_
        refine fw_gf rfl rfl g_219_17 rfl ?_
        refine ik_Wk 2 (pc' := 13) (loc' := [some (.ref 17), some (fI p), some (fI i), some (fI (l0_218 / 1000)), some (fI (-1))]) (st' := [fI i, fI 1, .ref 20]) (h' := h_219) (cl' := 0) (sl' := 0) rfl ?_
        refine fx_ias (z := 1) rfl g_219_20 (by decide) (Nat.le_of_ble_eq_true rfl) (by decide) ?_
        intro h_220 e_220 f_220 l_220
        have k_220 := l_220.trans k_219
        have fr_220 := hfr_w fr_219 f_220 l_220 (by decide)
        have g_220_7 := (f_220 7 (by decide)).trans g_219_7
        have g_220_11 := (f_220 11 (by decide)).trans g_219_11
        have g_220_12 := (f_220 12 (by decide)).trans g_219_12
        have g_220_13 := (f_220 13 (by decide)).trans g_219_13
        have g_220_15 := (f_220 15 (by decide)).trans g_219_15
        have g_220_17 := (f_220 17 (by decide)).trans g_219_17
        have g_220_18 := (f_220 18 (by decide)).trans g_219_18
        have g_220_19 := (f_220 19 (by decide)).trans g_219_19
        have g_220_21 := mf_cv_f g_219_21 (f_220 21 (by decide)) (f_220 22 (by decide)) (f_220 23 (by decide)) (f_220 24 (by decide))
        have g_220_33 := mf_cv_f g_219_33 (f_220 33 (by decide)) (f_220 34 (by decide)) (f_220 35 (by decide)) (f_220 36 (by decide))
        have g_220_20 : cE h_220 20 (.inl (.int, fA [p, i, z2, z3])) := e_220
        refine ik_Wk 1 (pc' := 15) (loc' := [some (.ref 17), some (fI p), some (fI i), some (fI (l0_218 / 1000)), some (fI (-1))]) (st' := [.ref 17]) (h' := h_220) (cl' := 0) (sl' := 0) rfl ?_
        refine fw_gf rfl rfl g_220_17 rfl ?_
        refine ik_Wk 2 (pc' := 20) (loc' := [some (.ref 17), some (fI p), some (fI i), some (fI (l0_218 / 1000)), some (fI (-1))]) (st' := [fI (l0_218 / 1000), fI 2, .ref 20]) (h' := h_220) (cl' := 0) (sl' := 0) rfl ?_
        refine fx_ias (z := 2) rfl g_220_20 (by decide) (Nat.le_of_ble_eq_true rfl) (by decide) ?_
        intro h_221 e_221 f_221 l_221
        have k_221 := l_221.trans k_220
        have fr_221 := hfr_w fr_220 f_221 l_221 (by decide)
        have g_221_7 := (f_221 7 (by decide)).trans g_220_7
        have g_221_11 := (f_221 11 (by decide)).trans g_220_11
        have g_221_12 := (f_221 12 (by decide)).trans g_220_12
        have g_221_13 := (f_221 13 (by decide)).trans g_220_13
        have g_221_15 := (f_221 15 (by decide)).trans g_220_15
        have g_221_17 := (f_221 17 (by decide)).trans g_220_17
        have g_221_18 := (f_221 18 (by decide)).trans g_220_18
        have g_221_19 := (f_221 19 (by decide)).trans g_220_19
        have g_221_21 := mf_cv_f g_220_21 (f_221 21 (by decide)) (f_221 22 (by decide)) (f_221 23 (by decide)) (f_221 24 (by decide))
        have g_221_33 := mf_cv_f g_220_33 (f_221 33 (by decide)) (f_221 34 (by decide)) (f_221 35 (by decide)) (f_221 36 (by decide))
        have g_221_20 : cE h_221 20 (.inl (.int, fA [p, i, l0_218 / 1000, z3])) := e_221
        refine ik_Wk 1 (pc' := 22) (loc' := [some (.ref 17), some (fI p), some (fI i), some (fI (l0_218 / 1000)), some (fI (-1))]) (st' := [.ref 17]) (h' := h_221) (cl' := 0) (sl' := 0) rfl ?_
        refine fw_gf rfl rfl g_221_17 rfl ?_
        refine ik_Wk 2 (pc' := 28) (loc' := [some (.ref 17), some (fI p), some (fI i), some (fI (l0_218 / 1000)), some (fI (-1))]) (st' := [fI (-1), fI 3, .ref 20]) (h' := h_221) (cl' := 0) (sl' := 0) rfl ?_
        refine fx_ias (z := 3) rfl g_221_20 (by decide) (Nat.le_of_ble_eq_true rfl) (by decide) ?_
        intro h_222 e_222 f_222 l_222
        have k_222 := l_222.trans k_221
        have fr_222 := hfr_w fr_221 f_222 l_222 (by decide)
        have g_222_7 := (f_222 7 (by decide)).trans g_221_7
        have g_222_11 := (f_222 11 (by decide)).trans g_221_11
        have g_222_12 := (f_222 12 (by decide)).trans g_221_12
        have g_222_13 := (f_222 13 (by decide)).trans g_221_13
        have g_222_15 := (f_222 15 (by decide)).trans g_221_15
        have g_222_17 := (f_222 17 (by decide)).trans g_221_17
        have g_222_18 := (f_222 18 (by decide)).trans g_221_18
        have g_222_19 := (f_222 19 (by decide)).trans g_221_19
        have g_222_21 := mf_cv_f g_221_21 (f_222 21 (by decide)) (f_222 22 (by decide)) (f_222 23 (by decide)) (f_222 24 (by decide))
        have g_222_33 := mf_cv_f g_221_33 (f_222 33 (by decide)) (f_222 34 (by decide)) (f_222 35 (by decide)) (f_222 36 (by decide))
        have g_222_20 : cE h_222 20 (.inl (.int, fA [p, i, l0_218 / 1000, -1])) := e_222
        refine ik_Wret rfl rfl ⟨_, _, rfl, rfl, ?_⟩
        refine ik_Wk 0 (pc' := 135) (loc' := [some (.ref 17), some (fI 0), some (fI m), some (fI (l0_218 / 1000)), some (fI p), some (fI i), some (fI i), some (fI fb)]) (st' := []) (h' := h_222) (cl' := 0) (sl' := 0) rfl ?_
        refine fw_inc (a := i) (loc' := [some (.ref 17), some (fI 0), some (fI m), some (fI (l0_218 / 1000)), some (fI p), some (fI (i + 1)), some (fI i), some (fI fb)]) rfl rfl (Nat.le_of_ble_eq_true rfl) rfl ?_
        refine ik_Wk 1 (pc' := 49) (loc' := [some (.ref 17), some (fI 0), some (fI m), some (fI (l0_218 / 1000)), some (fI p), some (fI (i + 1)), some (fI i), some (fI fb)]) (st' := []) (h' := h_222) (cl' := 0) (sl' := 0) rfl ?_
        have e1 : (m + 1 - i).toNat = (m + 1 - (i + 1)).toNat + 1 := by omega
        have he2 : X = (mk_bk (mk_vb W pl ka pa fa kb pb fb 0) p (m + 1 - (i + 1)).toNat (i + 1) p i (l0_218 / 1000)) := by
          rw [he, e1]
          show (if (mk_vb W pl ka pa fa kb pb fb 0) p i < l then _ else _) = _
          rw [if_pos (by omega), ev]
        exact ih (i + 1) p i (l0_218 / 1000) p i (l0_218 / 1000) (-1) l0_218 l1_218 l2_218 ub'_218 ua'_218 (some (fI i)) (some (fI fb)) h_222 g_222_7 g_222_11 n11 g_222_12 n12 g_222_13 n13 g_222_15 g_222_17 g_222_18 g_222_19 g_222_20 g_222_21 g_222_33 k_222 fr_222 (by omega) (by omega) (Or.inr ⟨rfl, rfl, rfl⟩) he2 rfl rfl (by omega)

theorem cs_best0L {h : List ik_E} {pl : Int} {lo : Int} {s : Nat} {m : Int} {ka : Int} {pa : Int} {fa : Int} {kb : Int} {pb : Int} {fb : Int} {bo : Int} {la : Int} {lb : Int} {t0 : Int} {t1 : Int} {t2 : Int} {t3 : Int} {wg : List Int} {wc : List Int} {we : List Int} {W : Int → List (Int × Int)} (q0 : 2 ≤ pl ∧ pl ≤ 12) (q1 : 0 ≤ ka ∧ ka ≤ 2 ∧ 0 ≤ kb ∧ kb ≤ 2) (q2 : 0 ≤ pa ∧ pa < pl - 1) (q3 : 0 ≤ pb ∧ pb < pl - 1) (q4 : 0 ≤ fa ∧ fa ≤ 30 ∧ 0 ≤ fb ∧ fb ≤ 30) (q5 : ∀ x : Int, 0 ≤ x → x < pl - 1 → mx_wy wg wc we x (W x)) (q6 : ∀ x : Int, 0 ≤ x → x < pl - 1 → mx_ok pl (W x)) (q7 : 0 ≤ m ∧ m ≤ 10)  : ∀ (k : Nat) (p : Int) (x : Int) (y : Int) (l : Int) (z0 : Int) (z1 : Int) (z2 : Int) (z3 : Int) (l0 : Int) (l1 : Int) (l2 : Int) (uo : Int) (x5 : Option Value) (x6 : Option Value) (x7 : Option Value) (u : List ik_E) (u7 : cE u 7 (.inr (0, [fI pl, fI ((s : Nat) : Int), fI lo, .ref 8, .ref 9, .ref 10, .ref 11, .ref 12, .ref 13]))) (u11 : cE u 11 (.inl (.int, fA wg))) (n11 : wg.length = 60) (u12 : cE u 12 (.inl (.int, fA wc))) (n12 : wc.length = 60) (u13 : cE u 13 (.inl (.int, fA we))) (n13 : we.length = 12) (u15 : cE u 15 (.inl (.int, fA [ka, pa, fa, kb, pb, fb]))) (u17 : cE u 17 (.inr (8, [.ref 7, .ref 15, .ref 18, .ref 19, fJ l2, .ref 20]))) (u18 : cE u 18 (.inl (.object "SlowerCork$Course", [.ref 21, .ref 25, .ref 29, .ref 33, .ref 37, .ref 41]))) (u19 : cE u 19 (.inl (.long, fL [l0, l1]))) (u20 : cE u 20 (.inl (.int, fA [z0, z1, z2, z3]))) (u21 : mf_cr u 21 ) (u33 : mf_cv u 33 W pl kb pb uo) (ul : u.length = 94) (F : hfr [17, 19, 20, 21, 22, 23, 24, 33, 34, 35, 36] h u) (hp : 0 ≤ p ∧ p ≤ pl - 1) (hl : 0 ≤ l ∧ l ≤ 1000001) (hz : mk_fs (p = 0) x y l z0 z1 z2) (he : (mk_bp (mk_vb W pl ka pa fa kb pb fb 0) (m.toNat + 1) (pl - 1).toNat 0 0 0 1000001) = mk_bp (mk_vb W pl ka pa fa kb pb fb 0) (m.toNat + 1) (pl - 1 - p).toNat p x y l) (w5 : ik_wl 94 x5 = true) (w6 : ik_wl 94 x6 = true) (w7 : ik_wl 94 x7 = true) (hk : pl - p < (k : Int)), ik_G 83 13 [some (.ref 17), some (fI 0), some (fI m), some (fI l), some (fI p), x5, x6, x7] [] u (fun rv h' => ∃ (l0 : Int) (l1 : Int) (l2 : Int) (t' : Int), rv = [] ∧ cE h' 17 (.inr (8, [.ref 7, .ref 15, .ref 18, .ref 19, fJ l2, .ref 20])) ∧ cE h' 19 (.inl (.long, fL [l0, l1])) ∧ cE h' 20 (.inl (.int, fA [(mk_bp (mk_vb W pl ka pa fa kb pb fb 0) (m.toNat + 1) (pl - 1).toNat 0 0 0 1000001).1, (mk_bp (mk_vb W pl ka pa fa kb pb fb 0) (m.toNat + 1) (pl - 1).toNat 0 0 0 1000001).2.1, (mk_bp (mk_vb W pl ka pa fa kb pb fb 0) (m.toNat + 1) (pl - 1).toNat 0 0 0 1000001).2.2, t'])) ∧ mf_cr h' 21  ∧ mf_cr h' 33  ∧ hfr [17, 19, 20, 21, 22, 23, 24, 33, 34, 35, 36] h h') := by
  intro k
  induction k with
  | zero => intro p x y l z0 z1 z2 z3 l0 l1 l2 uo x5 x6 x7 u u7 u11 n11 u12 n12 u13 n13 u15 u17 u18 u19 u20 u21 u33 ul F hp hl hz he w5 w6 w7 hk; omega
  | succ k ih =>
    intro p x y l z0 z1 z2 z3 l0 l1 l2 uo x5 x6 x7 u u7 u11 n11 u12 n12 u13 n13 u15 u17 u18 u19 u20 u21 u33 ul F hp hl hz he w5 w6 w7 hk
    refine ik_Wk 2 (pc' := 16) (loc' := [some (.ref 17), some (fI 0), some (fI m), some (fI l), some (fI p), x5, x6, x7]) (st' := [.ref 17, fI p]) (h' := u) (cl' := 0) (sl' := 0) rfl ?_
    refine fw_gf rfl rfl u17 rfl ?_
    refine ik_Wc 2 1 0 [.ref 7] [fI p] rfl rfl rfl (by decide) rfl rfl (fw_rec ul (fw_ftx rfl (wv_c rfl wv_n) (wl_c rfl (wl_c rfl (wl_c rfl (wl_c rfl (wl_c rfl (wl_c w5 (wl_c w6 (wl_c w7 wl_n))))))))) u7 rfl (by decide)) ?_
    refine ik_Wk 0 (pc' := 0) (loc' := [some (.ref 7)]) (st' := []) (h' := u) (cl' := 0) (sl' := 0) rfl ?_
    refine ik_Wk 1 (pc' := 1) (loc' := [some (.ref 7)]) (st' := [.ref 7]) (h' := u) (cl' := 0) (sl' := 0) rfl ?_
    refine fw_gf rfl rfl u7 rfl ?_
    refine ik_Wk 1 (pc' := 5) (loc' := [some (.ref 7)]) (st' := [fI 1, fI pl]) (h' := u) (cl' := 0) (sl' := 0) rfl ?_
    refine fw_sub rfl ?_
    refine ik_Wret rfl rfl ⟨_, _, rfl, rfl, ?_⟩
    refine ik_Wk 0 (pc' := 22) (loc' := [some (.ref 17), some (fI 0), some (fI m), some (fI l), some (fI p), x5, x6, x7]) (st' := [fI (pl - 1), fI p]) (h' := u) (cl' := 0) (sl' := 0) rfl ?_
    refine fw_ic_ge rfl rfl (by omega) (by omega) (by omega) (by omega) (fun hc1 => ?_) (fun hc1 => ?_)
    · have e0 : (pl - 1 - p).toNat = 0 := by omega
      rw [e0] at he
      have hz2 : z0 = x ∧ z1 = y ∧ z2 = l := hz.elim (fun w => absurd w (by omega)) id
      obtain ⟨ez0, ez1, ez2⟩ := hz2
      subst ez0
      subst ez1
      subst ez2
      rw [he]
      exact ik_Wret rfl rfl ⟨_, _, rfl, rfl, rfl, rfl, ⟨l0, l1, l2, z3, rfl, u17, u19, u20, u21, (mf_cv_r u33), F⟩⟩
    · refine ik_Wk 2 (pc' := 27) (loc' := [some (.ref 17), some (fI 0), some (fI m), some (fI l), some (fI p), x5, x6, x7]) (st' := [fI 0, .ref 17]) (h' := u) (cl' := 0) (sl' := 0) rfl ?_
      refine ik_Wc 77 2 0 [.ref 17, fI 0] [] rfl rfl rfl (by decide) rfl rfl (fw_rec ul (fw_ftx rfl wv_n (wl_c rfl (wl_c rfl (wl_c rfl (wl_c rfl (wl_c rfl (wl_c w5 (wl_c w6 (wl_c w7 wl_n))))))))) u17 rfl (by decide)) ?_
      refine ik_Wk 0 (pc' := 0) (loc' := [some (.ref 17), some (fI 0)]) (st' := []) (h' := u) (cl' := 0) (sl' := 0) rfl ?_
      refine ik_Wk 1 (pc' := 1) (loc' := [some (.ref 17), some (fI 0)]) (st' := [.ref 17]) (h' := u) (cl' := 0) (sl' := 0) rfl ?_
      refine fw_gf rfl rfl u17 rfl ?_
      refine ik_Wk 2 (pc' := 6) (loc' := [some (.ref 17), some (fI 0)]) (st' := [fI 3, fI 0, .ref 18]) (h' := u) (cl' := 0) (sl' := 0) rfl ?_
      refine fw_mul rfl ?_
      refine fx_aal (z := 0) rfl u18 (by decide) (by decide) rfl ?_
      refine ik_Wret rfl rfl ⟨_, _, rfl, rfl, ?_⟩
      refine ik_Wk 0 (pc' := 30) (loc' := [some (.ref 17), some (fI 0), some (fI m), some (fI l), some (fI p), x5, x6, x7]) (st' := [.ref 21]) (h' := u) (cl' := 0) (sl' := 0) rfl ?_
      refine ik_Wk 1 (pc' := 31) (loc' := [some (.ref 17), some (fI 0), some (fI m), some (fI l), some (fI p), x5, x6, x7]) (st' := [.ref 17, .ref 21]) (h' := u) (cl' := 0) (sl' := 0) rfl ?_
      refine fw_gf rfl rfl u17 rfl ?_
      refine ik_Wk 2 (pc' := 36) (loc' := [some (.ref 17), some (fI 0), some (fI m), some (fI l), some (fI p), x5, x6, x7]) (st' := [fI 3, fI 0, .ref 15, .ref 21]) (h' := u) (cl' := 0) (sl' := 0) rfl ?_
      refine fw_mul rfl ?_
      refine ik_Wk 1 (pc' := 38) (loc' := [some (.ref 17), some (fI 0), some (fI m), some (fI l), some (fI p), x5, x6, x7]) (st' := [fI 0, fI 0, .ref 15, .ref 21]) (h' := u) (cl' := 0) (sl' := 0) rfl ?_
      refine fw_add rfl ?_
      refine fw_ial (z := 0) rfl u15 (by decide) (Nat.le_of_ble_eq_true rfl) (by decide) ?_
      refine ik_Wk 0 (pc' := 40) (loc' := [some (.ref 17), some (fI 0), some (fI m), some (fI l), some (fI p), x5, x6, x7]) (st' := [fI ka, .ref 21]) (h' := u) (cl' := 0) (sl' := 0) rfl ?_
      refine ik_Wk 1 (pc' := 42) (loc' := [some (.ref 17), some (fI 0), some (fI m), some (fI l), some (fI p), x5, x6, x7]) (st' := [fI p, fI ka, .ref 21]) (h' := u) (cl' := 0) (sl' := 0) rfl ?_
      refine fw_call 30 3 0 [.ref 21, fI ka, fI p] [] rfl rfl rfl (by decide) rfl rfl (fw_rec ul (fw_ftx rfl wv_n (wl_c rfl (wl_c rfl (wl_c rfl (wl_c rfl (wl_c rfl (wl_c w5 (wl_c w6 (wl_c w7 wl_n))))))))) (mf_cr_o u21).choose_spec rfl (by decide)) (cs_setIn (C := 21) (pl := pl) (lo := lo) (s := s) (kd := ka) (qp := p) (W := W) (by omega) (by omega) (by omega) u7 u21 ul) ?_
      rintro _ h_223 ⟨rfl, e_223_C, F_223⟩
      have k_223 := F_223.1.trans ul
      have fr_223 := hfr_c F F_223 (by decide)
      have g_223_7 := (F_223.2 7 (by decide +kernel)).trans u7
      have g_223_11 := (F_223.2 11 (by decide +kernel)).trans u11
      have g_223_12 := (F_223.2 12 (by decide +kernel)).trans u12
      have g_223_13 := (F_223.2 13 (by decide +kernel)).trans u13
      have g_223_15 := (F_223.2 15 (by decide +kernel)).trans u15
      have g_223_17 := (F_223.2 17 (by decide +kernel)).trans u17
      have g_223_18 := (F_223.2 18 (by decide +kernel)).trans u18
      have g_223_19 := (F_223.2 19 (by decide +kernel)).trans u19
      have g_223_20 := (F_223.2 20 (by decide +kernel)).trans u20
      have g_223_33 := mf_cv_f u33 (F_223.2 33 (by decide)) (F_223.2 34 (by decide)) (F_223.2 35 (by decide)) (F_223.2 36 (by decide))
      have g_223_21 : mf_cv h_223 21 W pl ka p 0 := e_223_C
      refine ik_Wk 0 (pc' := 45) (loc' := [some (.ref 17), some (fI 0), some (fI m), some (fI l), some (fI p), x5, x6, x7]) (st' := [.ref 21]) (h' := h_223) (cl' := 0) (sl' := 0) rfl ?_
      refine ik_Wk 3 (pc' := 49) (loc' := [some (.ref 17), some (fI 0), some (fI m), some (fI l), some (fI p), some (fI 0), x6, x7]) (st' := []) (h' := h_223) (cl' := 0) (sl' := 0) rfl ?_
      refine cs_best0I (pl := pl) (lo := lo) (s := s) (m := m) (ka := ka) (pa := pa) (fa := fa) (kb := kb) (pb := pb) (fb := fb) (bo := bo) (la := la) (lb := lb) (t0 := t0) (t1 := t1) (t2 := t2) (t3 := t3) (wg := wg) (wc := wc) (we := we) (W := W) q0 q1 q2 q3 q4 q5 q6 q7 p (by omega) (mk_bk (mk_vb W pl ka pa fa kb pb fb 0) p (m.toNat + 1) 0 x y l) (R := (fun rv h' => ∃ (l0 : Int) (l1 : Int) (l2 : Int) (t' : Int), rv = [] ∧ cE h' 17 (.inr (8, [.ref 7, .ref 15, .ref 18, .ref 19, fJ l2, .ref 20])) ∧ cE h' 19 (.inl (.long, fL [l0, l1])) ∧ cE h' 20 (.inl (.int, fA [(mk_bp (mk_vb W pl ka pa fa kb pb fb 0) (m.toNat + 1) (pl - 1).toNat 0 0 0 1000001).1, (mk_bp (mk_vb W pl ka pa fa kb pb fb 0) (m.toNat + 1) (pl - 1).toNat 0 0 0 1000001).2.1, (mk_bp (mk_vb W pl ka pa fa kb pb fb 0) (m.toNat + 1) (pl - 1).toNat 0 0 0 1000001).2.2, t'])) ∧ mf_cr h' 21  ∧ mf_cr h' 33  ∧ hfr [17, 19, 20, 21, 22, 23, 24, 33, 34, 35, 36] h h')) (fun h_224 x_224 y_224 l_224 z0_224 z1_224 z2_224 z3_224 l0_224 l1_224 l2_224 uo_224 i2_224 uw_224 x6_224 x7_224 g_224_7 g_224_11 m_224_11 g_224_12 m_224_12 g_224_13 m_224_13 g_224_15 g_224_17 g_224_18 g_224_19 g_224_20 g_224_21 g_224_33 k_224 fr_224 hl_224 hz_224 hX_224 w6_224 w7_224 => ?_) (m.toNat + 2) 0 x y l z0 z1 z2 z3 l0 l1 l2 uo 0 x6 x7 h_223 g_223_7 g_223_11 n11 g_223_12 n12 g_223_13 n13 g_223_15 g_223_17 g_223_18 g_223_19 g_223_20 g_223_21 g_223_33 k_223 fr_223 (by omega) hl (hz.elim (fun w => Or.inl ⟨⟨w.1, rfl⟩, w.2⟩) Or.inr) (by rw [show (m + 1 - 0).toNat = m.toNat + 1 by omega]) w6 w7 (by omega)
      refine fw_inc (a := p) (loc' := [some (.ref 17), some (fI 0), some (fI m), some (fI l_224), some (fI (p + 1)), some (fI i2_224), x6_224, x7_224]) rfl rfl (Nat.le_of_ble_eq_true rfl) rfl ?_
      refine ik_Wk 1 (pc' := 13) (loc' := [some (.ref 17), some (fI 0), some (fI m), some (fI l_224), some (fI (p + 1)), some (fI i2_224), x6_224, x7_224]) (st' := []) (h' := h_224) (cl' := 0) (sl' := 0) rfl ?_
      exact ih  (p + 1) x_224 y_224 l_224 z0_224 z1_224 z2_224 z3_224 l0_224 l1_224 l2_224 uo_224 (some (fI i2_224)) x6_224 x7_224 h_224 g_224_7 g_224_11 m_224_11 g_224_12 m_224_12 g_224_13 m_224_13 g_224_15 g_224_17 g_224_18 g_224_19 g_224_20 (mf_cv_r g_224_21) g_224_33 k_224 fr_224 (by omega) hl_224 (Or.inr hz_224) (by rw [he, show (pl - 1 - p).toNat = (pl - 1 - (p + 1)).toNat + 1 by omega]; show mk_bp (mk_vb W pl ka pa fa kb pb fb 0) (m.toNat + 1) _ (p + 1) _ _ _ = _; rw [hX_224]) rfl w6_224 w7_224 (by omega)

theorem cs_best0 {h : List ik_E} {pl : Int} {lo : Int} {s : Nat} {m : Int} {ka : Int} {pa : Int} {fa : Int} {kb : Int} {pb : Int} {fb : Int} {bo : Int} {la : Int} {lb : Int} {t0 : Int} {t1 : Int} {t2 : Int} {t3 : Int} {wg : List Int} {wc : List Int} {we : List Int} {W : Int → List (Int × Int)} (q0 : 2 ≤ pl ∧ pl ≤ 12) (q1 : 0 ≤ ka ∧ ka ≤ 2 ∧ 0 ≤ kb ∧ kb ≤ 2) (q2 : 0 ≤ pa ∧ pa < pl - 1) (q3 : 0 ≤ pb ∧ pb < pl - 1) (q4 : 0 ≤ fa ∧ fa ≤ 30 ∧ 0 ≤ fb ∧ fb ≤ 30) (q5 : ∀ x : Int, 0 ≤ x → x < pl - 1 → mx_wy wg wc we x (W x)) (q6 : ∀ x : Int, 0 ≤ x → x < pl - 1 → mx_ok pl (W x)) (q7 : 0 ≤ m ∧ m ≤ 10) (h7 : cE h 7 (.inr (0, [fI pl, fI ((s : Nat) : Int), fI lo, .ref 8, .ref 9, .ref 10, .ref 11, .ref 12, .ref 13]))) (h11 : cE h 11 (.inl (.int, fA wg))) (n11 : wg.length = 60) (h12 : cE h 12 (.inl (.int, fA wc))) (n12 : wc.length = 60) (h13 : cE h 13 (.inl (.int, fA we))) (n13 : we.length = 12) (h15 : cE h 15 (.inl (.int, fA [ka, pa, fa, kb, pb, fb]))) (h17 : cE h 17 (.inr (8, [.ref 7, .ref 15, .ref 18, .ref 19, fJ bo, .ref 20]))) (h18 : cE h 18 (.inl (.object "SlowerCork$Course", [.ref 21, .ref 25, .ref 29, .ref 33, .ref 37, .ref 41]))) (h19 : cE h 19 (.inl (.long, fL [la, lb]))) (h20 : cE h 20 (.inl (.int, fA [t0, t1, t2, t3]))) (h21 : mf_cr h 21 ) (h33 : mf_cr h 33 ) (hl : h.length = 94) : ik_F 83 [.ref 17, fI 0, fI m] h (fun rv h' => ∃ (l0 : Int) (l1 : Int) (l2 : Int) (t' : Int), rv = [] ∧ cE h' 17 (.inr (8, [.ref 7, .ref 15, .ref 18, .ref 19, fJ l2, .ref 20])) ∧ cE h' 19 (.inl (.long, fL [l0, l1])) ∧ cE h' 20 (.inl (.int, fA [(mk_bp (mk_vb W pl ka pa fa kb pb fb 0) (m.toNat + 1) (pl - 1).toNat 0 0 0 1000001).1, (mk_bp (mk_vb W pl ka pa fa kb pb fb 0) (m.toNat + 1) (pl - 1).toNat 0 0 0 1000001).2.1, (mk_bp (mk_vb W pl ka pa fa kb pb fb 0) (m.toNat + 1) (pl - 1).toNat 0 0 0 1000001).2.2, t'])) ∧ mf_cr h' 21  ∧ mf_cr h' 33  ∧ hfr [17, 19, 20, 21, 22, 23, 24, 33, 34, 35, 36] h h') := by
  refine ik_Wk 3 (pc' := 3) (loc' := [some (.ref 17), some (fI 0), some (fI m), none, none, none, none, none]) (st' := [fI 0, fI 1, .ref 17]) (h' := h) (cl' := 0) (sl' := 0) rfl ?_
  refine fw_sub rfl ?_
  refine ik_Wc 78 2 0 [.ref 17, fI 1] [] rfl rfl rfl (by decide) rfl rfl (fw_rec hl rfl h17 rfl (by decide)) ?_
  refine ik_Wk 0 (pc' := 0) (loc' := [some (.ref 17), some (fI 1)]) (st' := []) (h' := h) (cl' := 0) (sl' := 0) rfl ?_
  refine ik_Wk 2 (pc' := 2) (loc' := [some (.ref 17), some (fI 1)]) (st' := [fI 1, .ref 17]) (h' := h) (cl' := 0) (sl' := 0) rfl ?_
  refine ik_Wc 77 2 0 [.ref 17, fI 1] [] rfl rfl rfl (by decide) rfl rfl (fw_rec hl rfl h17 rfl (by decide)) ?_
  refine ik_Wk 0 (pc' := 0) (loc' := [some (.ref 17), some (fI 1)]) (st' := []) (h' := h) (cl' := 0) (sl' := 0) rfl ?_
  refine ik_Wk 1 (pc' := 1) (loc' := [some (.ref 17), some (fI 1)]) (st' := [.ref 17]) (h' := h) (cl' := 0) (sl' := 0) rfl ?_
  refine fw_gf rfl rfl h17 rfl ?_
  refine ik_Wk 2 (pc' := 6) (loc' := [some (.ref 17), some (fI 1)]) (st' := [fI 3, fI 1, .ref 18]) (h' := h) (cl' := 0) (sl' := 0) rfl ?_
  refine fw_mul rfl ?_
  refine fx_aal (z := 3) rfl h18 (by decide) (by decide) rfl ?_
  refine ik_Wret rfl rfl ⟨_, _, rfl, rfl, ?_⟩
  refine ik_Wk 0 (pc' := 5) (loc' := [some (.ref 17), some (fI 1)]) (st' := [.ref 33]) (h' := h) (cl' := 0) (sl' := 0) rfl ?_
  refine ik_Wk 1 (pc' := 6) (loc' := [some (.ref 17), some (fI 1)]) (st' := [.ref 17, .ref 33]) (h' := h) (cl' := 0) (sl' := 0) rfl ?_
  refine fw_gf rfl rfl h17 rfl ?_
  refine ik_Wk 2 (pc' := 11) (loc' := [some (.ref 17), some (fI 1)]) (st' := [fI 3, fI 1, .ref 15, .ref 33]) (h' := h) (cl' := 0) (sl' := 0) rfl ?_
  refine fw_mul rfl ?_
  refine ik_Wk 1 (pc' := 13) (loc' := [some (.ref 17), some (fI 1)]) (st' := [fI 0, fI 3, .ref 15, .ref 33]) (h' := h) (cl' := 0) (sl' := 0) rfl ?_
  refine fw_add rfl ?_
  refine fw_ial (z := 3) rfl h15 (by decide) (Nat.le_of_ble_eq_true rfl) (by decide) ?_
  refine ik_Wk 0 (pc' := 15) (loc' := [some (.ref 17), some (fI 1)]) (st' := [fI kb, .ref 33]) (h' := h) (cl' := 0) (sl' := 0) rfl ?_
  refine ik_Wk 1 (pc' := 16) (loc' := [some (.ref 17), some (fI 1)]) (st' := [.ref 17, fI kb, .ref 33]) (h' := h) (cl' := 0) (sl' := 0) rfl ?_
  refine fw_gf rfl rfl h17 rfl ?_
  refine ik_Wk 2 (pc' := 21) (loc' := [some (.ref 17), some (fI 1)]) (st' := [fI 3, fI 1, .ref 15, fI kb, .ref 33]) (h' := h) (cl' := 0) (sl' := 0) rfl ?_
  refine fw_mul rfl ?_
  refine ik_Wk 1 (pc' := 23) (loc' := [some (.ref 17), some (fI 1)]) (st' := [fI 1, fI 3, .ref 15, fI kb, .ref 33]) (h' := h) (cl' := 0) (sl' := 0) rfl ?_
  refine fw_add rfl ?_
  refine fw_ial (z := 4) rfl h15 (by decide) (Nat.le_of_ble_eq_true rfl) (by decide) ?_
  refine ik_Wk 0 (pc' := 25) (loc' := [some (.ref 17), some (fI 1)]) (st' := [fI pb, fI kb, .ref 33]) (h' := h) (cl' := 0) (sl' := 0) rfl ?_
  refine fw_call 30 3 0 [.ref 33, fI kb, fI pb] [] rfl rfl rfl (by decide) rfl rfl (fw_rec hl rfl (mf_cr_o h33).choose_spec rfl (by decide)) (cs_setIn (C := 33) (pl := pl) (lo := lo) (s := s) (kd := kb) (qp := pb) (W := W) (by omega) (by omega) (by omega) h7 h33 hl) ?_
  rintro _ h_225 ⟨rfl, e_225_C, F_225⟩
  have k_225 := F_225.1.trans hl
  have fr_225 := hfr_c (hfr_refl [17, 19, 20, 21, 22, 23, 24, 33, 34, 35, 36] h) F_225 (by decide)
  have g_225_7 := (F_225.2 7 (by decide +kernel)).trans h7
  have g_225_11 := (F_225.2 11 (by decide +kernel)).trans h11
  have g_225_12 := (F_225.2 12 (by decide +kernel)).trans h12
  have g_225_13 := (F_225.2 13 (by decide +kernel)).trans h13
  have g_225_15 := (F_225.2 15 (by decide +kernel)).trans h15
  have g_225_17 := (F_225.2 17 (by decide +kernel)).trans h17
  have g_225_18 := (F_225.2 18 (by decide +kernel)).trans h18
  have g_225_19 := (F_225.2 19 (by decide +kernel)).trans h19
  have g_225_20 := (F_225.2 20 (by decide +kernel)).trans h20
  have g_225_21 := mf_cr_f h21 (F_225.2 21 (by decide)) (F_225.2 22 (by decide)) (F_225.2 23 (by decide)) (F_225.2 24 (by decide))
  have g_225_33 : mf_cv h_225 33 W pl kb pb 0 := e_225_C
  refine ik_Wk 0 (pc' := 28) (loc' := [some (.ref 17), some (fI 1)]) (st' := [.ref 33]) (h' := h_225) (cl' := 0) (sl' := 0) rfl ?_
  refine ik_Wk 1 (pc' := 29) (loc' := [some (.ref 17), some (fI 1)]) (st' := []) (h' := h_225) (cl' := 0) (sl' := 0) rfl ?_
  refine ik_Wret rfl rfl ⟨_, _, rfl, rfl, ?_⟩
  refine ik_Wk 0 (pc' := 7) (loc' := [some (.ref 17), some (fI 0), some (fI m), none, none, none, none, none]) (st' := []) (h' := h_225) (cl' := 0) (sl' := 0) rfl ?_
  refine fw_ld 1000001 rfl rfl (by decide) ?_
  refine ik_Wk 3 (pc' := 13) (loc' := [some (.ref 17), some (fI 0), some (fI m), some (fI 1000001), some (fI 0), none, none, none]) (st' := []) (h' := h_225) (cl' := 0) (sl' := 0) rfl ?_
  exact cs_best0L (pl := pl) (lo := lo) (s := s) (m := m) (ka := ka) (pa := pa) (fa := fa) (kb := kb) (pb := pb) (fb := fb) (bo := bo) (la := la) (lb := lb) (t0 := t0) (t1 := t1) (t2 := t2) (t3 := t3) (wg := wg) (wc := wc) (we := we) (W := W) q0 q1 q2 q3 q4 q5 q6 q7  (pl.toNat + 1) 0 0 0 1000001 t0 t1 t2 t3 la lb bo 0 none none none h_225 g_225_7 g_225_11 n11 g_225_12 n12 g_225_13 n13 g_225_15 g_225_17 g_225_18 g_225_19 g_225_20 g_225_21 g_225_33 k_225 fr_225 (by omega) (by omega) (Or.inl ⟨rfl, rfl, rfl, rfl⟩) (by rw [Int.sub_zero]) rfl rfl rfl (by omega)

end