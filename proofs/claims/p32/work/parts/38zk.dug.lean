noncomputable section
/-! the class: the least digging (written by wip/fx/u13.py) -/
theorem cs_fairDug {h : List ik_E} {pl : Int} {lo : Int} {s : Nat} {ka : Int} {pa : Int} {fa : Int} {kb : Int} {pb : Int} {fb : Int} {bo : Int} {la : Int} {lb : Int} {t0 : Int} {t1 : Int} {t2 : Int} {t3 : Int} {wg : List Int} {wc : List Int} {we : List Int} {cn : List Int} {go : List Int} {ch : List Int} {p : Int} {a : Int} {b : Int} {n : Int} {e : Int} (q0 : 2 ≤ pl ∧ pl ≤ 12) (q1 : 0 ≤ ka ∧ ka ≤ 2 ∧ 0 ≤ kb ∧ kb ≤ 2) (q2 : 0 ≤ pa ∧ pa < pl - 1) (q3 : 0 ≤ pb ∧ pb < pl - 1) (q4 : 0 ≤ fa ∧ fa ≤ 30 ∧ 0 ≤ fb ∧ fb ≤ 30) (q5 : ∀ x : Int, 0 ≤ x → x < pl - 1 → mx_wy wg wc we x (mx_w cn go ch s x)) (q6 : mx_rw pl cn go ch) (q7 : True) (q8 : s < 4096) (q9 : 0 ≤ p ∧ p < pl - 1) (q10 : 0 ≤ a ∧ a < cn.getD p.toNat 0) (q11 : 0 ≤ b ∧ b < cn.getD p.toNat 0) (q12 : ¬ a = b) (q13 : 1 ≤ n ∧ n ≤ 20) (q14 : n < ch.getD (4 * p + a).toNat 0) (q15 : 0 ≤ e ∧ e ≤ 1000000) (h7 : cE h 7 (.inr (0, [fI pl, fI ((s : Nat) : Int), fI lo, .ref 8, .ref 9, .ref 10, .ref 11, .ref 12, .ref 13]))) (h8 : cE h 8 (.inl (.int, fA cn))) (n8 : cn.length = 12) (h9 : cE h 9 (.inl (.int, fA go))) (n9 : go.length = 48) (h10 : cE h 10 (.inl (.int, fA ch))) (n10 : ch.length = 48) (h11 : cE h 11 (.inl (.int, fA wg))) (n11 : wg.length = 60) (h12 : cE h 12 (.inl (.int, fA wc))) (n12 : wc.length = 60) (h13 : cE h 13 (.inl (.int, fA we))) (n13 : we.length = 12) (h15 : cE h 15 (.inl (.int, fA [ka, pa, fa, kb, pb, fb]))) (h17 : cE h 17 (.inr (8, [.ref 7, .ref 15, .ref 18, .ref 19, fJ bo, .ref 20]))) (h18 : cE h 18 (.inl (.object "SlowerCork$Course", [.ref 21, .ref 25, .ref 29, .ref 33, .ref 37, .ref 41]))) (h19 : cE h 19 (.inl (.long, fL [la, lb]))) (h20 : cE h 20 (.inl (.int, fA [t0, t1, t2, t3]))) (h21 : mf_cr h 21 ) (h33 : mf_cr h 33 ) (hl : h.length = 94) : ik_F 87 [.ref 17, fI p, fI a, fI b, fI n, fI e] h (fun rv h' => (∃ (l0 : Int) (l1 : Int) (l2 : Int) (wg' : List Int) (wc' : List Int) (we' : List Int), rv = [fI 1] ∧ cE h' 10 (.inl (.int, fA ch)) ∧ ch.length = 48 ∧ cE h' 11 (.inl (.int, fA wg')) ∧ wg'.length = 60 ∧ cE h' 12 (.inl (.int, fA wc')) ∧ wc'.length = 60 ∧ cE h' 13 (.inl (.int, fA we')) ∧ we'.length = 12 ∧ cE h' 17 (.inr (8, [.ref 7, .ref 15, .ref 18, .ref 19, fJ l2, .ref 20])) ∧ cE h' 19 (.inl (.long, fL [l0, l1])) ∧ mf_cr h' 21  ∧ mf_cr h' 33  ∧ (∀ x : Int, 0 ≤ x → x < pl - 1 → mx_wy wg' wc' we' x (mx_w cn go ch s x)) ∧ (mk_gap cn go (mx_sh ch p a b n) s pl ka pa fa kb pb fb ≤ e) ∧ hfr [10, 11, 12, 13, 17, 19, 21, 22, 23, 24, 33, 34, 35, 36] h h') ∨ (∃ (l0 : Int) (l1 : Int) (l2 : Int) (wg' : List Int) (wc' : List Int) (we' : List Int), rv = [fI 0] ∧ cE h' 10 (.inl (.int, fA ch)) ∧ ch.length = 48 ∧ cE h' 11 (.inl (.int, fA wg')) ∧ wg'.length = 60 ∧ cE h' 12 (.inl (.int, fA wc')) ∧ wc'.length = 60 ∧ cE h' 13 (.inl (.int, fA we')) ∧ we'.length = 12 ∧ cE h' 17 (.inr (8, [.ref 7, .ref 15, .ref 18, .ref 19, fJ l2, .ref 20])) ∧ cE h' 19 (.inl (.long, fL [l0, l1])) ∧ mf_cr h' 21  ∧ mf_cr h' 33  ∧ (∀ x : Int, 0 ≤ x → x < pl - 1 → mx_wy wg' wc' we' x (mx_w cn go ch s x)) ∧ (e < mk_gap cn go (mx_sh ch p a b n) s pl ka pa fa kb pb fb) ∧ hfr [10, 11, 12, 13, 17, 19, 21, 22, 23, 24, 33, 34, 35, 36] h h')) := by
  have hs := mx_rw_sum q6 q9.1 q9.2 q10 q11 q12
  have hr := (q6 p q9.1 q9.2).1
  have rw1 := mx_rw_sh q6 (by omega) q9 q10 q11 q12 n10 (show 0 ≤ n by omega) (by omega)
  have ca := (q6 p q9.1 q9.2).2.1 a q10.1 q10.2
  have cb := (q6 p q9.1 q9.2).2.1 b q11.1 q11.2
  have hc := mx_rw_ch q6 p q9.1 q9.2
  have g1 : (mx_sh ch p a b n).getD (4 * p + b).toNat 0 = ch.getD (4 * p + b).toNat 0 + n := by rw [mx_sh_get (by omega) (by omega), if_pos rfl]
  have g2 : (mx_sh ch p a b n).getD (4 * p + a).toNat 0 = ch.getD (4 * p + a).toNat 0 - n := by rw [mx_sh_get (by omega) (by omega), if_neg (by omega), if_pos rfl]
  refine ik_Wk 1 (pc' := 1) (loc' := [some (.ref 17), some (fI p), some (fI a), some (fI b), some (fI n), some (fI e)]) (st' := [.ref 17]) (h' := h) (cl' := 0) (sl' := 0) rfl ?_
  refine fw_gf rfl rfl h17 rfl ?_
  refine ik_Wk 4 (pc' := 9) (loc' := [some (.ref 17), some (fI p), some (fI a), some (fI b), some (fI n), some (fI e)]) (st' := [fI n, fI b, fI a, fI p, .ref 7]) (h' := h) (cl' := 0) (sl' := 0) rfl ?_
  refine fw_call 16 5 0 [.ref 7, fI p, fI a, fI b, fI n] [] rfl rfl rfl (by decide) rfl rfl (fw_rec hl rfl h7 rfl (by decide)) (cs_shift (p := p) (pl := pl) (lo := lo) (s := s) (cn := cn) (go := go) (ch := ch) (wg := wg) (wc := wc) (we := we) (a := a) (b := b) (n := n) (by omega) (by omega) q8 (by omega) hc.2 hc.1 (by omega) (by omega) (by omega) (by omega) (by omega) (by omega) h7 h8 n8 h9 n9 h10 n10 h11 n11 h12 n12 h13 n13 hl) ?_
  rintro _ h_234 ⟨wg'_234, wc'_234, rfl, e_234_10, m_234_10, e_234_11, m_234_11, e_234_12, m_234_12, e_234_13, m_234_13, p_234_0, p_234_1, p_234_2, F_234⟩
  have k_234 := F_234.1.trans hl
  have fr_234 := hfr_c (hfr_refl [10, 11, 12, 13, 17, 19, 21, 22, 23, 24, 33, 34, 35, 36] h) F_234 (by decide)
  have g_234_7 := (F_234.2 7 (by decide +kernel)).trans h7
  have g_234_8 := (F_234.2 8 (by decide +kernel)).trans h8
  have g_234_9 := (F_234.2 9 (by decide +kernel)).trans h9
  have g_234_15 := (F_234.2 15 (by decide +kernel)).trans h15
  have g_234_17 := (F_234.2 17 (by decide +kernel)).trans h17
  have g_234_18 := (F_234.2 18 (by decide +kernel)).trans h18
  have g_234_19 := (F_234.2 19 (by decide +kernel)).trans h19
  have g_234_20 := (F_234.2 20 (by decide +kernel)).trans h20
  have g_234_21 := mf_cr_f h21 (F_234.2 21 (by decide)) (F_234.2 22 (by decide)) (F_234.2 23 (by decide)) (F_234.2 24 (by decide))
  have g_234_33 := mf_cr_f h33 (F_234.2 33 (by decide)) (F_234.2 34 (by decide)) (F_234.2 35 (by decide)) (F_234.2 36 (by decide))
  have g_234_10 : cE h_234 10 (.inl (.int, fA (mx_sh ch p a b n))) := e_234_10
  have g_234_11 : cE h_234 11 (.inl (.int, fA wg'_234)) := e_234_11
  have g_234_12 : cE h_234 12 (.inl (.int, fA wc'_234)) := e_234_12
  have g_234_13 : cE h_234 13 (.inl (.int, fA (we.set p.toNat (5 * p + ((mx_w cn go (mx_sh ch p a b n) s p).length : Int))))) := e_234_13
  refine ik_Wk 0 (pc' := 12) (loc' := [some (.ref 17), some (fI p), some (fI a), some (fI b), some (fI n), some (fI e)]) (st' := []) (h' := h_234) (cl' := 0) (sl' := 0) rfl ?_
  have wy_234 : ∀ x : Int, 0 ≤ x → x < pl - 1 → mx_wy wg'_234 wc'_234 (we.set p.toNat (5 * p + ((mx_w cn go (mx_sh ch p a b n) s p).length : Int))) x (mx_w cn go (mx_sh ch p a b n) s x) := mx_wy_one (W := (fun x => mx_w cn go ch s x)) (W' := (fun x => mx_w cn go (mx_sh ch p a b n) s x)) q5 (mx_rw_ok q6 _) (by omega) q9 n13 p_234_0 p_234_1 p_234_2 (fun x h0 h1 hx => mx_w_sh (by omega) (by omega) (by omega) n10 (by have := (q6 x h0 h1).1; omega) h0 hx)
  refine ik_Wk 2 (pc' := 15) (loc' := [some (.ref 17), some (fI p), some (fI a), some (fI b), some (fI n), some (fI e)]) (st' := [fI e, .ref 17]) (h' := h_234) (cl' := 0) (sl' := 0) rfl ?_
  refine fw_call 79 2 0 [.ref 17, fI e] [] rfl rfl rfl (by decide) rfl rfl (fw_rec k_234 rfl g_234_17 rfl (by decide)) (cs_raceAsSet (pl := pl) (lo := lo) (s := s) (ka := ka) (pa := pa) (fa := fa) (kb := kb) (pb := pb) (fb := fb) (lim := e) (bo := bo) (la := la) (lb := lb) (wg := wg'_234) (wc := wc'_234) (we := we.set p.toNat (5 * p + ((mx_w cn go (mx_sh ch p a b n) s p).length : Int))) (W := (fun x => mx_w cn go (mx_sh ch p a b n) s x)) (by omega) (by omega) (by omega) (by omega) (by omega) (by omega) wy_234 (mx_rw_ok rw1 _) g_234_7 g_234_11 m_234_11 g_234_12 m_234_12 g_234_13 m_234_13 g_234_15 g_234_17 g_234_18 g_234_19 g_234_21 g_234_33 k_234) ?_
  rintro _ h_235 ⟨l0_235, l1_235, l2_235, rfl, e_235_17, e_235_19, e_235_21, e_235_33, p_235_0, p_235_1, F_235⟩
  have k_235 := F_235.1.trans k_234
  have fr_235 := hfr_c fr_234 F_235 (by decide)
  have g_235_7 := (F_235.2 7 (by decide +kernel)).trans g_234_7
  have g_235_8 := (F_235.2 8 (by decide +kernel)).trans g_234_8
  have g_235_9 := (F_235.2 9 (by decide +kernel)).trans g_234_9
  have g_235_10 := (F_235.2 10 (by decide +kernel)).trans g_234_10
  have g_235_11 := (F_235.2 11 (by decide +kernel)).trans g_234_11
  have g_235_12 := (F_235.2 12 (by decide +kernel)).trans g_234_12
  have g_235_13 := (F_235.2 13 (by decide +kernel)).trans g_234_13
  have g_235_15 := (F_235.2 15 (by decide +kernel)).trans g_234_15
  have g_235_18 := (F_235.2 18 (by decide +kernel)).trans g_234_18
  have g_235_20 := (F_235.2 20 (by decide +kernel)).trans g_234_20
  have g_235_17 : cE h_235 17 (.inr (8, [.ref 7, .ref 15, .ref 18, .ref 19, fJ l2_235, .ref 20])) := e_235_17
  have g_235_19 : cE h_235 19 (.inl (.long, fL [l0_235, l1_235])) := e_235_19
  have g_235_21 : mf_cr h_235 21  := e_235_21
  have g_235_33 : mf_cr h_235 33  := e_235_33
  refine ik_Wk 0 (pc' := 18) (loc' := [some (.ref 17), some (fI p), some (fI a), some (fI b), some (fI n), some (fI e)]) (st' := []) (h' := h_235) (cl' := 0) (sl' := 0) rfl ?_
  have ka_235 := mr_ok_cm (W := (fun x => mx_w cn go (mx_sh ch p a b n) s x)) (k := ka) (mx_rw_ok rw1 _) q2
  have kb_235 := mr_ok_cm (W := (fun x => mx_w cn go (mx_sh ch p a b n) s x)) (k := kb) (mx_rw_ok rw1 _) q3
  have Fa_235 := mr_F_b ka_235 kb_235 fa (show 0 ≤ fb by omega)
  have Fb_235 := mr_F_b kb_235 ka_235 fb (show 0 ≤ fa by omega)
  have hg_235 : mk_gap cn go (mx_sh ch p a b n) s pl ka pa fa kb pb fb = mk_ab (mr_F0 (mf_cm (fun x => mx_w cn go (mx_sh ch p a b n) s x) (pl - 1) ka pa) fa (mf_cm (fun x => mx_w cn go (mx_sh ch p a b n) s x) (pl - 1) kb pb) fb / 1000 - mr_F0 (mf_cm (fun x => mx_w cn go (mx_sh ch p a b n) s x) (pl - 1) kb pb) fb (mf_cm (fun x => mx_w cn go (mx_sh ch p a b n) s x) (pl - 1) ka pa) fa / 1000) := by show mk_ab (mr_w _ _ _ _ 0 - mr_w _ _ _ _ 1) = _; rw [mr_w_0, mr_w_1]
  refine ik_Wk 1 (pc' := 19) (loc' := [some (.ref 17), some (fI p), some (fI a), some (fI b), some (fI n), some (fI e)]) (st' := [.ref 17]) (h' := h_235) (cl' := 0) (sl' := 0) rfl ?_
  refine fw_gf rfl rfl g_235_17 rfl ?_
  refine ik_Wk 4 (pc' := 27) (loc' := [some (.ref 17), some (fI p), some (fI a), some (fI b), some (fI n), some (fI e)]) (st' := [fI n, fI a, fI b, fI p, .ref 7]) (h' := h_235) (cl' := 0) (sl' := 0) rfl ?_
  refine fw_call 16 5 0 [.ref 7, fI p, fI b, fI a, fI n] [] rfl rfl rfl (by decide) rfl rfl (fw_rec k_235 rfl g_235_7 rfl (by decide)) (cs_shift (p := p) (pl := pl) (lo := lo) (s := s) (cn := cn) (go := go) (ch := mx_sh ch p a b n) (wg := wg'_234) (wc := wc'_234) (we := we.set p.toNat (5 * p + ((mx_w cn go (mx_sh ch p a b n) s p).length : Int))) (a := b) (b := a) (n := n) (by omega) (by omega) q8 (by omega) (mx_sh_b hc.2 q10 q11 (by omega) (by omega) (by omega)) hc.1 (by omega) (by omega) (by omega) (by omega) (by omega) (by omega) g_235_7 g_235_8 n8 g_235_9 n9 g_235_10 m_234_10 g_235_11 m_234_11 g_235_12 m_234_12 g_235_13 m_234_13 k_235) ?_
  rintro _ h_236 ⟨wg'_236, wc'_236, rfl, e_236_10, m_236_10, e_236_11, m_236_11, e_236_12, m_236_12, e_236_13, m_236_13, p_236_0, p_236_1, p_236_2, F_236⟩
  have k_236 := F_236.1.trans k_235
  have fr_236 := hfr_c fr_235 F_236 (by decide)
  have g_236_7 := (F_236.2 7 (by decide +kernel)).trans g_235_7
  have g_236_8 := (F_236.2 8 (by decide +kernel)).trans g_235_8
  have g_236_9 := (F_236.2 9 (by decide +kernel)).trans g_235_9
  have g_236_15 := (F_236.2 15 (by decide +kernel)).trans g_235_15
  have g_236_17 := (F_236.2 17 (by decide +kernel)).trans g_235_17
  have g_236_18 := (F_236.2 18 (by decide +kernel)).trans g_235_18
  have g_236_19 := (F_236.2 19 (by decide +kernel)).trans g_235_19
  have g_236_20 := (F_236.2 20 (by decide +kernel)).trans g_235_20
  have g_236_21 := mf_cr_f g_235_21 (F_236.2 21 (by decide)) (F_236.2 22 (by decide)) (F_236.2 23 (by decide)) (F_236.2 24 (by decide))
  have g_236_33 := mf_cr_f g_235_33 (F_236.2 33 (by decide)) (F_236.2 34 (by decide)) (F_236.2 35 (by decide)) (F_236.2 36 (by decide))
  have g_236_10 : cE h_236 10 (.inl (.int, fA (mx_sh (mx_sh ch p a b n) p b a n))) := e_236_10
  have g_236_11 : cE h_236 11 (.inl (.int, fA wg'_236)) := e_236_11
  have g_236_12 : cE h_236 12 (.inl (.int, fA wc'_236)) := e_236_12
  have g_236_13 : cE h_236 13 (.inl (.int, fA ((we.set p.toNat (5 * p + ((mx_w cn go (mx_sh ch p a b n) s p).length : Int))).set p.toNat (5 * p + ((mx_w cn go (mx_sh (mx_sh ch p a b n) p b a n) s p).length : Int))))) := e_236_13
  refine ik_Wk 0 (pc' := 30) (loc' := [some (.ref 17), some (fI p), some (fI a), some (fI b), some (fI n), some (fI e)]) (st' := []) (h' := h_236) (cl' := 0) (sl' := 0) rfl ?_
  have eb := mx_sh_2 (n := n) (ch := ch) (p := p) (a := a) (b := b) (by omega) (by omega) (by omega) q12 n10
  rw [eb] at g_236_10 g_236_13 p_236_0
  have hl1 : ((we.set p.toNat (5 * p + ((mx_w cn go (mx_sh ch p a b n) s p).length : Int))).set p.toNat (5 * p + ((mx_w cn go ch s p).length : Int))).length = 12 := by rw [List.length_set]; exact m_234_13
  have wy_236 : ∀ x : Int, 0 ≤ x → x < pl - 1 → mx_wy wg'_236 wc'_236 ((we.set p.toNat (5 * p + ((mx_w cn go (mx_sh ch p a b n) s p).length : Int))).set p.toNat (5 * p + ((mx_w cn go ch s p).length : Int))) x (mx_w cn go ch s x) := mx_wy_one (W := (fun x => mx_w cn go (mx_sh ch p a b n) s x)) (W' := (fun x => mx_w cn go ch s x)) wy_234 (mx_rw_ok rw1 _) (by omega) q9 m_234_13 p_236_0 p_236_1 p_236_2 (fun x h0 h1 hx => (mx_w_sh (by omega) (by omega) (by omega) n10 (by have := (q6 x h0 h1).1; omega) h0 hx).symm)
  refine ik_Wk 1 (pc' := 31) (loc' := [some (.ref 17), some (fI p), some (fI a), some (fI b), some (fI n), some (fI e)]) (st' := [.ref 17]) (h' := h_236) (cl' := 0) (sl' := 0) rfl ?_
  refine ik_Wc 76 1 0 [.ref 17] [] rfl rfl rfl (by decide) rfl rfl (fw_rec k_236 rfl g_236_17 rfl (by decide)) ?_
  refine ik_Wk 0 (pc' := 0) (loc' := [some (.ref 17)]) (st' := []) (h' := h_236) (cl' := 0) (sl' := 0) rfl ?_
  refine ik_Wk 2 (pc' := 2) (loc' := [some (.ref 17)]) (st' := [fI 0, .ref 17]) (h' := h_236) (cl' := 0) (sl' := 0) rfl ?_
  refine ik_Wc 74 2 0 [.ref 17, fI 0] [] rfl rfl rfl (by decide) rfl rfl (fw_rec k_236 rfl g_236_17 rfl (by decide)) ?_
  refine ik_Wk 0 (pc' := 0) (loc' := [some (.ref 17), some (fI 0)]) (st' := []) (h' := h_236) (cl' := 0) (sl' := 0) rfl ?_
  refine ik_Wk 1 (pc' := 1) (loc' := [some (.ref 17), some (fI 0)]) (st' := [.ref 17]) (h' := h_236) (cl' := 0) (sl' := 0) rfl ?_
  refine fw_gf rfl rfl g_236_17 rfl ?_
  refine ik_Wk 1 (pc' := 5) (loc' := [some (.ref 17), some (fI 0)]) (st' := [fI 0, .ref 19]) (h' := h_236) (cl' := 0) (sl' := 0) rfl ?_
  refine fx_lal (z := 0) rfl g_236_19 (by decide) (Nat.le_of_ble_eq_true rfl) (by decide) ?_
  refine ik_Wk 0 (pc' := 6) (loc' := [some (.ref 17), some (fI 0)]) (st' := [fJ l0_235]) (h' := h_236) (cl' := 0) (sl' := 0) rfl ?_
  refine fw_l2 1000 rfl rfl (by decide) ?_
  refine fx_ldiv rfl (by omega) (by omega) (by omega) (by omega) ?_
  refine fx_l2i rfl ?_
  refine ik_Wret rfl rfl ⟨_, _, rfl, rfl, ?_⟩
  refine ik_Wk 0 (pc' := 5) (loc' := [some (.ref 17)]) (st' := [fI (l0_235 / 1000)]) (h' := h_236) (cl' := 0) (sl' := 0) rfl ?_
  refine ik_Wk 2 (pc' := 7) (loc' := [some (.ref 17)]) (st' := [fI 1, .ref 17, fI (l0_235 / 1000)]) (h' := h_236) (cl' := 0) (sl' := 0) rfl ?_
  refine ik_Wc 74 2 0 [.ref 17, fI 1] [fI (l0_235 / 1000)] rfl rfl rfl (by decide) rfl rfl (fw_rec k_236 rfl g_236_17 rfl (by decide)) ?_
  refine ik_Wk 0 (pc' := 0) (loc' := [some (.ref 17), some (fI 1)]) (st' := []) (h' := h_236) (cl' := 0) (sl' := 0) rfl ?_
  refine ik_Wk 1 (pc' := 1) (loc' := [some (.ref 17), some (fI 1)]) (st' := [.ref 17]) (h' := h_236) (cl' := 0) (sl' := 0) rfl ?_
  refine fw_gf rfl rfl g_236_17 rfl ?_
  refine ik_Wk 1 (pc' := 5) (loc' := [some (.ref 17), some (fI 1)]) (st' := [fI 1, .ref 19]) (h' := h_236) (cl' := 0) (sl' := 0) rfl ?_
  refine fx_lal (z := 1) rfl g_236_19 (by decide) (Nat.le_of_ble_eq_true rfl) (by decide) ?_
  refine ik_Wk 0 (pc' := 6) (loc' := [some (.ref 17), some (fI 1)]) (st' := [fJ l1_235]) (h' := h_236) (cl' := 0) (sl' := 0) rfl ?_
  refine fw_l2 1000 rfl rfl (by decide) ?_
  refine fx_ldiv rfl (by omega) (by omega) (by omega) (by omega) ?_
  refine fx_l2i rfl ?_
  refine ik_Wret rfl rfl ⟨_, _, rfl, rfl, ?_⟩
  refine ik_Wk 0 (pc' := 10) (loc' := [some (.ref 17)]) (st' := [fI (l1_235 / 1000), fI (l0_235 / 1000)]) (h' := h_236) (cl' := 0) (sl' := 0) rfl ?_
  refine fw_sub rfl ?_
  refine fx_ab rfl rfl rfl ⟨Nat.le_of_ble_eq_true rfl, Nat.le_of_ble_eq_true rfl, Nat.le_of_ble_eq_true rfl⟩ (by omega) (by omega) ?_
  intro mm2 qmm2
  refine ik_Wret rfl rfl ⟨_, _, rfl, rfl, ?_⟩
  refine ik_Wk 0 (pc' := 34) (loc' := [some (.ref 17), some (fI p), some (fI a), some (fI b), some (fI n), some (fI e)]) (st' := [fI mm2]) (h' := h_236) (cl' := 0) (sl' := 0) rfl ?_
  refine ik_Wk 1 (pc' := 36) (loc' := [some (.ref 17), some (fI p), some (fI a), some (fI b), some (fI n), some (fI e)]) (st' := [fI e, fI mm2]) (h' := h_236) (cl' := 0) (sl' := 0) rfl ?_
  refine fw_ic_gt rfl rfl (by omega) (by omega) (by omega) (by omega) (fun hc3 => ?_) (fun hc3 => ?_)
  · refine ik_Wk 1 (pc' := 44) (loc' := [some (.ref 17), some (fI p), some (fI a), some (fI b), some (fI n), some (fI e)]) (st' := [fI 0]) (h' := h_236) (cl' := 0) (sl' := 0) rfl ?_
    exact ik_Wret rfl rfl ⟨_, _, rfl, rfl, rfl, rfl, Or.inr ⟨l0_235, l1_235, l2_235, wg'_236, wc'_236, ((we.set p.toNat (5 * p + ((mx_w cn go (mx_sh ch p a b n) s p).length : Int))).set p.toNat (5 * p + ((mx_w cn go ch s p).length : Int))), rfl, g_236_10, n10, g_236_11, m_236_11, g_236_12, m_236_12, g_236_13, hl1, g_236_17, g_236_19, g_236_21, g_236_33, wy_236, (by rw [hg_235]; unfold mk_ab; split <;> omega), fr_236⟩⟩
  · refine ik_Wk 2 (pc' := 44) (loc' := [some (.ref 17), some (fI p), some (fI a), some (fI b), some (fI n), some (fI e)]) (st' := [fI 1]) (h' := h_236) (cl' := 0) (sl' := 0) rfl ?_
    exact ik_Wret rfl rfl ⟨_, _, rfl, rfl, rfl, rfl, Or.inl ⟨l0_235, l1_235, l2_235, wg'_236, wc'_236, ((we.set p.toNat (5 * p + ((mx_w cn go (mx_sh ch p a b n) s p).length : Int))).set p.toNat (5 * p + ((mx_w cn go ch s p).length : Int))), rfl, g_236_10, n10, g_236_11, m_236_11, g_236_12, m_236_12, g_236_13, hl1, g_236_17, g_236_19, g_236_21, g_236_33, wy_236, (by rw [hg_235]; unfold mk_ab; split <;> omega), fr_236⟩⟩

end