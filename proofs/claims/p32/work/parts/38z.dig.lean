noncomputable section
/-! stones and digging: turnStone, shift (written by wip/fx/u6.py) -/
theorem mx_xor_lt {s p : Nat} (hs : s < 4096) (hp : p < 12) : s ^^^ 1 <<< p < 4096 := by
  have h1 : 1 <<< p < 2 ^ 12 := by
    rw [Nat.shiftLeft_eq, Nat.one_mul]
    exact Nat.pow_lt_pow_right (by decide) hp
  exact Nat.xor_lt_two_pow (n := 12) hs h1
def mx_sh (ch : List Int) (p a b n : Int) : List Int := (ch.set (4 * p + a).toNat (ch.getD (4 * p + a).toNat 0 - n)).set (4 * p + b).toNat (ch.getD (4 * p + b).toNat 0 + n)
theorem mx_sh_len (ch : List Int) (p a b n : Int) : (mx_sh ch p a b n).length = ch.length := by unfold mx_sh; rw [List.length_set, List.length_set]
theorem mx_sh_b {ch : List Int} {p a b n c : Int} (hc : ∀ j : Int, 4 * p ≤ j → j < 4 * p + c → 0 ≤ ch.getD j.toNat 0 ∧ ch.getD j.toNat 0 ≤ 100) (ha : 0 ≤ a ∧ a < c) (hb : 0 ≤ b ∧ b < c) (h1 : 0 ≤ ch.getD (4 * p + a).toNat 0 - n) (h0 : 0 ≤ n) (h2 : ch.getD (4 * p + b).toNat 0 + n ≤ 100) : ∀ j : Int, 4 * p ≤ j → j < 4 * p + c → 0 ≤ (mx_sh ch p a b n).getD j.toNat 0 ∧ (mx_sh ch p a b n).getD j.toNat 0 ≤ 100 := by
  intro j j0 j1
  unfold mx_sh
  have e1 := hc j j0 j1
  have e2 := hc (4 * p + a) (by omega) (by omega)
  have e3 := hc (4 * p + b) (by omega) (by omega)
  rw [fz_getD_set]
  split
  · omega
  · rw [fz_getD_set]
    split
    · omega
    · exact e1
theorem cs_turn {h : List ik_E} {p : Int} {pl : Int} {lo : Int} {s : Nat} {cn : List Int} {go : List Int} {ch : List Int} {wg : List Int} {wc : List Int} {we : List Int} (q0 : 0 ≤ p) (q1 : p < 12) (q2 : s < 4096) (q3 : 0 ≤ cn.getD p.toNat 0 ∧ cn.getD p.toNat 0 ≤ 4) (q4 : ∀ j : Int, 4 * p ≤ j → j < 4 * p + cn.getD p.toNat 0 → 0 ≤ ch.getD j.toNat 0 ∧ ch.getD j.toNat 0 ≤ 100) (q5 : 1 ≤ cn.getD p.toNat 0) (h7 : cE h 7 (.inr (0, [fI pl, fI ((s : Nat) : Int), fI lo, .ref 8, .ref 9, .ref 10, .ref 11, .ref 12, .ref 13]))) (h8 : cE h 8 (.inl (.int, fA cn))) (n8 : cn.length = 12) (h9 : cE h 9 (.inl (.int, fA go))) (n9 : go.length = 48) (h10 : cE h 10 (.inl (.int, fA ch))) (n10 : ch.length = 48) (h11 : cE h 11 (.inl (.int, fA wg))) (n11 : wg.length = 60) (h12 : cE h 12 (.inl (.int, fA wc))) (n12 : wc.length = 60) (h13 : cE h 13 (.inl (.int, fA we))) (n13 : we.length = 12) (hl : h.length = 94) : ik_F 14 [.ref 7, fI p] h (fun rv h' => ∃ (wg' : List Int) (wc' : List Int), rv = [] ∧ cE h' 7 (.inr (0, [fI pl, fI ((s ^^^ 1 <<< p.toNat : Nat) : Int), fI lo, .ref 8, .ref 9, .ref 10, .ref 11, .ref 12, .ref 13])) ∧ cE h' 11 (.inl (.int, fA wg')) ∧ wg'.length = 60 ∧ cE h' 12 (.inl (.int, fA wc')) ∧ wc'.length = 60 ∧ cE h' 13 (.inl (.int, fA (we.set p.toNat (5 * p + ((mx_w cn go ch (s ^^^ 1 <<< p.toNat) p).length : Int))))) ∧ (we.set p.toNat (5 * p + ((mx_w cn go ch (s ^^^ 1 <<< p.toNat) p).length : Int))).length = 12 ∧ (mx_at (5 * p.toNat) (mx_w cn go ch (s ^^^ 1 <<< p.toNat) p) wg' wc' (mx_w cn go ch (s ^^^ 1 <<< p.toNat) p).length) ∧ (mx_out (5 * p.toNat) (5 * p.toNat + 5) wg wg') ∧ (mx_out (5 * p.toNat) (5 * p.toNat + 5) wc wc') ∧ hfr [7, 11, 12, 13] h h') := by
  refine ik_Wk 2 (pc' := 2) (loc' := [some (.ref 7), some (fI p)]) (st' := [.ref 7, .ref 7]) (h' := h) (cl' := 0) (sl' := 0) rfl ?_
  refine fw_gf rfl rfl h7 rfl ?_
  refine ik_Wk 2 (pc' := 7) (loc' := [some (.ref 7), some (fI p)]) (st' := [fI p, fI 1, fI ((s : Nat) : Int), .ref 7]) (h' := h) (cl' := 0) (sl' := 0) rfl ?_
  refine fx_shl rfl (by omega) (by omega) ?_
  refine fx_xor (m := s) (n := 1 <<< p.toNat) rfl ?_
  refine fx_pf rfl rfl h7 (Nat.le_of_ble_eq_true rfl) rfl rfl ?_
  intro h_101 e_101 f_101 l_101
  have k_101 := l_101.trans hl
  have fr_101 := hfr_w (hfr_refl [7, 11, 12, 13] h) f_101 l_101 (by decide)
  have g_101_8 := (f_101 8 (by decide)).trans h8
  have g_101_9 := (f_101 9 (by decide)).trans h9
  have g_101_10 := (f_101 10 (by decide)).trans h10
  have g_101_11 := (f_101 11 (by decide)).trans h11
  have g_101_12 := (f_101 12 (by decide)).trans h12
  have g_101_13 := (f_101 13 (by decide)).trans h13
  have g_101_7 : cE h_101 7 (.inr (0, [fI pl, fI ((s ^^^ (1 <<< p.toNat) : Nat) : Int), fI lo, .ref 8, .ref 9, .ref 10, .ref 11, .ref 12, .ref 13])) := e_101
  refine ik_Wk 2 (pc' := 14) (loc' := [some (.ref 7), some (fI p)]) (st' := [fI p, .ref 7]) (h' := h_101) (cl' := 0) (sl' := 0) rfl ?_
  refine fw_call 12 2 0 [.ref 7, fI p] [] rfl rfl rfl (by decide) rfl rfl (fw_rec k_101 rfl g_101_7 rfl (by decide)) (cs_settle (p := p) (pl := pl) (lo := lo) (s := s ^^^ (1 <<< p.toNat)) (cn := cn) (go := go) (ch := ch) (wg := wg) (wc := wc) (we := we) (by omega) (by omega) (mx_xor_lt q2 (by omega)) q3 q4 (fun _ => q5) g_101_7 g_101_8 n8 g_101_9 n9 g_101_10 n10 g_101_11 n11 g_101_12 n12 g_101_13 n13 k_101) ?_
  rintro _ h_102 ⟨wg'_102, wc'_102, rfl, e_102_11, m_102_11, e_102_12, m_102_12, e_102_13, m_102_13, p_102_0, p_102_1, p_102_2, F_102⟩
  have k_102 := F_102.1.trans k_101
  have fr_102 := hfr_c fr_101 F_102 (by decide)
  have g_102_7 := (F_102.2 7 (by decide +kernel)).trans g_101_7
  have g_102_8 := (F_102.2 8 (by decide +kernel)).trans g_101_8
  have g_102_9 := (F_102.2 9 (by decide +kernel)).trans g_101_9
  have g_102_10 := (F_102.2 10 (by decide +kernel)).trans g_101_10
  have g_102_11 : cE h_102 11 (.inl (.int, fA wg'_102)) := e_102_11
  have g_102_12 : cE h_102 12 (.inl (.int, fA wc'_102)) := e_102_12
  have g_102_13 : cE h_102 13 (.inl (.int, fA (we.set p.toNat (5 * p + ((mx_w cn go ch (s ^^^ (1 <<< p.toNat)) p).length : Int))))) := e_102_13
  refine ik_Wk 0 (pc' := 17) (loc' := [some (.ref 7), some (fI p)]) (st' := []) (h' := h_102) (cl' := 0) (sl' := 0) rfl ?_
  exact ik_Wret rfl rfl ⟨_, _, rfl, rfl, rfl, rfl, ⟨wg'_102, wc'_102, rfl, g_102_7, g_102_11, m_102_11, g_102_12, m_102_12, g_102_13, m_102_13, p_102_0, p_102_1, p_102_2, fr_102⟩⟩

theorem cs_shift {h : List ik_E} {p : Int} {pl : Int} {lo : Int} {s : Nat} {cn : List Int} {go : List Int} {ch : List Int} {wg : List Int} {wc : List Int} {we : List Int} {a : Int} {b : Int} {n : Int} (q0 : 0 ≤ p) (q1 : p < 12) (q2 : s < 4096) (q3 : 0 ≤ cn.getD p.toNat 0 ∧ cn.getD p.toNat 0 ≤ 4) (q4 : ∀ j : Int, 4 * p ≤ j → j < 4 * p + cn.getD p.toNat 0 → 0 ≤ ch.getD j.toNat 0 ∧ ch.getD j.toNat 0 ≤ 100) (q5 : 1 ≤ cn.getD p.toNat 0) (q6 : 0 ≤ a ∧ a < cn.getD p.toNat 0) (q7 : 0 ≤ b ∧ b < cn.getD p.toNat 0) (q8 : ¬ a = b) (q9 : 0 ≤ n ∧ n ≤ 99) (q10 : 0 ≤ ch.getD (4 * p + a).toNat 0 - n) (q11 : ch.getD (4 * p + b).toNat 0 + n ≤ 100) (h7 : cE h 7 (.inr (0, [fI pl, fI ((s : Nat) : Int), fI lo, .ref 8, .ref 9, .ref 10, .ref 11, .ref 12, .ref 13]))) (h8 : cE h 8 (.inl (.int, fA cn))) (n8 : cn.length = 12) (h9 : cE h 9 (.inl (.int, fA go))) (n9 : go.length = 48) (h10 : cE h 10 (.inl (.int, fA ch))) (n10 : ch.length = 48) (h11 : cE h 11 (.inl (.int, fA wg))) (n11 : wg.length = 60) (h12 : cE h 12 (.inl (.int, fA wc))) (n12 : wc.length = 60) (h13 : cE h 13 (.inl (.int, fA we))) (n13 : we.length = 12) (hl : h.length = 94) : ik_F 16 [.ref 7, fI p, fI a, fI b, fI n] h (fun rv h' => ∃ (wg' : List Int) (wc' : List Int), rv = [] ∧ cE h' 10 (.inl (.int, fA (mx_sh ch p a b n))) ∧ (mx_sh ch p a b n).length = 48 ∧ cE h' 11 (.inl (.int, fA wg')) ∧ wg'.length = 60 ∧ cE h' 12 (.inl (.int, fA wc')) ∧ wc'.length = 60 ∧ cE h' 13 (.inl (.int, fA (we.set p.toNat (5 * p + ((mx_w cn go (mx_sh ch p a b n) s p).length : Int))))) ∧ (we.set p.toNat (5 * p + ((mx_w cn go (mx_sh ch p a b n) s p).length : Int))).length = 12 ∧ (mx_at (5 * p.toNat) (mx_w cn go (mx_sh ch p a b n) s p) wg' wc' (mx_w cn go (mx_sh ch p a b n) s p).length) ∧ (mx_out (5 * p.toNat) (5 * p.toNat + 5) wg wg') ∧ (mx_out (5 * p.toNat) (5 * p.toNat + 5) wc wc') ∧ hfr [10, 11, 12, 13] h h') := by
  refine ik_Wk 1 (pc' := 1) (loc' := [some (.ref 7), some (fI p), some (fI a), some (fI b), some (fI n)]) (st' := [.ref 7]) (h' := h) (cl' := 0) (sl' := 0) rfl ?_
  refine fw_gf rfl rfl h7 rfl ?_
  refine ik_Wk 2 (pc' := 6) (loc' := [some (.ref 7), some (fI p), some (fI a), some (fI b), some (fI n)]) (st' := [fI 4, fI p, .ref 10]) (h' := h) (cl' := 0) (sl' := 0) rfl ?_
  refine fx_mulc rfl ?_
  refine ik_Wk 1 (pc' := 8) (loc' := [some (.ref 7), some (fI p), some (fI a), some (fI b), some (fI n)]) (st' := [fI a, fI (4 * p), .ref 10]) (h' := h) (cl' := 0) (sl' := 0) rfl ?_
  refine fw_add rfl ?_
  refine ik_Wk 1 (pc' := 10) (loc' := [some (.ref 7), some (fI p), some (fI a), some (fI b), some (fI n)]) (st' := [fI ((4 * p) + a), .ref 10, fI ((4 * p) + a), .ref 10]) (h' := h) (cl' := 0) (sl' := 0) rfl ?_
  refine fw_ial rfl h10 (by omega) (by omega) (by omega) ?_
  have hd1 := q4 ((4 * p) + a) (by omega) (by omega)
  refine ik_Wk 1 (pc' := 13) (loc' := [some (.ref 7), some (fI p), some (fI a), some (fI b), some (fI n)]) (st' := [fI n, fI (ch.getD ((4 * p) + a).toNat 0), fI ((4 * p) + a), .ref 10]) (h' := h) (cl' := 0) (sl' := 0) rfl ?_
  refine fw_sub rfl ?_
  have hl2 : (ch.set ((4 * p) + a).toNat ((ch.getD ((4 * p) + a).toNat 0) - n)).length = 48 := (List.length_set ..).trans n10
  refine fx_ias rfl h10 (by omega) (by omega) (by omega) ?_
  intro h_103 e_103 f_103 l_103
  have k_103 := l_103.trans hl
  have fr_103 := hfr_w (hfr_refl [10, 11, 12, 13] h) f_103 l_103 (by decide)
  have g_103_7 := (f_103 7 (by decide)).trans h7
  have g_103_8 := (f_103 8 (by decide)).trans h8
  have g_103_9 := (f_103 9 (by decide)).trans h9
  have g_103_11 := (f_103 11 (by decide)).trans h11
  have g_103_12 := (f_103 12 (by decide)).trans h12
  have g_103_13 := (f_103 13 (by decide)).trans h13
  have g_103_10 : cE h_103 10 (.inl (.int, fA (ch.set ((4 * p) + a).toNat ((ch.getD ((4 * p) + a).toNat 0) - n)))) := e_103
  refine ik_Wk 1 (pc' := 16) (loc' := [some (.ref 7), some (fI p), some (fI a), some (fI b), some (fI n)]) (st' := [.ref 7]) (h' := h_103) (cl' := 0) (sl' := 0) rfl ?_
  refine fw_gf rfl rfl g_103_7 rfl ?_
  refine ik_Wk 2 (pc' := 21) (loc' := [some (.ref 7), some (fI p), some (fI a), some (fI b), some (fI n)]) (st' := [fI 4, fI p, .ref 10]) (h' := h_103) (cl' := 0) (sl' := 0) rfl ?_
  refine fx_mulc rfl ?_
  refine ik_Wk 1 (pc' := 23) (loc' := [some (.ref 7), some (fI p), some (fI a), some (fI b), some (fI n)]) (st' := [fI b, fI (4 * p), .ref 10]) (h' := h_103) (cl' := 0) (sl' := 0) rfl ?_
  refine fw_add rfl ?_
  refine ik_Wk 1 (pc' := 25) (loc' := [some (.ref 7), some (fI p), some (fI a), some (fI b), some (fI n)]) (st' := [fI ((4 * p) + b), .ref 10, fI ((4 * p) + b), .ref 10]) (h' := h_103) (cl' := 0) (sl' := 0) rfl ?_
  refine fw_ial rfl g_103_10 (by omega) (by omega) (by omega) ?_
  have hd3 := q4 ((4 * p) + b) (by omega) (by omega)
  rw [show (ch.set ((4 * p) + a).toNat ((ch.getD ((4 * p) + a).toNat 0) - n)).getD ((4 * p) + b).toNat 0 = ch.getD ((4 * p) + b).toNat 0 from by rw [fz_getD_set, if_neg (by omega)]]
  refine ik_Wk 1 (pc' := 28) (loc' := [some (.ref 7), some (fI p), some (fI a), some (fI b), some (fI n)]) (st' := [fI n, fI (ch.getD ((4 * p) + b).toNat 0), fI ((4 * p) + b), .ref 10]) (h' := h_103) (cl' := 0) (sl' := 0) rfl ?_
  refine fw_add rfl ?_
  have hl4 : ((ch.set ((4 * p) + a).toNat ((ch.getD ((4 * p) + a).toNat 0) - n)).set ((4 * p) + b).toNat ((ch.getD ((4 * p) + b).toNat 0) + n)).length = 48 := (List.length_set ..).trans hl2
  refine fx_ias rfl g_103_10 (by omega) (by omega) (by omega) ?_
  intro h_104 e_104 f_104 l_104
  have k_104 := l_104.trans k_103
  have fr_104 := hfr_w fr_103 f_104 l_104 (by decide)
  have g_104_7 := (f_104 7 (by decide)).trans g_103_7
  have g_104_8 := (f_104 8 (by decide)).trans g_103_8
  have g_104_9 := (f_104 9 (by decide)).trans g_103_9
  have g_104_11 := (f_104 11 (by decide)).trans g_103_11
  have g_104_12 := (f_104 12 (by decide)).trans g_103_12
  have g_104_13 := (f_104 13 (by decide)).trans g_103_13
  have g_104_10 : cE h_104 10 (.inl (.int, fA ((ch.set ((4 * p) + a).toNat ((ch.getD ((4 * p) + a).toNat 0) - n)).set ((4 * p) + b).toNat ((ch.getD ((4 * p) + b).toNat 0) + n)))) := e_104
  refine ik_Wk 2 (pc' := 32) (loc' := [some (.ref 7), some (fI p), some (fI a), some (fI b), some (fI n)]) (st' := [fI p, .ref 7]) (h' := h_104) (cl' := 0) (sl' := 0) rfl ?_
  refine fw_call 12 2 0 [.ref 7, fI p] [] rfl rfl rfl (by decide) rfl rfl (fw_rec k_104 rfl g_104_7 rfl (by decide)) (cs_settle (p := p) (pl := pl) (lo := lo) (s := s) (cn := cn) (go := go) (ch := (ch.set ((4 * p) + a).toNat ((ch.getD ((4 * p) + a).toNat 0) - n)).set ((4 * p) + b).toNat ((ch.getD ((4 * p) + b).toNat 0) + n)) (wg := wg) (wc := wc) (we := we) (by omega) (by omega) (by omega) q3 (mx_sh_b q4 q6 q7 q10 (by omega) q11) (fun _ => q5) g_104_7 g_104_8 n8 g_104_9 n9 g_104_10 hl4 g_104_11 n11 g_104_12 n12 g_104_13 n13 k_104) ?_
  rintro _ h_105 ⟨wg'_105, wc'_105, rfl, e_105_11, m_105_11, e_105_12, m_105_12, e_105_13, m_105_13, p_105_0, p_105_1, p_105_2, F_105⟩
  have k_105 := F_105.1.trans k_104
  have fr_105 := hfr_c fr_104 F_105 (by decide)
  have g_105_7 := (F_105.2 7 (by decide +kernel)).trans g_104_7
  have g_105_8 := (F_105.2 8 (by decide +kernel)).trans g_104_8
  have g_105_9 := (F_105.2 9 (by decide +kernel)).trans g_104_9
  have g_105_10 := (F_105.2 10 (by decide +kernel)).trans g_104_10
  have g_105_11 : cE h_105 11 (.inl (.int, fA wg'_105)) := e_105_11
  have g_105_12 : cE h_105 12 (.inl (.int, fA wc'_105)) := e_105_12
  have g_105_13 : cE h_105 13 (.inl (.int, fA (we.set p.toNat (5 * p + ((mx_w cn go ((ch.set ((4 * p) + a).toNat ((ch.getD ((4 * p) + a).toNat 0) - n)).set ((4 * p) + b).toNat ((ch.getD ((4 * p) + b).toNat 0) + n)) s p).length : Int))))) := e_105_13
  refine ik_Wk 0 (pc' := 35) (loc' := [some (.ref 7), some (fI p), some (fI a), some (fI b), some (fI n)]) (st' := []) (h' := h_105) (cl' := 0) (sl' := 0) rfl ?_
  exact ik_Wret rfl rfl ⟨_, _, rfl, rfl, rfl, rfl, ⟨wg'_105, wc'_105, rfl, g_105_10, hl4, g_105_11, m_105_11, g_105_12, m_105_12, g_105_13, m_105_13, p_105_0, p_105_1, p_105_2, fr_105⟩⟩

end