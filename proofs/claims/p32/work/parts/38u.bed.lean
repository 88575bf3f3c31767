noncomputable section
/-! ways: settle (class), listMoves (reference); where a draw goes: goalBy, gone (written by wip/fx/u1.py) -/
theorem cr_in {h : List ik_E} {v : Int} {a : Int} {b : Int} (q0 : -9223372036854775808 ≤ v ∧ v < 9223372036854775808) (q1 : -9223372036854775808 ≤ a ∧ a < 9223372036854775808) (q2 : -9223372036854775808 ≤ b ∧ b < 9223372036854775808)  (hl : h.length = 94) : ik_F 127 [fJ v, fJ a, fJ b] h (fun rv h' => (rv = [fI 1] ∧ (a ≤ v ∧ v ≤ b) ∧ hfr [] h h') ∨ (rv = [fI 0] ∧ (v < a ∨ b < v) ∧ hfr [] h h')) := by
  refine ik_Wk 2 (pc' := 2) (loc' := [some (fJ v), none, some (fJ a), none, some (fJ b), none]) (st' := [fJ a, fJ v]) (h' := h) (cl' := 0) (sl' := 0) rfl ?_
  refine fw_lcmp_lt rfl rfl rfl (by omega) (by omega) (by omega) (by omega) (fun hc1 => ?_) (fun hc1 => ?_)
  · refine ik_Wk 1 (pc' := 18) (loc' := [some (fJ v), none, some (fJ a), none, some (fJ b), none]) (st' := [fI 0]) (h' := h) (cl' := 0) (sl' := 0) rfl ?_
    exact ik_Wret rfl rfl ⟨_, _, rfl, rfl, rfl, rfl, Or.inr ⟨rfl, (by omega), (hfr_refl [] h)⟩⟩
  · refine ik_Wk 2 (pc' := 9) (loc' := [some (fJ v), none, some (fJ a), none, some (fJ b), none]) (st' := [fJ b, fJ v]) (h' := h) (cl' := 0) (sl' := 0) rfl ?_
    refine fw_lcmp_gt rfl rfl rfl (by omega) (by omega) (by omega) (by omega) (fun hc2 => ?_) (fun hc2 => ?_)
    · refine ik_Wk 1 (pc' := 18) (loc' := [some (fJ v), none, some (fJ a), none, some (fJ b), none]) (st' := [fI 0]) (h' := h) (cl' := 0) (sl' := 0) rfl ?_
      exact ik_Wret rfl rfl ⟨_, _, rfl, rfl, rfl, rfl, Or.inr ⟨rfl, (by omega), (hfr_refl [] h)⟩⟩
    · refine ik_Wk 2 (pc' := 18) (loc' := [some (fJ v), none, some (fJ a), none, some (fJ b), none]) (st' := [fI 1]) (h' := h) (cl' := 0) (sl' := 0) rfl ?_
      exact ik_Wret rfl rfl ⟨_, _, rfl, rfl, rfl, rfl, Or.inl ⟨rfl, (by omega), (hfr_refl [] h)⟩⟩

theorem cs_settleL {h : List ik_E} {p : Int} {pl : Int} {lo : Int} {s : Nat} {cn : List Int} {go : List Int} {ch : List Int} {wg : List Int} {wc : List Int} {we : List Int} (q0 : 0 ≤ p) (q1 : p < 12) (q2 : s < 4096) (q3 : 0 ≤ cn.getD p.toNat 0 ∧ cn.getD p.toNat 0 ≤ 4) (q4 : ∀ j : Int, 4 * p ≤ j → j < 4 * p + cn.getD p.toNat 0 → 0 ≤ ch.getD j.toNat 0 ∧ ch.getD j.toNat 0 ≤ 100) (q5 : s.testBit p.toNat = true → 1 ≤ cn.getD p.toNat 0) {g : Int} (hg : g = mx_g ch s p) : ∀ (k : Nat) (i : Int) (w : Int) (wg1 : List Int) (wc1 : List Int) (u : List ik_E) (u7 : cE u 7 (.inr (0, [fI pl, fI ((s : Nat) : Int), fI lo, .ref 8, .ref 9, .ref 10, .ref 11, .ref 12, .ref 13]))) (u8 : cE u 8 (.inl (.int, fA cn))) (n8 : cn.length = 12) (u9 : cE u 9 (.inl (.int, fA go))) (n9 : go.length = 48) (u10 : cE u 10 (.inl (.int, fA ch))) (n10 : ch.length = 48) (u11 : cE u 11 (.inl (.int, fA wg1))) (n11 : wg1.length = 60) (u12 : cE u 12 (.inl (.int, fA wc1))) (n12 : wc1.length = 60) (u13 : cE u 13 (.inl (.int, fA we))) (n13 : we.length = 12) (ul : u.length = 94) (F : hfr [11, 12, 13] h u) (i0 : 0 ≤ i) (i1 : i ≤ cn.getD p.toNat 0) (hw : w = 5 * p + (mx_o ch s p : Int) + i) (ht : mx_at (5 * p.toNat) (mx_w cn go ch s p) wg1 wc1 (mx_o ch s p + i.toNat)) (ho : mx_out (5 * p.toNat) (5 * p.toNat + 5) wg wg1) (ho2 : mx_out (5 * p.toNat) (5 * p.toNat + 5) wc wc1) (hk : cn.getD p.toNat 0 - i < (k : Int)), ik_G 12 56 [some (.ref 7), some (fI p), some (fI g), some (fI w), some (fI i)] [] u (fun rv h' => ∃ (wg' : List Int) (wc' : List Int), rv = [] ∧ cE h' 11 (.inl (.int, fA wg')) ∧ wg'.length = 60 ∧ cE h' 12 (.inl (.int, fA wc')) ∧ wc'.length = 60 ∧ cE h' 13 (.inl (.int, fA (we.set p.toNat (5 * p + ((mx_w cn go ch s p).length : Int))))) ∧ (we.set p.toNat (5 * p + ((mx_w cn go ch s p).length : Int))).length = 12 ∧ (mx_at (5 * p.toNat) (mx_w cn go ch s p) wg' wc' (mx_w cn go ch s p).length) ∧ (mx_out (5 * p.toNat) (5 * p.toNat + 5) wg wg') ∧ (mx_out (5 * p.toNat) (5 * p.toNat + 5) wc wc') ∧ hfr [11, 12, 13] h h') := by
  intro k
  induction k with
  | zero => intro i w wg1 wc1 u u7 u8 n8 u9 n9 u10 n10 u11 n11 u12 n12 u13 n13 ul F i0 i1 hw ht ho ho2 hk; omega
  | succ k ih =>
    intro i w wg1 wc1 u u7 u8 n8 u9 n9 u10 n10 u11 n11 u12 n12 u13 n13 ul F i0 i1 hw ht ho ho2 hk
    have z1 := mx_o_le (ch := ch) (s := s) (p := p)
    refine ik_Wk 2 (pc' := 59) (loc' := [some (.ref 7), some (fI p), some (fI g), some (fI w), some (fI i)]) (st' := [.ref 7, fI i]) (h' := u) (cl' := 0) (sl' := 0) rfl ?_
    refine fw_gf rfl rfl u7 rfl ?_
    refine ik_Wk 1 (pc' := 63) (loc' := [some (.ref 7), some (fI p), some (fI g), some (fI w), some (fI i)]) (st' := [fI p, .ref 8, fI i]) (h' := u) (cl' := 0) (sl' := 0) rfl ?_
    refine fw_ial rfl u8 (by omega) (by omega) (by omega) ?_
    refine fw_ic_ge rfl rfl (by omega) (by omega) (by omega) (by omega) (fun hc1 => ?_) (fun hc1 => ?_)
    · refine ik_Wk 1 (pc' := 122) (loc' := [some (.ref 7), some (fI p), some (fI g), some (fI w), some (fI i)]) (st' := [.ref 7]) (h' := u) (cl' := 0) (sl' := 0) rfl ?_
      refine fw_gf rfl rfl u7 rfl ?_
      refine ik_Wk 2 (pc' := 127) (loc' := [some (.ref 7), some (fI p), some (fI g), some (fI w), some (fI i)]) (st' := [fI w, fI p, .ref 13]) (h' := u) (cl' := 0) (sl' := 0) rfl ?_
      have hl2 : (we.set p.toNat w).length = 12 := (List.length_set ..).trans n13
      refine fx_ias rfl u13 (by omega) (by omega) (by omega) ?_
      intro h_1 e_1 f_1 l_1
      have k_1 := l_1.trans ul
      have fr_1 := hfr_w F f_1 l_1 (by decide)
      have g_1_7 := (f_1 7 (by decide)).trans u7
      have g_1_8 := (f_1 8 (by decide)).trans u8
      have g_1_9 := (f_1 9 (by decide)).trans u9
      have g_1_10 := (f_1 10 (by decide)).trans u10
      have g_1_11 := (f_1 11 (by decide)).trans u11
      have g_1_12 := (f_1 12 (by decide)).trans u12
      have g_1_13 : cE h_1 13 (.inl (.int, fA (we.set p.toNat w))) := e_1
      have z1 := mx_o_le (ch := ch) (s := s) (p := p)
      have el := mx_w_len cn go ch s p
      have ei : i = cn.getD p.toNat 0 := by omega
      have ew : w = 5 * p + ((mx_w cn go ch s p).length : Int) := by omega
      subst ew
      have e5 : mx_o ch s p + i.toNat = (mx_w cn go ch s p).length := by omega
      rw [e5] at ht
      exact ik_Wret rfl rfl ⟨_, _, rfl, rfl, rfl, rfl, ⟨wg1, wc1, rfl, g_1_11, n11, g_1_12, n12, g_1_13, hl2, ht, ho, ho2, fr_1⟩⟩
    · refine ik_Wk 1 (pc' := 68) (loc' := [some (.ref 7), some (fI p), some (fI g), some (fI w), some (fI i)]) (st' := [.ref 7]) (h' := u) (cl' := 0) (sl' := 0) rfl ?_
      refine fw_gf rfl rfl u7 rfl ?_
      refine ik_Wk 2 (pc' := 73) (loc' := [some (.ref 7), some (fI p), some (fI g), some (fI w), some (fI i)]) (st' := [.ref 7, fI w, .ref 11]) (h' := u) (cl' := 0) (sl' := 0) rfl ?_
      refine fw_gf rfl rfl u7 rfl ?_
      refine ik_Wk 2 (pc' := 78) (loc' := [some (.ref 7), some (fI p), some (fI g), some (fI w), some (fI i)]) (st' := [fI 4, fI p, .ref 9, fI w, .ref 11]) (h' := u) (cl' := 0) (sl' := 0) rfl ?_
      refine fx_mulc rfl ?_
      refine ik_Wk 1 (pc' := 81) (loc' := [some (.ref 7), some (fI p), some (fI g), some (fI w), some (fI i)]) (st' := [fI i, fI (4 * p), .ref 9, fI w, .ref 11]) (h' := u) (cl' := 0) (sl' := 0) rfl ?_
      refine fw_add rfl ?_
      refine fw_ial rfl u9 (by omega) (by omega) (by omega) ?_
      have hl3 : (wg1.set w.toNat (go.getD ((4 * p) + i).toNat 0)).length = 60 := (List.length_set ..).trans n11
      refine fx_ias rfl u11 (by omega) (by omega) (by omega) ?_
      intro h_2 e_2 f_2 l_2
      have k_2 := l_2.trans ul
      have fr_2 := hfr_w F f_2 l_2 (by decide)
      have g_2_7 := (f_2 7 (by decide)).trans u7
      have g_2_8 := (f_2 8 (by decide)).trans u8
      have g_2_9 := (f_2 9 (by decide)).trans u9
      have g_2_10 := (f_2 10 (by decide)).trans u10
      have g_2_12 := (f_2 12 (by decide)).trans u12
      have g_2_13 := (f_2 13 (by decide)).trans u13
      have g_2_11 : cE h_2 11 (.inl (.int, fA (wg1.set w.toNat (go.getD ((4 * p) + i).toNat 0)))) := e_2
      refine ik_Wk 1 (pc' := 85) (loc' := [some (.ref 7), some (fI p), some (fI g), some (fI w), some (fI i)]) (st' := [.ref 7]) (h' := h_2) (cl' := 0) (sl' := 0) rfl ?_
      refine fw_gf rfl rfl g_2_7 rfl ?_
      refine ik_Wk 2 (pc' := 90) (loc' := [some (.ref 7), some (fI p), some (fI g), some (fI w), some (fI i)]) (st' := [.ref 7, fI w, .ref 12]) (h' := h_2) (cl' := 0) (sl' := 0) rfl ?_
      refine fw_gf rfl rfl g_2_7 rfl ?_
      refine ik_Wk 2 (pc' := 95) (loc' := [some (.ref 7), some (fI p), some (fI g), some (fI w), some (fI i)]) (st' := [fI 4, fI p, .ref 10, fI w, .ref 12]) (h' := h_2) (cl' := 0) (sl' := 0) rfl ?_
      refine fx_mulc rfl ?_
      refine ik_Wk 1 (pc' := 98) (loc' := [some (.ref 7), some (fI p), some (fI g), some (fI w), some (fI i)]) (st' := [fI i, fI (4 * p), .ref 10, fI w, .ref 12]) (h' := h_2) (cl' := 0) (sl' := 0) rfl ?_
      refine fw_add rfl ?_
      refine fw_ial rfl g_2_10 (by omega) (by omega) (by omega) ?_
      have hd4 := q4 ((4 * p) + i) (by omega) (by omega)
      refine ik_Wk 1 (pc' := 102) (loc' := [some (.ref 7), some (fI p), some (fI g), some (fI w), some (fI i)]) (st' := [fI i, fI (ch.getD ((4 * p) + i).toNat 0), fI w, .ref 12]) (h' := h_2) (cl' := 0) (sl' := 0) rfl ?_
      refine fw_if_ne rfl rfl (by omega) (by omega) (fun hc5 => ?_) (fun hc5 => ?_)
      · refine ik_Wk 2 (pc' := 110) (loc' := [some (.ref 7), some (fI p), some (fI g), some (fI w), some (fI i)]) (st' := [fI g, fI (ch.getD ((4 * p) + i).toNat 0), fI w, .ref 12]) (h' := h_2) (cl' := 0) (sl' := 0) rfl ?_
        refine fw_sub rfl ?_
        have hl6 : (wc1.set w.toNat ((ch.getD ((4 * p) + i).toNat 0) - g)).length = 60 := (List.length_set ..).trans n12
        refine fx_ias rfl g_2_12 (by omega) (by omega) (by omega) ?_
        intro h_3 e_3 f_3 l_3
        have k_3 := l_3.trans k_2
        have fr_3 := hfr_w fr_2 f_3 l_3 (by decide)
        have g_3_7 := (f_3 7 (by decide)).trans g_2_7
        have g_3_8 := (f_3 8 (by decide)).trans g_2_8
        have g_3_9 := (f_3 9 (by decide)).trans g_2_9
        have g_3_10 := (f_3 10 (by decide)).trans g_2_10
        have g_3_11 := (f_3 11 (by decide)).trans g_2_11
        have g_3_13 := (f_3 13 (by decide)).trans g_2_13
        have g_3_12 : cE h_3 12 (.inl (.int, fA (wc1.set w.toNat ((ch.getD ((4 * p) + i).toNat 0) - g)))) := e_3
        refine fw_inc (a := w) (loc' := [some (.ref 7), some (fI p), some (fI g), some (fI (w + 1)), some (fI i)]) rfl rfl (Nat.le_of_ble_eq_true rfl) rfl ?_
        refine fw_inc (a := i) (loc' := [some (.ref 7), some (fI p), some (fI g), some (fI (w + 1)), some (fI (i + 1))]) rfl rfl (Nat.le_of_ble_eq_true rfl) rfl ?_
        refine ik_Wk 1 (pc' := 56) (loc' := [some (.ref 7), some (fI p), some (fI g), some (fI (w + 1)), some (fI (i + 1))]) (st' := []) (h' := h_3) (cl' := 0) (sl' := 0) rfl ?_
        have z1 := mx_o_le (ch := ch) (s := s) (p := p)
        have ez := mx_w_I (go := go) (ch := ch) (s := s) i0 (show i < cn.getD p.toNat 0 by omega)
        have en : mx_o ch s p + (i + 1).toNat = mx_o ch s p + i.toNat + 1 := by omega
        have e2 : ((ch.getD ((4 * p) + i).toNat 0) - g) = ((mx_w cn go ch s p).getD (mx_o ch s p + i.toNat) (0, 0)).2 := by rw [ez]; show _ = (if i = 0 then _ else _); rw [← hg]; split <;> omega
        exact ih  (i + 1) (w + 1) (wg1.set w.toNat (go.getD ((4 * p) + i).toNat 0)) (wc1.set w.toNat ((ch.getD ((4 * p) + i).toNat 0) - g)) h_3 g_3_7 g_3_8 n8 g_3_9 n9 g_3_10 n10 g_3_11 hl3 g_3_12 hl6 g_3_13 n13 k_3 fr_3 (by omega) (by omega) (by omega) (by rw [en]; exact mx_at_s ht (by omega) (by omega) (by omega) (by rw [ez]; rfl) e2) (mx_out_s ho (by omega) (by omega)) (mx_out_s ho2 (by omega) (by omega)) (by omega)
      · refine ik_Wk 1 (pc' := 110) (loc' := [some (.ref 7), some (fI p), some (fI g), some (fI w), some (fI i)]) (st' := [fI 0, fI (ch.getD ((4 * p) + i).toNat 0), fI w, .ref 12]) (h' := h_2) (cl' := 0) (sl' := 0) rfl ?_
        refine fw_sub rfl ?_
        have hl7 : (wc1.set w.toNat ((ch.getD ((4 * p) + i).toNat 0) - 0)).length = 60 := (List.length_set ..).trans n12
        refine fx_ias rfl g_2_12 (by omega) (by omega) (by omega) ?_
        intro h_4 e_4 f_4 l_4
        have k_4 := l_4.trans k_2
        have fr_4 := hfr_w fr_2 f_4 l_4 (by decide)
        have g_4_7 := (f_4 7 (by decide)).trans g_2_7
        have g_4_8 := (f_4 8 (by decide)).trans g_2_8
        have g_4_9 := (f_4 9 (by decide)).trans g_2_9
        have g_4_10 := (f_4 10 (by decide)).trans g_2_10
        have g_4_11 := (f_4 11 (by decide)).trans g_2_11
        have g_4_13 := (f_4 13 (by decide)).trans g_2_13
        have g_4_12 : cE h_4 12 (.inl (.int, fA (wc1.set w.toNat ((ch.getD ((4 * p) + i).toNat 0) - 0)))) := e_4
        refine fw_inc (a := w) (loc' := [some (.ref 7), some (fI p), some (fI g), some (fI (w + 1)), some (fI i)]) rfl rfl (Nat.le_of_ble_eq_true rfl) rfl ?_
        refine fw_inc (a := i) (loc' := [some (.ref 7), some (fI p), some (fI g), some (fI (w + 1)), some (fI (i + 1))]) rfl rfl (Nat.le_of_ble_eq_true rfl) rfl ?_
        refine ik_Wk 1 (pc' := 56) (loc' := [some (.ref 7), some (fI p), some (fI g), some (fI (w + 1)), some (fI (i + 1))]) (st' := []) (h' := h_4) (cl' := 0) (sl' := 0) rfl ?_
        have z1 := mx_o_le (ch := ch) (s := s) (p := p)
        have ez := mx_w_I (go := go) (ch := ch) (s := s) i0 (show i < cn.getD p.toNat 0 by omega)
        have en : mx_o ch s p + (i + 1).toNat = mx_o ch s p + i.toNat + 1 := by omega
        have e2 : ((ch.getD ((4 * p) + i).toNat 0) - 0) = ((mx_w cn go ch s p).getD (mx_o ch s p + i.toNat) (0, 0)).2 := by rw [ez]; show _ = (if i = 0 then _ else _); rw [← hg]; split <;> omega
        exact ih  (i + 1) (w + 1) (wg1.set w.toNat (go.getD ((4 * p) + i).toNat 0)) (wc1.set w.toNat ((ch.getD ((4 * p) + i).toNat 0) - 0)) h_4 g_4_7 g_4_8 n8 g_4_9 n9 g_4_10 n10 g_4_11 hl3 g_4_12 hl7 g_4_13 n13 k_4 fr_4 (by omega) (by omega) (by omega) (by rw [en]; exact mx_at_s ht (by omega) (by omega) (by omega) (by rw [ez]; rfl) e2) (mx_out_s ho (by omega) (by omega)) (mx_out_s ho2 (by omega) (by omega)) (by omega)

theorem cs_settle {h : List ik_E} {p : Int} {pl : Int} {lo : Int} {s : Nat} {cn : List Int} {go : List Int} {ch : List Int} {wg : List Int} {wc : List Int} {we : List Int} (q0 : 0 ≤ p) (q1 : p < 12) (q2 : s < 4096) (q3 : 0 ≤ cn.getD p.toNat 0 ∧ cn.getD p.toNat 0 ≤ 4) (q4 : ∀ j : Int, 4 * p ≤ j → j < 4 * p + cn.getD p.toNat 0 → 0 ≤ ch.getD j.toNat 0 ∧ ch.getD j.toNat 0 ≤ 100) (q5 : s.testBit p.toNat = true → 1 ≤ cn.getD p.toNat 0) (h7 : cE h 7 (.inr (0, [fI pl, fI ((s : Nat) : Int), fI lo, .ref 8, .ref 9, .ref 10, .ref 11, .ref 12, .ref 13]))) (h8 : cE h 8 (.inl (.int, fA cn))) (n8 : cn.length = 12) (h9 : cE h 9 (.inl (.int, fA go))) (n9 : go.length = 48) (h10 : cE h 10 (.inl (.int, fA ch))) (n10 : ch.length = 48) (h11 : cE h 11 (.inl (.int, fA wg))) (n11 : wg.length = 60) (h12 : cE h 12 (.inl (.int, fA wc))) (n12 : wc.length = 60) (h13 : cE h 13 (.inl (.int, fA we))) (n13 : we.length = 12) (hl : h.length = 94) : ik_F 12 [.ref 7, fI p] h (fun rv h' => ∃ (wg' : List Int) (wc' : List Int), rv = [] ∧ cE h' 11 (.inl (.int, fA wg')) ∧ wg'.length = 60 ∧ cE h' 12 (.inl (.int, fA wc')) ∧ wc'.length = 60 ∧ cE h' 13 (.inl (.int, fA (we.set p.toNat (5 * p + ((mx_w cn go ch s p).length : Int))))) ∧ (we.set p.toNat (5 * p + ((mx_w cn go ch s p).length : Int))).length = 12 ∧ (mx_at (5 * p.toNat) (mx_w cn go ch s p) wg' wc' (mx_w cn go ch s p).length) ∧ (mx_out (5 * p.toNat) (5 * p.toNat + 5) wg wg') ∧ (mx_out (5 * p.toNat) (5 * p.toNat + 5) wc wc') ∧ hfr [11, 12, 13] h h') := by
  refine ik_Wk 2 (pc' := 2) (loc' := [some (.ref 7), some (fI p), none, none, none]) (st' := [fI p, .ref 7]) (h' := h) (cl' := 0) (sl' := 0) rfl ?_
  refine ik_Wc 13 2 0 [.ref 7, fI p] [] rfl rfl rfl (by decide) rfl rfl (fw_rec hl rfl h7 rfl (by decide)) ?_
  refine ik_Wk 0 (pc' := 0) (loc' := [some (.ref 7), some (fI p)]) (st' := []) (h' := h) (cl' := 0) (sl' := 0) rfl ?_
  refine ik_Wk 1 (pc' := 1) (loc' := [some (.ref 7), some (fI p)]) (st' := [.ref 7]) (h' := h) (cl' := 0) (sl' := 0) rfl ?_
  refine fw_gf rfl rfl h7 rfl ?_
  refine ik_Wk 1 (pc' := 5) (loc' := [some (.ref 7), some (fI p)]) (st' := [fI p, fI ((s : Nat) : Int)]) (h' := h) (cl' := 0) (sl' := 0) rfl ?_
  refine fx_shr (n := s) rfl (by omega) (by omega) (by omega) ?_
  refine ik_Wk 1 (pc' := 7) (loc' := [some (.ref 7), some (fI p)]) (st' := [fI 1, fI ((s >>> p.toNat : Nat) : Int)]) (h' := h) (cl' := 0) (sl' := 0) rfl ?_
  refine fx_bit (n := s) (k := p.toNat) rfl (fun hb1 => ?_) (fun hb1 => ?_)
  · refine ik_Wk 0 (pc' := 8) (loc' := [some (.ref 7), some (fI p)]) (st' := [fI 1]) (h' := h) (cl' := 0) (sl' := 0) rfl ?_
    refine fw_if_eq rfl rfl (by omega) (by omega) (fun hc2 => absurd hc2 (by omega)) (fun hc2 => ?_)
    refine ik_Wk 2 (pc' := 16) (loc' := [some (.ref 7), some (fI p)]) (st' := [fI 1]) (h' := h) (cl' := 0) (sl' := 0) rfl ?_
    refine ik_Wret rfl rfl ⟨_, _, rfl, rfl, ?_⟩
    refine ik_Wk 0 (pc' := 5) (loc' := [some (.ref 7), some (fI p), none, none, none]) (st' := [fI 1]) (h' := h) (cl' := 0) (sl' := 0) rfl ?_
    refine fw_if_eq rfl rfl (by omega) (by omega) (fun hc3 => absurd hc3 (by omega)) (fun hc3 => ?_)
    refine fw_bi rfl (by decide) ?_
    refine ik_Wk 1 (pc' := 11) (loc' := [some (.ref 7), some (fI p), none, none, none]) (st' := [.ref 7, fI 20]) (h' := h) (cl' := 0) (sl' := 0) rfl ?_
    refine fw_gf rfl rfl h7 rfl ?_
    refine ik_Wk 2 (pc' := 16) (loc' := [some (.ref 7), some (fI p), none, none, none]) (st' := [fI 4, fI p, .ref 10, fI 20]) (h' := h) (cl' := 0) (sl' := 0) rfl ?_
    refine fx_mulc rfl ?_
    refine fw_ial rfl h10 (by omega) (by omega) (by omega) ?_
    have hst := q5 hb1
    have hd4 := q4 (4 * p) (by omega) (by omega)
    refine ik_Wk 1 (pc' := 19) (loc' := [some (.ref 7), some (fI p), none, none, none]) (st' := [fI 1, fI (ch.getD (4 * p).toNat 0), fI 20]) (h' := h) (cl' := 0) (sl' := 0) rfl ?_
    refine fw_sub rfl ?_
    refine fx_min rfl rfl rfl ⟨Nat.le_of_ble_eq_true rfl, Nat.le_of_ble_eq_true rfl, Nat.le_of_ble_eq_true rfl⟩ (by omega) (by omega) (by omega) (by omega) ?_
    intro mm5 qmm5
    refine ik_Wk 4 (pc' := 30) (loc' := [some (.ref 7), some (fI p), some (fI mm5), none, none]) (st' := [fI 5, fI p]) (h' := h) (cl' := 0) (sl' := 0) rfl ?_
    refine fx_mulc rfl ?_
    refine ik_Wk 2 (pc' := 33) (loc' := [some (.ref 7), some (fI p), some (fI mm5), some (fI (5 * p)), none]) (st' := [fI mm5]) (h' := h) (cl' := 0) (sl' := 0) rfl ?_
    refine fw_if_le rfl rfl (by omega) (by omega) (fun hc6 => ?_) (fun hc6 => ?_)
    · refine ik_Wk 2 (pc' := 56) (loc' := [some (.ref 7), some (fI p), some (fI mm5), some (fI (5 * p)), some (fI 0)]) (st' := []) (h' := h) (cl' := 0) (sl' := 0) rfl ?_
      have hg := mx_g_t hb1 qmm5
      have hz := mx_o_0 (ch := ch) (s := s) (p := p) (by omega)
      exact cs_settleL (p := p) (pl := pl) (lo := lo) (s := s) (cn := cn) (go := go) (ch := ch) (wg := wg) (wc := wc) (we := we) q0 q1 q2 q3 q4 q5 hg ((cn.getD p.toNat 0).toNat + 1) 0 (5 * p) wg wc h h7 h8 n8 h9 n9 h10 n10 h11 n11 h12 n12 h13 n13 hl (hfr_refl [11, 12, 13] h) (by omega) (by omega) (by omega) (by rw [hz]; exact mx_at_0 _ _ _ _) (mx_out_r _ _ _) (mx_out_r _ _ _) (by omega)
    · refine ik_Wk 1 (pc' := 37) (loc' := [some (.ref 7), some (fI p), some (fI mm5), some (fI (5 * p)), none]) (st' := [.ref 7]) (h' := h) (cl' := 0) (sl' := 0) rfl ?_
      refine fw_gf rfl rfl h7 rfl ?_
      refine ik_Wk 2 (pc' := 42) (loc' := [some (.ref 7), some (fI p), some (fI mm5), some (fI (5 * p)), none]) (st' := [fI p, fI (5 * p), .ref 11]) (h' := h) (cl' := 0) (sl' := 0) rfl ?_
      have hl7 : (wg.set (5 * p).toNat p).length = 60 := (List.length_set ..).trans n11
      refine fx_ias rfl h11 (by omega) (by omega) (by omega) ?_
      intro h_5 e_5 f_5 l_5
      have k_5 := l_5.trans hl
      have fr_5 := hfr_w (hfr_refl [11, 12, 13] h) f_5 l_5 (by decide)
      have g_5_7 := (f_5 7 (by decide)).trans h7
      have g_5_8 := (f_5 8 (by decide)).trans h8
      have g_5_9 := (f_5 9 (by decide)).trans h9
      have g_5_10 := (f_5 10 (by decide)).trans h10
      have g_5_12 := (f_5 12 (by decide)).trans h12
      have g_5_13 := (f_5 13 (by decide)).trans h13
      have g_5_11 : cE h_5 11 (.inl (.int, fA (wg.set (5 * p).toNat p))) := e_5
      refine ik_Wk 1 (pc' := 44) (loc' := [some (.ref 7), some (fI p), some (fI mm5), some (fI (5 * p)), none]) (st' := [.ref 7]) (h' := h_5) (cl' := 0) (sl' := 0) rfl ?_
      refine fw_gf rfl rfl g_5_7 rfl ?_
      refine ik_Wk 2 (pc' := 49) (loc' := [some (.ref 7), some (fI p), some (fI mm5), some (fI (5 * p)), none]) (st' := [fI mm5, fI (5 * p), .ref 12]) (h' := h_5) (cl' := 0) (sl' := 0) rfl ?_
      have hl8 : (wc.set (5 * p).toNat mm5).length = 60 := (List.length_set ..).trans n12
      refine fx_ias rfl g_5_12 (by omega) (by omega) (by omega) ?_
      intro h_6 e_6 f_6 l_6
      have k_6 := l_6.trans k_5
      have fr_6 := hfr_w fr_5 f_6 l_6 (by decide)
      have g_6_7 := (f_6 7 (by decide)).trans g_5_7
      have g_6_8 := (f_6 8 (by decide)).trans g_5_8
      have g_6_9 := (f_6 9 (by decide)).trans g_5_9
      have g_6_10 := (f_6 10 (by decide)).trans g_5_10
      have g_6_11 := (f_6 11 (by decide)).trans g_5_11
      have g_6_13 := (f_6 13 (by decide)).trans g_5_13
      have g_6_12 : cE h_6 12 (.inl (.int, fA (wc.set (5 * p).toNat mm5))) := e_6
      refine fw_inc (a := 5 * p) (loc' := [some (.ref 7), some (fI p), some (fI mm5), some (fI ((5 * p) + 1)), none]) rfl rfl (Nat.le_of_ble_eq_true rfl) rfl ?_
      refine ik_Wk 2 (pc' := 56) (loc' := [some (.ref 7), some (fI p), some (fI mm5), some (fI ((5 * p) + 1)), some (fI 0)]) (st' := []) (h' := h_6) (cl' := 0) (sl' := 0) rfl ?_
      have hg := mx_g_t hb1 qmm5
      have hz := mx_o_1 (ch := ch) (s := s) (p := p) (by omega)
      exact cs_settleL (p := p) (pl := pl) (lo := lo) (s := s) (cn := cn) (go := go) (ch := ch) (wg := wg) (wc := wc) (we := we) q0 q1 q2 q3 q4 q5 hg ((cn.getD p.toNat 0).toNat + 1) 0 ((5 * p) + 1) (wg.set (5 * p).toNat p) (wc.set (5 * p).toNat mm5) h_6 g_6_7 g_6_8 n8 g_6_9 n9 g_6_10 n10 g_6_11 hl7 g_6_12 hl8 g_6_13 n13 k_6 fr_6 (by omega) (by omega) (by omega) (by rw [hz]; exact mx_at_s (n := 0) (mx_at_0 _ _ _ _) (by omega) (by omega) (by omega) (by rw [mx_w_0 (by omega)]) (by rw [mx_w_0 (by omega)]; exact hg)) (mx_out_s (mx_out_r _ _ _) (by omega) (by omega)) (mx_out_s (mx_out_r _ _ _) (by omega) (by omega)) (by omega)
  · refine ik_Wk 0 (pc' := 8) (loc' := [some (.ref 7), some (fI p)]) (st' := [fI 0]) (h' := h) (cl' := 0) (sl' := 0) rfl ?_
    refine fw_if_eq rfl rfl (by omega) (by omega) (fun hc9 => ?_) (fun hc9 => absurd hc9 (by omega))
    refine ik_Wk 1 (pc' := 16) (loc' := [some (.ref 7), some (fI p)]) (st' := [fI 0]) (h' := h) (cl' := 0) (sl' := 0) rfl ?_
    refine ik_Wret rfl rfl ⟨_, _, rfl, rfl, ?_⟩
    refine ik_Wk 0 (pc' := 5) (loc' := [some (.ref 7), some (fI p), none, none, none]) (st' := [fI 0]) (h' := h) (cl' := 0) (sl' := 0) rfl ?_
    refine fw_if_eq rfl rfl (by omega) (by omega) (fun hc10 => ?_) (fun hc10 => absurd hc10 (by omega))
    refine ik_Wk 4 (pc' := 30) (loc' := [some (.ref 7), some (fI p), some (fI 0), none, none]) (st' := [fI 5, fI p]) (h' := h) (cl' := 0) (sl' := 0) rfl ?_
    refine fx_mulc rfl ?_
    refine ik_Wk 2 (pc' := 33) (loc' := [some (.ref 7), some (fI p), some (fI 0), some (fI (5 * p)), none]) (st' := [fI 0]) (h' := h) (cl' := 0) (sl' := 0) rfl ?_
    refine fw_if_le rfl rfl (by omega) (by omega) (fun hc11 => ?_) (fun hc11 => absurd hc11 (by omega))
    refine ik_Wk 2 (pc' := 56) (loc' := [some (.ref 7), some (fI p), some (fI 0), some (fI (5 * p)), some (fI 0)]) (st' := []) (h' := h) (cl' := 0) (sl' := 0) rfl ?_
    have hg := mx_g_f (ch := ch) hb1
    have hz := mx_o_0 (ch := ch) (s := s) (p := p) (by omega)
    exact cs_settleL (p := p) (pl := pl) (lo := lo) (s := s) (cn := cn) (go := go) (ch := ch) (wg := wg) (wc := wc) (we := we) q0 q1 q2 q3 q4 q5 hg ((cn.getD p.toNat 0).toNat + 1) 0 (5 * p) wg wc h h7 h8 n8 h9 n9 h10 n10 h11 n11 h12 n12 h13 n13 hl (hfr_refl [11, 12, 13] h) (by omega) (by omega) (by omega) (by rw [hz]; exact mx_at_0 _ _ _ _) (mx_out_r _ _ _) (mx_out_r _ _ _) (by omega)

theorem cr_listL {h : List ik_E} {p : Int} {f : Nat → Int} {s : Nat} {cn : List Int} {go : List Int} {ch : List Int} {gt : List Int} {gd : List Int} (q0 : 0 ≤ p) (q1 : p < 12) (q2 : s < 4096) (q3 : 0 ≤ cn.getD p.toNat 0 ∧ cn.getD p.toNat 0 ≤ 4) (q4 : ∀ j : Int, 4 * p ≤ j → j < 4 * p + cn.getD p.toNat 0 → 0 ≤ ch.getD j.toNat 0 ∧ ch.getD j.toNat 0 ≤ 100) (q5 : 1 ≤ cn.getD p.toNat 0) {g : Int} (hg : g = mx_g ch s p) : ∀ (k : Nat) (i : Int) (w : Int) (wg1 : List Int) (wc1 : List Int) (u : List ik_E) (u66 : cE u 66 (.inr (10, [fI (f 0), .ref 67, .ref 68, .ref 69, fI ((s : Nat) : Int), .ref 70, .ref 71, fI (f 7), fI (f 8), .ref 72, fI (f 10), fI (f 11), fI (f 12), fJ (f 13), fI (f 14), fI (f 15), fI (f 16), fI (f 17), .ref 73, .ref 74, .ref 75, .ref 76, .ref 77, .ref 78, fI w, .ref 79, .ref 80, .ref 81, .ref 82, .ref 83, .ref 84, .ref 85, fJ (f 32), fJ (f 33), .ref 86, .ref 87, fI (f 36), .ref 88, .ref 89, .ref 90, .ref 91, .ref 92, .ref 93]))) (u67 : cE u 67 (.inl (.int, fA cn))) (n67 : cn.length = 12) (u68 : cE u 68 (.inl (.int, fA go))) (n68 : go.length = 48) (u69 : cE u 69 (.inl (.int, fA ch))) (n69 : ch.length = 48) (u77 : cE u 77 (.inl (.int, fA wg1))) (n77 : wg1.length = 5) (u78 : cE u 78 (.inl (.int, fA wc1))) (n78 : wc1.length = 5) (ul : u.length = 94) (F : hfr [66, 77, 78] h u) (i0 : 0 ≤ i) (i1 : i ≤ cn.getD p.toNat 0) (hw : w = (mx_o ch s p : Int) + i) (ht : mx_at 0 (mx_w cn go ch s p) wg1 wc1 (mx_o ch s p + i.toNat)) (hk : cn.getD p.toNat 0 - i < (k : Int)), ik_G 152 78 [some (.ref 66), some (fI p), some (fI g), some (fI i)] [] u (fun rv h' => ∃ (gt' : List Int) (gd' : List Int), rv = [] ∧ cE h' 66 (.inr (10, [fI (f 0), .ref 67, .ref 68, .ref 69, fI ((s : Nat) : Int), .ref 70, .ref 71, fI (f 7), fI (f 8), .ref 72, fI (f 10), fI (f 11), fI (f 12), fJ (f 13), fI (f 14), fI (f 15), fI (f 16), fI (f 17), .ref 73, .ref 74, .ref 75, .ref 76, .ref 77, .ref 78, fI ((mx_w cn go ch s p).length : Int), .ref 79, .ref 80, .ref 81, .ref 82, .ref 83, .ref 84, .ref 85, fJ (f 32), fJ (f 33), .ref 86, .ref 87, fI (f 36), .ref 88, .ref 89, .ref 90, .ref 91, .ref 92, .ref 93])) ∧ cE h' 77 (.inl (.int, fA gt')) ∧ gt'.length = 5 ∧ cE h' 78 (.inl (.int, fA gd')) ∧ gd'.length = 5 ∧ (mx_at 0 (mx_w cn go ch s p) gt' gd' (mx_w cn go ch s p).length) ∧ hfr [66, 77, 78] h h') := by
  intro k
  induction k with
  | zero => intro i w wg1 wc1 u u66 u67 n67 u68 n68 u69 n69 u77 n77 u78 n78 ul F i0 i1 hw ht hk; omega
  | succ k ih =>
    intro i w wg1 wc1 u u66 u67 n67 u68 n68 u69 n69 u77 n77 u78 n78 ul F i0 i1 hw ht hk
    have z1 := mx_o_le (ch := ch) (s := s) (p := p)
    refine ik_Wk 2 (pc' := 80) (loc' := [some (.ref 66), some (fI p), some (fI g), some (fI i)]) (st' := [.ref 66, fI i]) (h' := u) (cl' := 0) (sl' := 0) rfl ?_
    refine fw_gf rfl rfl u66 rfl ?_
    refine ik_Wk 1 (pc' := 84) (loc' := [some (.ref 66), some (fI p), some (fI g), some (fI i)]) (st' := [fI p, .ref 67, fI i]) (h' := u) (cl' := 0) (sl' := 0) rfl ?_
    refine fw_ial rfl u67 (by omega) (by omega) (by omega) ?_
    refine fw_ic_ge rfl rfl (by omega) (by omega) (by omega) (by omega) (fun hc1 => ?_) (fun hc1 => ?_)
    · have z1 := mx_o_le (ch := ch) (s := s) (p := p)
      have el := mx_w_len cn go ch s p
      have ei : i = cn.getD p.toNat 0 := by omega
      have ew : w = ((mx_w cn go ch s p).length : Int) := by omega
      subst ew
      have e5 : mx_o ch s p + i.toNat = (mx_w cn go ch s p).length := by omega
      rw [e5] at ht
      exact ik_Wret rfl rfl ⟨_, _, rfl, rfl, rfl, rfl, ⟨wg1, wc1, rfl, u66, u77, n77, u78, n78, ht, F⟩⟩
    · refine ik_Wk 1 (pc' := 89) (loc' := [some (.ref 66), some (fI p), some (fI g), some (fI i)]) (st' := [.ref 66]) (h' := u) (cl' := 0) (sl' := 0) rfl ?_
      refine fw_gf rfl rfl u66 rfl ?_
      refine ik_Wk 1 (pc' := 93) (loc' := [some (.ref 66), some (fI p), some (fI g), some (fI i)]) (st' := [.ref 66, .ref 77]) (h' := u) (cl' := 0) (sl' := 0) rfl ?_
      refine fw_gf rfl rfl u66 rfl ?_
      refine ik_Wk 1 (pc' := 97) (loc' := [some (.ref 66), some (fI p), some (fI g), some (fI i)]) (st' := [.ref 66, fI w, .ref 77]) (h' := u) (cl' := 0) (sl' := 0) rfl ?_
      refine fw_gf rfl rfl u66 rfl ?_
      refine ik_Wk 2 (pc' := 102) (loc' := [some (.ref 66), some (fI p), some (fI g), some (fI i)]) (st' := [fI p, fI 4, .ref 68, fI w, .ref 77]) (h' := u) (cl' := 0) (sl' := 0) rfl ?_
      refine fw_mul rfl ?_
      refine ik_Wk 1 (pc' := 104) (loc' := [some (.ref 66), some (fI p), some (fI g), some (fI i)]) (st' := [fI i, fI (4 * p), .ref 68, fI w, .ref 77]) (h' := u) (cl' := 0) (sl' := 0) rfl ?_
      refine fw_add rfl ?_
      refine fw_ial rfl u68 (by omega) (by omega) (by omega) ?_
      have hl2 : (wg1.set w.toNat (go.getD ((4 * p) + i).toNat 0)).length = 5 := (List.length_set ..).trans n77
      refine fx_ias rfl u77 (by omega) (by omega) (by omega) ?_
      intro h_7 e_7 f_7 l_7
      have k_7 := l_7.trans ul
      have fr_7 := hfr_w F f_7 l_7 (by decide)
      have g_7_66 := (f_7 66 (by decide)).trans u66
      have g_7_67 := (f_7 67 (by decide)).trans u67
      have g_7_68 := (f_7 68 (by decide)).trans u68
      have g_7_69 := (f_7 69 (by decide)).trans u69
      have g_7_78 := (f_7 78 (by decide)).trans u78
      have g_7_77 : cE h_7 77 (.inl (.int, fA (wg1.set w.toNat (go.getD ((4 * p) + i).toNat 0)))) := e_7
      refine ik_Wk 1 (pc' := 108) (loc' := [some (.ref 66), some (fI p), some (fI g), some (fI i)]) (st' := [.ref 66]) (h' := h_7) (cl' := 0) (sl' := 0) rfl ?_
      refine fw_gf rfl rfl g_7_66 rfl ?_
      refine ik_Wk 1 (pc' := 112) (loc' := [some (.ref 66), some (fI p), some (fI g), some (fI i)]) (st' := [.ref 66, .ref 78]) (h' := h_7) (cl' := 0) (sl' := 0) rfl ?_
      refine fw_gf rfl rfl g_7_66 rfl ?_
      refine ik_Wk 1 (pc' := 116) (loc' := [some (.ref 66), some (fI p), some (fI g), some (fI i)]) (st' := [.ref 66, fI w, .ref 78]) (h' := h_7) (cl' := 0) (sl' := 0) rfl ?_
      refine fw_gf rfl rfl g_7_66 rfl ?_
      refine ik_Wk 2 (pc' := 121) (loc' := [some (.ref 66), some (fI p), some (fI g), some (fI i)]) (st' := [fI p, fI 4, .ref 69, fI w, .ref 78]) (h' := h_7) (cl' := 0) (sl' := 0) rfl ?_
      refine fw_mul rfl ?_
      refine ik_Wk 1 (pc' := 123) (loc' := [some (.ref 66), some (fI p), some (fI g), some (fI i)]) (st' := [fI i, fI (4 * p), .ref 69, fI w, .ref 78]) (h' := h_7) (cl' := 0) (sl' := 0) rfl ?_
      refine fw_add rfl ?_
      refine fw_ial rfl g_7_69 (by omega) (by omega) (by omega) ?_
      have hd3 := q4 ((4 * p) + i) (by omega) (by omega)
      refine ik_Wk 1 (pc' := 126) (loc' := [some (.ref 66), some (fI p), some (fI g), some (fI i)]) (st' := [fI i, fI (ch.getD ((4 * p) + i).toNat 0), fI w, .ref 78]) (h' := h_7) (cl' := 0) (sl' := 0) rfl ?_
      refine fw_if_ne rfl rfl (by omega) (by omega) (fun hc4 => ?_) (fun hc4 => ?_)
      · refine ik_Wk 2 (pc' := 134) (loc' := [some (.ref 66), some (fI p), some (fI g), some (fI i)]) (st' := [fI g, fI (ch.getD ((4 * p) + i).toNat 0), fI w, .ref 78]) (h' := h_7) (cl' := 0) (sl' := 0) rfl ?_
        refine fw_sub rfl ?_
        have hl5 : (wc1.set w.toNat ((ch.getD ((4 * p) + i).toNat 0) - g)).length = 5 := (List.length_set ..).trans n78
        refine fx_ias rfl g_7_78 (by omega) (by omega) (by omega) ?_
        intro h_8 e_8 f_8 l_8
        have k_8 := l_8.trans k_7
        have fr_8 := hfr_w fr_7 f_8 l_8 (by decide)
        have g_8_66 := (f_8 66 (by decide)).trans g_7_66
        have g_8_67 := (f_8 67 (by decide)).trans g_7_67
        have g_8_68 := (f_8 68 (by decide)).trans g_7_68
        have g_8_69 := (f_8 69 (by decide)).trans g_7_69
        have g_8_77 := (f_8 77 (by decide)).trans g_7_77
        have g_8_78 : cE h_8 78 (.inl (.int, fA (wc1.set w.toNat ((ch.getD ((4 * p) + i).toNat 0) - g)))) := e_8
        refine ik_Wk 2 (pc' := 138) (loc' := [some (.ref 66), some (fI p), some (fI g), some (fI i)]) (st' := [.ref 66, .ref 66]) (h' := h_8) (cl' := 0) (sl' := 0) rfl ?_
        refine fw_gf rfl rfl g_8_66 rfl ?_
        refine ik_Wk 1 (pc' := 142) (loc' := [some (.ref 66), some (fI p), some (fI g), some (fI i)]) (st' := [fI 1, fI w, .ref 66]) (h' := h_8) (cl' := 0) (sl' := 0) rfl ?_
        refine fw_add rfl ?_
        refine fx_pf rfl rfl g_8_66 (Nat.le_of_ble_eq_true rfl) rfl rfl ?_
        intro h_9 e_9 f_9 l_9
        have k_9 := l_9.trans k_8
        have fr_9 := hfr_w fr_8 f_9 l_9 (by decide)
        have g_9_67 := (f_9 67 (by decide)).trans g_8_67
        have g_9_68 := (f_9 68 (by decide)).trans g_8_68
        have g_9_69 := (f_9 69 (by decide)).trans g_8_69
        have g_9_77 := (f_9 77 (by decide)).trans g_8_77
        have g_9_78 := (f_9 78 (by decide)).trans g_8_78
        have g_9_66 : cE h_9 66 (.inr (10, [fI (f 0), .ref 67, .ref 68, .ref 69, fI ((s : Nat) : Int), .ref 70, .ref 71, fI (f 7), fI (f 8), .ref 72, fI (f 10), fI (f 11), fI (f 12), fJ (f 13), fI (f 14), fI (f 15), fI (f 16), fI (f 17), .ref 73, .ref 74, .ref 75, .ref 76, .ref 77, .ref 78, fI (w + 1), .ref 79, .ref 80, .ref 81, .ref 82, .ref 83, .ref 84, .ref 85, fJ (f 32), fJ (f 33), .ref 86, .ref 87, fI (f 36), .ref 88, .ref 89, .ref 90, .ref 91, .ref 92, .ref 93])) := e_9
        refine fw_inc (a := i) (loc' := [some (.ref 66), some (fI p), some (fI g), some (fI (i + 1))]) rfl rfl (Nat.le_of_ble_eq_true rfl) rfl ?_
        refine ik_Wk 1 (pc' := 78) (loc' := [some (.ref 66), some (fI p), some (fI g), some (fI (i + 1))]) (st' := []) (h' := h_9) (cl' := 0) (sl' := 0) rfl ?_
        have z1 := mx_o_le (ch := ch) (s := s) (p := p)
        have ez := mx_w_I (go := go) (ch := ch) (s := s) i0 (show i < cn.getD p.toNat 0 by omega)
        have en : mx_o ch s p + (i + 1).toNat = mx_o ch s p + i.toNat + 1 := by omega
        have e2 : ((ch.getD ((4 * p) + i).toNat 0) - g) = ((mx_w cn go ch s p).getD (mx_o ch s p + i.toNat) (0, 0)).2 := by rw [ez]; show _ = (if i = 0 then _ else _); rw [← hg]; split <;> omega
        exact ih  (i + 1) (w + 1) (wg1.set w.toNat (go.getD ((4 * p) + i).toNat 0)) (wc1.set w.toNat ((ch.getD ((4 * p) + i).toNat 0) - g)) h_9 g_9_66 g_9_67 n67 g_9_68 n68 g_9_69 n69 g_9_77 hl2 g_9_78 hl5 k_9 fr_9 (by omega) (by omega) (by omega) (by rw [en]; exact mx_at_s ht (by omega) (by omega) (by omega) (by rw [ez]; rfl) e2) (by omega)
      · refine ik_Wk 1 (pc' := 134) (loc' := [some (.ref 66), some (fI p), some (fI g), some (fI i)]) (st' := [fI 0, fI (ch.getD ((4 * p) + i).toNat 0), fI w, .ref 78]) (h' := h_7) (cl' := 0) (sl' := 0) rfl ?_
        refine fw_sub rfl ?_
        have hl6 : (wc1.set w.toNat ((ch.getD ((4 * p) + i).toNat 0) - 0)).length = 5 := (List.length_set ..).trans n78
        refine fx_ias rfl g_7_78 (by omega) (by omega) (by omega) ?_
        intro h_10 e_10 f_10 l_10
        have k_10 := l_10.trans k_7
        have fr_10 := hfr_w fr_7 f_10 l_10 (by decide)
        have g_10_66 := (f_10 66 (by decide)).trans g_7_66
        have g_10_67 := (f_10 67 (by decide)).trans g_7_67
        have g_10_68 := (f_10 68 (by decide)).trans g_7_68
        have g_10_69 := (f_10 69 (by decide)).trans g_7_69
        have g_10_77 := (f_10 77 (by decide)).trans g_7_77
        have g_10_78 : cE h_10 78 (.inl (.int, fA (wc1.set w.toNat ((ch.getD ((4 * p) + i).toNat 0) - 0)))) := e_10
        refine ik_Wk 2 (pc' := 138) (loc' := [some (.ref 66), some (fI p), some (fI g), some (fI i)]) (st' := [.ref 66, .ref 66]) (h' := h_10) (cl' := 0) (sl' := 0) rfl ?_
        refine fw_gf rfl rfl g_10_66 rfl ?_
        refine ik_Wk 1 (pc' := 142) (loc' := [some (.ref 66), some (fI p), some (fI g), some (fI i)]) (st' := [fI 1, fI w, .ref 66]) (h' := h_10) (cl' := 0) (sl' := 0) rfl ?_
        refine fw_add rfl ?_
        refine fx_pf rfl rfl g_10_66 (Nat.le_of_ble_eq_true rfl) rfl rfl ?_
        intro h_11 e_11 f_11 l_11
        have k_11 := l_11.trans k_10
        have fr_11 := hfr_w fr_10 f_11 l_11 (by decide)
        have g_11_67 := (f_11 67 (by decide)).trans g_10_67
        have g_11_68 := (f_11 68 (by decide)).trans g_10_68
        have g_11_69 := (f_11 69 (by decide)).trans g_10_69
        have g_11_77 := (f_11 77 (by decide)).trans g_10_77
        have g_11_78 := (f_11 78 (by decide)).trans g_10_78
        have g_11_66 : cE h_11 66 (.inr (10, [fI (f 0), .ref 67, .ref 68, .ref 69, fI ((s : Nat) : Int), .ref 70, .ref 71, fI (f 7), fI (f 8), .ref 72, fI (f 10), fI (f 11), fI (f 12), fJ (f 13), fI (f 14), fI (f 15), fI (f 16), fI (f 17), .ref 73, .ref 74, .ref 75, .ref 76, .ref 77, .ref 78, fI (w + 1), .ref 79, .ref 80, .ref 81, .ref 82, .ref 83, .ref 84, .ref 85, fJ (f 32), fJ (f 33), .ref 86, .ref 87, fI (f 36), .ref 88, .ref 89, .ref 90, .ref 91, .ref 92, .ref 93])) := e_11
        refine fw_inc (a := i) (loc' := [some (.ref 66), some (fI p), some (fI g), some (fI (i + 1))]) rfl rfl (Nat.le_of_ble_eq_true rfl) rfl ?_
        refine ik_Wk 1 (pc' := 78) (loc' := [some (.ref 66), some (fI p), some (fI g), some (fI (i + 1))]) (st' := []) (h' := h_11) (cl' := 0) (sl' := 0) rfl ?_
        have z1 := mx_o_le (ch := ch) (s := s) (p := p)
        have ez := mx_w_I (go := go) (ch := ch) (s := s) i0 (show i < cn.getD p.toNat 0 by omega)
        have en : mx_o ch s p + (i + 1).toNat = mx_o ch s p + i.toNat + 1 := by omega
        have e2 : ((ch.getD ((4 * p) + i).toNat 0) - 0) = ((mx_w cn go ch s p).getD (mx_o ch s p + i.toNat) (0, 0)).2 := by rw [ez]; show _ = (if i = 0 then _ else _); rw [← hg]; split <;> omega
        exact ih  (i + 1) (w + 1) (wg1.set w.toNat (go.getD ((4 * p) + i).toNat 0)) (wc1.set w.toNat ((ch.getD ((4 * p) + i).toNat 0) - 0)) h_11 g_11_66 g_11_67 n67 g_11_68 n68 g_11_69 n69 g_11_77 hl2 g_11_78 hl6 k_11 fr_11 (by omega) (by omega) (by omega) (by rw [en]; exact mx_at_s ht (by omega) (by omega) (by omega) (by rw [ez]; rfl) e2) (by omega)

theorem cr_list {h : List ik_E} {p : Int} {f : Nat → Int} {s : Nat} {cn : List Int} {go : List Int} {ch : List Int} {gt : List Int} {gd : List Int} (q0 : 0 ≤ p) (q1 : p < 12) (q2 : s < 4096) (q3 : 0 ≤ cn.getD p.toNat 0 ∧ cn.getD p.toNat 0 ≤ 4) (q4 : ∀ j : Int, 4 * p ≤ j → j < 4 * p + cn.getD p.toNat 0 → 0 ≤ ch.getD j.toNat 0 ∧ ch.getD j.toNat 0 ≤ 100) (q5 : 1 ≤ cn.getD p.toNat 0) (h66 : cE h 66 (.inr (10, [fI (f 0), .ref 67, .ref 68, .ref 69, fI ((s : Nat) : Int), .ref 70, .ref 71, fI (f 7), fI (f 8), .ref 72, fI (f 10), fI (f 11), fI (f 12), fJ (f 13), fI (f 14), fI (f 15), fI (f 16), fI (f 17), .ref 73, .ref 74, .ref 75, .ref 76, .ref 77, .ref 78, fI (f 24), .ref 79, .ref 80, .ref 81, .ref 82, .ref 83, .ref 84, .ref 85, fJ (f 32), fJ (f 33), .ref 86, .ref 87, fI (f 36), .ref 88, .ref 89, .ref 90, .ref 91, .ref 92, .ref 93]))) (h67 : cE h 67 (.inl (.int, fA cn))) (n67 : cn.length = 12) (h68 : cE h 68 (.inl (.int, fA go))) (n68 : go.length = 48) (h69 : cE h 69 (.inl (.int, fA ch))) (n69 : ch.length = 48) (h77 : cE h 77 (.inl (.int, fA gt))) (n77 : gt.length = 5) (h78 : cE h 78 (.inl (.int, fA gd))) (n78 : gd.length = 5) (hl : h.length = 94) : ik_F 152 [.ref 66, fI p] h (fun rv h' => ∃ (gt' : List Int) (gd' : List Int), rv = [] ∧ cE h' 66 (.inr (10, [fI (f 0), .ref 67, .ref 68, .ref 69, fI ((s : Nat) : Int), .ref 70, .ref 71, fI (f 7), fI (f 8), .ref 72, fI (f 10), fI (f 11), fI (f 12), fJ (f 13), fI (f 14), fI (f 15), fI (f 16), fI (f 17), .ref 73, .ref 74, .ref 75, .ref 76, .ref 77, .ref 78, fI ((mx_w cn go ch s p).length : Int), .ref 79, .ref 80, .ref 81, .ref 82, .ref 83, .ref 84, .ref 85, fJ (f 32), fJ (f 33), .ref 86, .ref 87, fI (f 36), .ref 88, .ref 89, .ref 90, .ref 91, .ref 92, .ref 93])) ∧ cE h' 77 (.inl (.int, fA gt')) ∧ gt'.length = 5 ∧ cE h' 78 (.inl (.int, fA gd')) ∧ gd'.length = 5 ∧ (mx_at 0 (mx_w cn go ch s p) gt' gd' (mx_w cn go ch s p).length) ∧ hfr [66, 77, 78] h h') := by
  refine ik_Wk 1 (pc' := 1) (loc' := [some (.ref 66), some (fI p), none, none]) (st' := [.ref 66]) (h' := h) (cl' := 0) (sl' := 0) rfl ?_
  refine fw_gf rfl rfl h66 rfl ?_
  refine ik_Wk 2 (pc' := 6) (loc' := [some (.ref 66), some (fI p), none, none]) (st' := [fI p, fI 4, .ref 69]) (h' := h) (cl' := 0) (sl' := 0) rfl ?_
  refine fw_mul rfl ?_
  refine fw_ial rfl h69 (by omega) (by omega) (by omega) ?_
  have hd1 := q4 (4 * p) (by omega) (by omega)
  refine ik_Wk 1 (pc' := 9) (loc' := [some (.ref 66), some (fI p), none, none]) (st' := [fI 1, fI (ch.getD (4 * p).toNat 0)]) (h' := h) (cl' := 0) (sl' := 0) rfl ?_
  refine fw_sub rfl ?_
  refine fw_bi rfl (by decide) ?_
  refine fw_ic_ge rfl rfl (by omega) (by omega) (by omega) (by omega) (fun hc2 => ?_) (fun hc2 => ?_)
  · refine fw_bi rfl (by decide) ?_
    refine ik_Wk 2 (pc' := 32) (loc' := [some (.ref 66), some (fI p), some (fI 20), none]) (st' := [.ref 66]) (h' := h) (cl' := 0) (sl' := 0) rfl ?_
    refine fw_gf rfl rfl h66 rfl ?_
    refine ik_Wk 1 (pc' := 36) (loc' := [some (.ref 66), some (fI p), some (fI 20), none]) (st' := [fI p, fI ((s : Nat) : Int)]) (h' := h) (cl' := 0) (sl' := 0) rfl ?_
    refine ik_Wc 128 2 3 [fI ((s : Nat) : Int), fI p] [] rfl rfl rfl (by decide) rfl rfl (fw_sta hl rfl (by decide)) ?_
    refine ik_Wk 0 (pc' := 0) (loc' := [some (fI ((s : Nat) : Int)), some (fI p)]) (st' := []) (h' := h) (cl' := 0) (sl' := 0) rfl ?_
    refine ik_Wk 2 (pc' := 2) (loc' := [some (fI ((s : Nat) : Int)), some (fI p)]) (st' := [fI p, fI ((s : Nat) : Int)]) (h' := h) (cl' := 0) (sl' := 0) rfl ?_
    refine fx_shr (n := s) rfl (by omega) (by omega) (by omega) ?_
    refine ik_Wk 1 (pc' := 4) (loc' := [some (fI ((s : Nat) : Int)), some (fI p)]) (st' := [fI 1, fI ((s >>> p.toNat : Nat) : Int)]) (h' := h) (cl' := 0) (sl' := 0) rfl ?_
    refine fx_bit (n := s) (k := p.toNat) rfl (fun hb3 => ?_) (fun hb3 => ?_)
    · refine ik_Wk 0 (pc' := 5) (loc' := [some (fI ((s : Nat) : Int)), some (fI p)]) (st' := [fI 1]) (h' := h) (cl' := 0) (sl' := 0) rfl ?_
      refine ik_Wk 1 (pc' := 6) (loc' := [some (fI ((s : Nat) : Int)), some (fI p)]) (st' := [fI 1, fI 1]) (h' := h) (cl' := 0) (sl' := 0) rfl ?_
      refine fw_ic_ne rfl rfl (by omega) (by omega) (by omega) (by omega) (fun hc4 => ?_) (fun hc4 => absurd hc4 (by omega))
      refine ik_Wk 2 (pc' := 14) (loc' := [some (fI ((s : Nat) : Int)), some (fI p)]) (st' := [fI 1]) (h' := h) (cl' := 0) (sl' := 0) rfl ?_
      refine ik_Wret rfl rfl ⟨_, _, rfl, rfl, ?_⟩
      refine ik_Wk 0 (pc' := 39) (loc' := [some (.ref 66), some (fI p), some (fI 20), none]) (st' := [fI 1]) (h' := h) (cl' := 0) (sl' := 0) rfl ?_
      refine fw_if_eq rfl rfl (by omega) (by omega) (fun hc5 => absurd hc5 (by omega)) (fun hc5 => ?_)
      refine ik_Wk 5 (pc' := 50) (loc' := [some (.ref 66), some (fI p), some (fI 20), none]) (st' := [fI 0, .ref 66]) (h' := h) (cl' := 0) (sl' := 0) rfl ?_
      refine fx_pf rfl rfl h66 (Nat.le_of_ble_eq_true rfl) rfl rfl ?_
      intro h_12 e_12 f_12 l_12
      have k_12 := l_12.trans hl
      have fr_12 := hfr_w (hfr_refl [66, 77, 78] h) f_12 l_12 (by decide)
      have g_12_67 := (f_12 67 (by decide)).trans h67
      have g_12_68 := (f_12 68 (by decide)).trans h68
      have g_12_69 := (f_12 69 (by decide)).trans h69
      have g_12_77 := (f_12 77 (by decide)).trans h77
      have g_12_78 := (f_12 78 (by decide)).trans h78
      have g_12_66 : cE h_12 66 (.inr (10, [fI (f 0), .ref 67, .ref 68, .ref 69, fI ((s : Nat) : Int), .ref 70, .ref 71, fI (f 7), fI (f 8), .ref 72, fI (f 10), fI (f 11), fI (f 12), fJ (f 13), fI (f 14), fI (f 15), fI (f 16), fI (f 17), .ref 73, .ref 74, .ref 75, .ref 76, .ref 77, .ref 78, fI 0, .ref 79, .ref 80, .ref 81, .ref 82, .ref 83, .ref 84, .ref 85, fJ (f 32), fJ (f 33), .ref 86, .ref 87, fI (f 36), .ref 88, .ref 89, .ref 90, .ref 91, .ref 92, .ref 93])) := e_12
      refine ik_Wk 1 (pc' := 54) (loc' := [some (.ref 66), some (fI p), some (fI 20), none]) (st' := [fI 20]) (h' := h_12) (cl' := 0) (sl' := 0) rfl ?_
      refine fw_if_le rfl rfl (by omega) (by omega) (fun hc6 => absurd hc6 (by omega)) (fun hc6 => ?_)
      refine ik_Wk 1 (pc' := 58) (loc' := [some (.ref 66), some (fI p), some (fI 20), none]) (st' := [.ref 66]) (h' := h_12) (cl' := 0) (sl' := 0) rfl ?_
      refine fw_gf rfl rfl g_12_66 rfl ?_
      refine ik_Wk 2 (pc' := 63) (loc' := [some (.ref 66), some (fI p), some (fI 20), none]) (st' := [fI p, fI 0, .ref 77]) (h' := h_12) (cl' := 0) (sl' := 0) rfl ?_
      have hl7 : (gt.set (0 : Int).toNat p).length = 5 := (List.length_set ..).trans n77
      refine fx_ias rfl g_12_77 (by omega) (by omega) (by omega) ?_
      intro h_13 e_13 f_13 l_13
      have k_13 := l_13.trans k_12
      have fr_13 := hfr_w fr_12 f_13 l_13 (by decide)
      have g_13_66 := (f_13 66 (by decide)).trans g_12_66
      have g_13_67 := (f_13 67 (by decide)).trans g_12_67
      have g_13_68 := (f_13 68 (by decide)).trans g_12_68
      have g_13_69 := (f_13 69 (by decide)).trans g_12_69
      have g_13_78 := (f_13 78 (by decide)).trans g_12_78
      have g_13_77 : cE h_13 77 (.inl (.int, fA (gt.set (0 : Int).toNat p))) := e_13
      refine ik_Wk 1 (pc' := 65) (loc' := [some (.ref 66), some (fI p), some (fI 20), none]) (st' := [.ref 66]) (h' := h_13) (cl' := 0) (sl' := 0) rfl ?_
      refine fw_gf rfl rfl g_13_66 rfl ?_
      refine ik_Wk 2 (pc' := 70) (loc' := [some (.ref 66), some (fI p), some (fI 20), none]) (st' := [fI 20, fI 0, .ref 78]) (h' := h_13) (cl' := 0) (sl' := 0) rfl ?_
      have hl8 : (gd.set (0 : Int).toNat 20).length = 5 := (List.length_set ..).trans n78
      refine fx_ias rfl g_13_78 (by omega) (by omega) (by omega) ?_
      intro h_14 e_14 f_14 l_14
      have k_14 := l_14.trans k_13
      have fr_14 := hfr_w fr_13 f_14 l_14 (by decide)
      have g_14_66 := (f_14 66 (by decide)).trans g_13_66
      have g_14_67 := (f_14 67 (by decide)).trans g_13_67
      have g_14_68 := (f_14 68 (by decide)).trans g_13_68
      have g_14_69 := (f_14 69 (by decide)).trans g_13_69
      have g_14_77 := (f_14 77 (by decide)).trans g_13_77
      have g_14_78 : cE h_14 78 (.inl (.int, fA (gd.set (0 : Int).toNat 20))) := e_14
      refine ik_Wk 2 (pc' := 73) (loc' := [some (.ref 66), some (fI p), some (fI 20), none]) (st' := [fI 1, .ref 66]) (h' := h_14) (cl' := 0) (sl' := 0) rfl ?_
      refine fx_pf rfl rfl g_14_66 (Nat.le_of_ble_eq_true rfl) rfl rfl ?_
      intro h_15 e_15 f_15 l_15
      have k_15 := l_15.trans k_14
      have fr_15 := hfr_w fr_14 f_15 l_15 (by decide)
      have g_15_67 := (f_15 67 (by decide)).trans g_14_67
      have g_15_68 := (f_15 68 (by decide)).trans g_14_68
      have g_15_69 := (f_15 69 (by decide)).trans g_14_69
      have g_15_77 := (f_15 77 (by decide)).trans g_14_77
      have g_15_78 := (f_15 78 (by decide)).trans g_14_78
      have g_15_66 : cE h_15 66 (.inr (10, [fI (f 0), .ref 67, .ref 68, .ref 69, fI ((s : Nat) : Int), .ref 70, .ref 71, fI (f 7), fI (f 8), .ref 72, fI (f 10), fI (f 11), fI (f 12), fJ (f 13), fI (f 14), fI (f 15), fI (f 16), fI (f 17), .ref 73, .ref 74, .ref 75, .ref 76, .ref 77, .ref 78, fI 1, .ref 79, .ref 80, .ref 81, .ref 82, .ref 83, .ref 84, .ref 85, fJ (f 32), fJ (f 33), .ref 86, .ref 87, fI (f 36), .ref 88, .ref 89, .ref 90, .ref 91, .ref 92, .ref 93])) := e_15
      refine ik_Wk 2 (pc' := 78) (loc' := [some (.ref 66), some (fI p), some (fI 20), some (fI 0)]) (st' := []) (h' := h_15) (cl' := 0) (sl' := 0) rfl ?_
      have hg := mx_g_t (m := 20) (ch := ch) hb3 (by omega)
      have hz := mx_o_1 (ch := ch) (s := s) (p := p) (by omega)
      exact cr_listL (p := p) (f := f) (s := s) (cn := cn) (go := go) (ch := ch) (gt := gt) (gd := gd) q0 q1 q2 q3 q4 q5 hg ((cn.getD p.toNat 0).toNat + 1) 0 1 (gt.set (0 : Int).toNat p) (gd.set (0 : Int).toNat 20) h_15 g_15_66 g_15_67 n67 g_15_68 n68 g_15_69 n69 g_15_77 hl7 g_15_78 hl8 k_15 fr_15 (by omega) (by omega) (by omega) (by rw [hz]; exact mx_at_s (n := 0) (mx_at_0 _ _ _ _) (by omega) (by omega) (by omega) (by rw [mx_w_0 (by omega)]) (by rw [mx_w_0 (by omega)]; exact hg)) (by omega)
    · refine ik_Wk 0 (pc' := 5) (loc' := [some (fI ((s : Nat) : Int)), some (fI p)]) (st' := [fI 0]) (h' := h) (cl' := 0) (sl' := 0) rfl ?_
      refine ik_Wk 1 (pc' := 6) (loc' := [some (fI ((s : Nat) : Int)), some (fI p)]) (st' := [fI 1, fI 0]) (h' := h) (cl' := 0) (sl' := 0) rfl ?_
      refine fw_ic_ne rfl rfl (by omega) (by omega) (by omega) (by omega) (fun hc9 => absurd hc9 (by omega)) (fun hc9 => ?_)
      refine ik_Wk 1 (pc' := 14) (loc' := [some (fI ((s : Nat) : Int)), some (fI p)]) (st' := [fI 0]) (h' := h) (cl' := 0) (sl' := 0) rfl ?_
      refine ik_Wret rfl rfl ⟨_, _, rfl, rfl, ?_⟩
      refine ik_Wk 0 (pc' := 39) (loc' := [some (.ref 66), some (fI p), some (fI 20), none]) (st' := [fI 0]) (h' := h) (cl' := 0) (sl' := 0) rfl ?_
      refine fw_if_eq rfl rfl (by omega) (by omega) (fun hc10 => ?_) (fun hc10 => absurd hc10 (by omega))
      refine ik_Wk 4 (pc' := 50) (loc' := [some (.ref 66), some (fI p), some (fI 0), none]) (st' := [fI 0, .ref 66]) (h' := h) (cl' := 0) (sl' := 0) rfl ?_
      refine fx_pf rfl rfl h66 (Nat.le_of_ble_eq_true rfl) rfl rfl ?_
      intro h_16 e_16 f_16 l_16
      have k_16 := l_16.trans hl
      have fr_16 := hfr_w (hfr_refl [66, 77, 78] h) f_16 l_16 (by decide)
      have g_16_67 := (f_16 67 (by decide)).trans h67
      have g_16_68 := (f_16 68 (by decide)).trans h68
      have g_16_69 := (f_16 69 (by decide)).trans h69
      have g_16_77 := (f_16 77 (by decide)).trans h77
      have g_16_78 := (f_16 78 (by decide)).trans h78
      have g_16_66 : cE h_16 66 (.inr (10, [fI (f 0), .ref 67, .ref 68, .ref 69, fI ((s : Nat) : Int), .ref 70, .ref 71, fI (f 7), fI (f 8), .ref 72, fI (f 10), fI (f 11), fI (f 12), fJ (f 13), fI (f 14), fI (f 15), fI (f 16), fI (f 17), .ref 73, .ref 74, .ref 75, .ref 76, .ref 77, .ref 78, fI 0, .ref 79, .ref 80, .ref 81, .ref 82, .ref 83, .ref 84, .ref 85, fJ (f 32), fJ (f 33), .ref 86, .ref 87, fI (f 36), .ref 88, .ref 89, .ref 90, .ref 91, .ref 92, .ref 93])) := e_16
      refine ik_Wk 1 (pc' := 54) (loc' := [some (.ref 66), some (fI p), some (fI 0), none]) (st' := [fI 0]) (h' := h_16) (cl' := 0) (sl' := 0) rfl ?_
      refine fw_if_le rfl rfl (by omega) (by omega) (fun hc11 => ?_) (fun hc11 => absurd hc11 (by omega))
      refine ik_Wk 2 (pc' := 78) (loc' := [some (.ref 66), some (fI p), some (fI 0), some (fI 0)]) (st' := []) (h' := h_16) (cl' := 0) (sl' := 0) rfl ?_
      have hg := mx_g_f (ch := ch) hb3
      have hz := mx_o_0 (ch := ch) (s := s) (p := p) (by omega)
      exact cr_listL (p := p) (f := f) (s := s) (cn := cn) (go := go) (ch := ch) (gt := gt) (gd := gd) q0 q1 q2 q3 q4 q5 hg ((cn.getD p.toNat 0).toNat + 1) 0 0 gt gd h_16 g_16_66 g_16_67 n67 g_16_68 n68 g_16_69 n69 g_16_77 n77 g_16_78 n78 k_16 fr_16 (by omega) (by omega) (by omega) (by rw [hz]; exact mx_at_0 _ _ _ _) (by omega)
  · refine ik_Wk 1 (pc' := 16) (loc' := [some (.ref 66), some (fI p), none, none]) (st' := [.ref 66]) (h' := h) (cl' := 0) (sl' := 0) rfl ?_
    refine fw_gf rfl rfl h66 rfl ?_
    refine ik_Wk 2 (pc' := 21) (loc' := [some (.ref 66), some (fI p), none, none]) (st' := [fI p, fI 4, .ref 69]) (h' := h) (cl' := 0) (sl' := 0) rfl ?_
    refine fw_mul rfl ?_
    refine fw_ial rfl h69 (by omega) (by omega) (by omega) ?_
    have hd12 := q4 (4 * p) (by omega) (by omega)
    refine ik_Wk 1 (pc' := 24) (loc' := [some (.ref 66), some (fI p), none, none]) (st' := [fI 1, fI (ch.getD (4 * p).toNat 0)]) (h' := h) (cl' := 0) (sl' := 0) rfl ?_
    refine fw_sub rfl ?_
    refine ik_Wk 3 (pc' := 32) (loc' := [some (.ref 66), some (fI p), some (fI ((ch.getD (4 * p).toNat 0) - 1)), none]) (st' := [.ref 66]) (h' := h) (cl' := 0) (sl' := 0) rfl ?_
    refine fw_gf rfl rfl h66 rfl ?_
    refine ik_Wk 1 (pc' := 36) (loc' := [some (.ref 66), some (fI p), some (fI ((ch.getD (4 * p).toNat 0) - 1)), none]) (st' := [fI p, fI ((s : Nat) : Int)]) (h' := h) (cl' := 0) (sl' := 0) rfl ?_
    refine ik_Wc 128 2 3 [fI ((s : Nat) : Int), fI p] [] rfl rfl rfl (by decide) rfl rfl (fw_sta hl rfl (by decide)) ?_
    refine ik_Wk 0 (pc' := 0) (loc' := [some (fI ((s : Nat) : Int)), some (fI p)]) (st' := []) (h' := h) (cl' := 0) (sl' := 0) rfl ?_
    refine ik_Wk 2 (pc' := 2) (loc' := [some (fI ((s : Nat) : Int)), some (fI p)]) (st' := [fI p, fI ((s : Nat) : Int)]) (h' := h) (cl' := 0) (sl' := 0) rfl ?_
    refine fx_shr (n := s) rfl (by omega) (by omega) (by omega) ?_
    refine ik_Wk 1 (pc' := 4) (loc' := [some (fI ((s : Nat) : Int)), some (fI p)]) (st' := [fI 1, fI ((s >>> p.toNat : Nat) : Int)]) (h' := h) (cl' := 0) (sl' := 0) rfl ?_
    refine fx_bit (n := s) (k := p.toNat) rfl (fun hb13 => ?_) (fun hb13 => ?_)
    · refine ik_Wk 0 (pc' := 5) (loc' := [some (fI ((s : Nat) : Int)), some (fI p)]) (st' := [fI 1]) (h' := h) (cl' := 0) (sl' := 0) rfl ?_
      refine ik_Wk 1 (pc' := 6) (loc' := [some (fI ((s : Nat) : Int)), some (fI p)]) (st' := [fI 1, fI 1]) (h' := h) (cl' := 0) (sl' := 0) rfl ?_
      refine fw_ic_ne rfl rfl (by omega) (by omega) (by omega) (by omega) (fun hc14 => ?_) (fun hc14 => absurd hc14 (by omega))
      refine ik_Wk 2 (pc' := 14) (loc' := [some (fI ((s : Nat) : Int)), some (fI p)]) (st' := [fI 1]) (h' := h) (cl' := 0) (sl' := 0) rfl ?_
      refine ik_Wret rfl rfl ⟨_, _, rfl, rfl, ?_⟩
      refine ik_Wk 0 (pc' := 39) (loc' := [some (.ref 66), some (fI p), some (fI ((ch.getD (4 * p).toNat 0) - 1)), none]) (st' := [fI 1]) (h' := h) (cl' := 0) (sl' := 0) rfl ?_
      refine fw_if_eq rfl rfl (by omega) (by omega) (fun hc15 => absurd hc15 (by omega)) (fun hc15 => ?_)
      refine ik_Wk 5 (pc' := 50) (loc' := [some (.ref 66), some (fI p), some (fI ((ch.getD (4 * p).toNat 0) - 1)), none]) (st' := [fI 0, .ref 66]) (h' := h) (cl' := 0) (sl' := 0) rfl ?_
      refine fx_pf rfl rfl h66 (Nat.le_of_ble_eq_true rfl) rfl rfl ?_
      intro h_17 e_17 f_17 l_17
      have k_17 := l_17.trans hl
      have fr_17 := hfr_w (hfr_refl [66, 77, 78] h) f_17 l_17 (by decide)
      have g_17_67 := (f_17 67 (by decide)).trans h67
      have g_17_68 := (f_17 68 (by decide)).trans h68
      have g_17_69 := (f_17 69 (by decide)).trans h69
      have g_17_77 := (f_17 77 (by decide)).trans h77
      have g_17_78 := (f_17 78 (by decide)).trans h78
      have g_17_66 : cE h_17 66 (.inr (10, [fI (f 0), .ref 67, .ref 68, .ref 69, fI ((s : Nat) : Int), .ref 70, .ref 71, fI (f 7), fI (f 8), .ref 72, fI (f 10), fI (f 11), fI (f 12), fJ (f 13), fI (f 14), fI (f 15), fI (f 16), fI (f 17), .ref 73, .ref 74, .ref 75, .ref 76, .ref 77, .ref 78, fI 0, .ref 79, .ref 80, .ref 81, .ref 82, .ref 83, .ref 84, .ref 85, fJ (f 32), fJ (f 33), .ref 86, .ref 87, fI (f 36), .ref 88, .ref 89, .ref 90, .ref 91, .ref 92, .ref 93])) := e_17
      refine ik_Wk 1 (pc' := 54) (loc' := [some (.ref 66), some (fI p), some (fI ((ch.getD (4 * p).toNat 0) - 1)), none]) (st' := [fI ((ch.getD (4 * p).toNat 0) - 1)]) (h' := h_17) (cl' := 0) (sl' := 0) rfl ?_
      refine fw_if_le rfl rfl (by omega) (by omega) (fun hc16 => ?_) (fun hc16 => ?_)
      · refine ik_Wk 2 (pc' := 78) (loc' := [some (.ref 66), some (fI p), some (fI ((ch.getD (4 * p).toNat 0) - 1)), some (fI 0)]) (st' := []) (h' := h_17) (cl' := 0) (sl' := 0) rfl ?_
        have hg := mx_g_t (m := (ch.getD (4 * p).toNat 0) - 1) (ch := ch) hb13 (by omega)
        have hz := mx_o_0 (ch := ch) (s := s) (p := p) (by omega)
        exact cr_listL (p := p) (f := f) (s := s) (cn := cn) (go := go) (ch := ch) (gt := gt) (gd := gd) q0 q1 q2 q3 q4 q5 hg ((cn.getD p.toNat 0).toNat + 1) 0 0 gt gd h_17 g_17_66 g_17_67 n67 g_17_68 n68 g_17_69 n69 g_17_77 n77 g_17_78 n78 k_17 fr_17 (by omega) (by omega) (by omega) (by rw [hz]; exact mx_at_0 _ _ _ _) (by omega)
      · refine ik_Wk 1 (pc' := 58) (loc' := [some (.ref 66), some (fI p), some (fI ((ch.getD (4 * p).toNat 0) - 1)), none]) (st' := [.ref 66]) (h' := h_17) (cl' := 0) (sl' := 0) rfl ?_
        refine fw_gf rfl rfl g_17_66 rfl ?_
        refine ik_Wk 2 (pc' := 63) (loc' := [some (.ref 66), some (fI p), some (fI ((ch.getD (4 * p).toNat 0) - 1)), none]) (st' := [fI p, fI 0, .ref 77]) (h' := h_17) (cl' := 0) (sl' := 0) rfl ?_
        have hl17 : (gt.set (0 : Int).toNat p).length = 5 := (List.length_set ..).trans n77
        refine fx_ias rfl g_17_77 (by omega) (by omega) (by omega) ?_
        intro h_18 e_18 f_18 l_18
        have k_18 := l_18.trans k_17
        have fr_18 := hfr_w fr_17 f_18 l_18 (by decide)
        have g_18_66 := (f_18 66 (by decide)).trans g_17_66
        have g_18_67 := (f_18 67 (by decide)).trans g_17_67
        have g_18_68 := (f_18 68 (by decide)).trans g_17_68
        have g_18_69 := (f_18 69 (by decide)).trans g_17_69
        have g_18_78 := (f_18 78 (by decide)).trans g_17_78
        have g_18_77 : cE h_18 77 (.inl (.int, fA (gt.set (0 : Int).toNat p))) := e_18
        refine ik_Wk 1 (pc' := 65) (loc' := [some (.ref 66), some (fI p), some (fI ((ch.getD (4 * p).toNat 0) - 1)), none]) (st' := [.ref 66]) (h' := h_18) (cl' := 0) (sl' := 0) rfl ?_
        refine fw_gf rfl rfl g_18_66 rfl ?_
        refine ik_Wk 2 (pc' := 70) (loc' := [some (.ref 66), some (fI p), some (fI ((ch.getD (4 * p).toNat 0) - 1)), none]) (st' := [fI ((ch.getD (4 * p).toNat 0) - 1), fI 0, .ref 78]) (h' := h_18) (cl' := 0) (sl' := 0) rfl ?_
        have hl18 : (gd.set (0 : Int).toNat ((ch.getD (4 * p).toNat 0) - 1)).length = 5 := (List.length_set ..).trans n78
        refine fx_ias rfl g_18_78 (by omega) (by omega) (by omega) ?_
        intro h_19 e_19 f_19 l_19
        have k_19 := l_19.trans k_18
        have fr_19 := hfr_w fr_18 f_19 l_19 (by decide)
        have g_19_66 := (f_19 66 (by decide)).trans g_18_66
        have g_19_67 := (f_19 67 (by decide)).trans g_18_67
        have g_19_68 := (f_19 68 (by decide)).trans g_18_68
        have g_19_69 := (f_19 69 (by decide)).trans g_18_69
        have g_19_77 := (f_19 77 (by decide)).trans g_18_77
        have g_19_78 : cE h_19 78 (.inl (.int, fA (gd.set (0 : Int).toNat ((ch.getD (4 * p).toNat 0) - 1)))) := e_19
        refine ik_Wk 2 (pc' := 73) (loc' := [some (.ref 66), some (fI p), some (fI ((ch.getD (4 * p).toNat 0) - 1)), none]) (st' := [fI 1, .ref 66]) (h' := h_19) (cl' := 0) (sl' := 0) rfl ?_
        refine fx_pf rfl rfl g_19_66 (Nat.le_of_ble_eq_true rfl) rfl rfl ?_
        intro h_20 e_20 f_20 l_20
        have k_20 := l_20.trans k_19
        have fr_20 := hfr_w fr_19 f_20 l_20 (by decide)
        have g_20_67 := (f_20 67 (by decide)).trans g_19_67
        have g_20_68 := (f_20 68 (by decide)).trans g_19_68
        have g_20_69 := (f_20 69 (by decide)).trans g_19_69
        have g_20_77 := (f_20 77 (by decide)).trans g_19_77
        have g_20_78 := (f_20 78 (by decide)).trans g_19_78
        have g_20_66 : cE h_20 66 (.inr (10, [fI (f 0), .ref 67, .ref 68, .ref 69, fI ((s : Nat) : Int), .ref 70, .ref 71, fI (f 7), fI (f 8), .ref 72, fI (f 10), fI (f 11), fI (f 12), fJ (f 13), fI (f 14), fI (f 15), fI (f 16), fI (f 17), .ref 73, .ref 74, .ref 75, .ref 76, .ref 77, .ref 78, fI 1, .ref 79, .ref 80, .ref 81, .ref 82, .ref 83, .ref 84, .ref 85, fJ (f 32), fJ (f 33), .ref 86, .ref 87, fI (f 36), .ref 88, .ref 89, .ref 90, .ref 91, .ref 92, .ref 93])) := e_20
        refine ik_Wk 2 (pc' := 78) (loc' := [some (.ref 66), some (fI p), some (fI ((ch.getD (4 * p).toNat 0) - 1)), some (fI 0)]) (st' := []) (h' := h_20) (cl' := 0) (sl' := 0) rfl ?_
        have hg := mx_g_t (m := (ch.getD (4 * p).toNat 0) - 1) (ch := ch) hb13 (by omega)
        have hz := mx_o_1 (ch := ch) (s := s) (p := p) (by omega)
        exact cr_listL (p := p) (f := f) (s := s) (cn := cn) (go := go) (ch := ch) (gt := gt) (gd := gd) q0 q1 q2 q3 q4 q5 hg ((cn.getD p.toNat 0).toNat + 1) 0 1 (gt.set (0 : Int).toNat p) (gd.set (0 : Int).toNat ((ch.getD (4 * p).toNat 0) - 1)) h_20 g_20_66 g_20_67 n67 g_20_68 n68 g_20_69 n69 g_20_77 hl17 g_20_78 hl18 k_20 fr_20 (by omega) (by omega) (by omega) (by rw [hz]; exact mx_at_s (n := 0) (mx_at_0 _ _ _ _) (by omega) (by omega) (by omega) (by rw [mx_w_0 (by omega)]) (by rw [mx_w_0 (by omega)]; exact hg)) (by omega)
    · refine ik_Wk 0 (pc' := 5) (loc' := [some (fI ((s : Nat) : Int)), some (fI p)]) (st' := [fI 0]) (h' := h) (cl' := 0) (sl' := 0) rfl ?_
      refine ik_Wk 1 (pc' := 6) (loc' := [some (fI ((s : Nat) : Int)), some (fI p)]) (st' := [fI 1, fI 0]) (h' := h) (cl' := 0) (sl' := 0) rfl ?_
      refine fw_ic_ne rfl rfl (by omega) (by omega) (by omega) (by omega) (fun hc19 => absurd hc19 (by omega)) (fun hc19 => ?_)
      refine ik_Wk 1 (pc' := 14) (loc' := [some (fI ((s : Nat) : Int)), some (fI p)]) (st' := [fI 0]) (h' := h) (cl' := 0) (sl' := 0) rfl ?_
      refine ik_Wret rfl rfl ⟨_, _, rfl, rfl, ?_⟩
      refine ik_Wk 0 (pc' := 39) (loc' := [some (.ref 66), some (fI p), some (fI ((ch.getD (4 * p).toNat 0) - 1)), none]) (st' := [fI 0]) (h' := h) (cl' := 0) (sl' := 0) rfl ?_
      refine fw_if_eq rfl rfl (by omega) (by omega) (fun hc20 => ?_) (fun hc20 => absurd hc20 (by omega))
      refine ik_Wk 4 (pc' := 50) (loc' := [some (.ref 66), some (fI p), some (fI 0), none]) (st' := [fI 0, .ref 66]) (h' := h) (cl' := 0) (sl' := 0) rfl ?_
      refine fx_pf rfl rfl h66 (Nat.le_of_ble_eq_true rfl) rfl rfl ?_
      intro h_21 e_21 f_21 l_21
      have k_21 := l_21.trans hl
      have fr_21 := hfr_w (hfr_refl [66, 77, 78] h) f_21 l_21 (by decide)
      have g_21_67 := (f_21 67 (by decide)).trans h67
      have g_21_68 := (f_21 68 (by decide)).trans h68
      have g_21_69 := (f_21 69 (by decide)).trans h69
      have g_21_77 := (f_21 77 (by decide)).trans h77
      have g_21_78 := (f_21 78 (by decide)).trans h78
      have g_21_66 : cE h_21 66 (.inr (10, [fI (f 0), .ref 67, .ref 68, .ref 69, fI ((s : Nat) : Int), .ref 70, .ref 71, fI (f 7), fI (f 8), .ref 72, fI (f 10), fI (f 11), fI (f 12), fJ (f 13), fI (f 14), fI (f 15), fI (f 16), fI (f 17), .ref 73, .ref 74, .ref 75, .ref 76, .ref 77, .ref 78, fI 0, .ref 79, .ref 80, .ref 81, .ref 82, .ref 83, .ref 84, .ref 85, fJ (f 32), fJ (f 33), .ref 86, .ref 87, fI (f 36), .ref 88, .ref 89, .ref 90, .ref 91, .ref 92, .ref 93])) := e_21
      refine ik_Wk 1 (pc' := 54) (loc' := [some (.ref 66), some (fI p), some (fI 0), none]) (st' := [fI 0]) (h' := h_21) (cl' := 0) (sl' := 0) rfl ?_
      refine fw_if_le rfl rfl (by omega) (by omega) (fun hc21 => ?_) (fun hc21 => absurd hc21 (by omega))
      refine ik_Wk 2 (pc' := 78) (loc' := [some (.ref 66), some (fI p), some (fI 0), some (fI 0)]) (st' := []) (h' := h_21) (cl' := 0) (sl' := 0) rfl ?_
      have hg := mx_g_f (ch := ch) hb13
      have hz := mx_o_0 (ch := ch) (s := s) (p := p) (by omega)
      exact cr_listL (p := p) (f := f) (s := s) (cn := cn) (go := go) (ch := ch) (gt := gt) (gd := gd) q0 q1 q2 q3 q4 q5 hg ((cn.getD p.toNat 0).toNat + 1) 0 0 gt gd h_21 g_21_66 g_21_67 n67 g_21_68 n68 g_21_69 n69 g_21_77 n77 g_21_78 n78 k_21 fr_21 (by omega) (by omega) (by omega) (by rw [hz]; exact mx_at_0 _ _ _ _) (by omega)

end