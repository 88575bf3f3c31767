/-! 38u.bed -/
noncomputable section
/-! ways: settle (class), listMoves (reference); where a draw goes: goalBy, gone (written by wip/fx/u1.py) -/
theorem cr_in {h : List ik_E} {v : Int} {a : Int} {b : Int} (q0 : -9223372036854775808 ≤ v ∧ v < 9223372036854775808) (q1 : -9223372036854775808 ≤ a ∧ a < 9223372036854775808) (q2 : -9223372036854775808 ≤ b ∧ b < 9223372036854775808)  (hl : h.length = 94) : ik_F 127 [fJ v, fJ a, fJ b] h (fun rv h_q => (rv = [fI 1] ∧ (a ≤ v ∧ v ≤ b) ∧ hfr [] h h_q) ∨ (rv = [fI 0] ∧ (v < a ∨ b < v) ∧ hfr [] h h_q)) := by
  refine ik_Wk 2 (pc_q := 2) (loc_q := [some (fJ v), none, some (fJ a), none, some (fJ b), none]) (st_q := [fJ a, fJ v]) (h_q := h) (cl_q := 0) (sl_q := 0) rfl ?_
  refine fw_lcmp_lt rfl rfl rfl (by omega) (by omega) (by omega) (by omega) (fun hc1 => ?_) (fun hc1 => ?_)
  · refine ik_Wk 1 (pc_q := 18) (loc_q := [some (fJ v), none, some (fJ a), none, some (fJ b), none]) (st_q := [fI 0]) (h_q := h) (cl_q := 0) (sl_q := 0) rfl ?_
    exact ik_Wret rfl rfl ⟨_, _, rfl, rfl, rfl, rfl, Or.inr ⟨rfl, (by omega), (hfr_refl [] h)⟩⟩
  · refine ik_Wk 2 (pc_q := 9) (loc_q := [some (fJ v), none, some (fJ a), none, some (fJ b), none]) (st_q := [fJ b, fJ v]) (h_q := h) (cl_q := 0) (sl_q := 0) rfl ?_
    refine fw_lcmp_gt rfl rfl rfl (by omega) (by omega) (by omega) (by omega) (fun hc2 => ?_) (fun hc2 => ?_)
    · refine ik_Wk 1 (pc_q := 18) (loc_q := [some (fJ v), none, some (fJ a), none, some (fJ b), none]) (st_q := [fI 0]) (h_q := h) (cl_q := 0) (sl_q := 0) rfl ?_
      exact ik_Wret rfl rfl ⟨_, _, rfl, rfl, rfl, rfl, Or.inr ⟨rfl, (by omega), (hfr_refl [] h)⟩⟩
    · refine ik_Wk 2 (pc_q := 18) (loc_q := [some (fJ v), none, some (fJ a), none, some (fJ b), none]) (st_q := [fI 1]) (h_q := h) (cl_q := 0) (sl_q := 0) rfl ?_
      exact ik_Wret rfl rfl ⟨_, _, rfl, rfl, rfl, rfl, Or.inl ⟨rfl, (by omega), (hfr_refl [] h)⟩⟩

theorem cs_settleL {h : List ik_E} {p : Int} {pl : Int} {lo : Int} {s : Nat} {cn : List Int} {go : List Int} {ch : List Int} {wg : List Int} {wc : List Int} {we : List Int} (q0 : 0 ≤ p) (q1 : p < 12) (q2 : s < 4096) (q3 : 0 ≤ cn.getD p.toNat 0 ∧ cn.getD p.toNat 0 ≤ 4) (q4 : ∀ j : Int, 4 * p ≤ j → j < 4 * p + cn.getD p.toNat 0 → 0 ≤ ch.getD j.toNat 0 ∧ ch.getD j.toNat 0 ≤ 100) (q5 : s.testBit p.toNat = true → 1 ≤ cn.getD p.toNat 0) {g : Int} (hg : g = mx_g ch s p) : ∀ (k : Nat) (i : Int) (w : Int) (wg1 : List Int) (wc1 : List Int) (u : List ik_E) (u7 : cE u 7 (.inr (0, [fI pl, fI ((s : Nat) : Int), fI lo, .ref 8, .ref 9, .ref 10, .ref 11, .ref 12, .ref 13]))) (u8 : cE u 8 (.inl (.int, fA cn))) (n8 : cn.length = (12 : Nat)) (u9 : cE u 9 (.inl (.int, fA go))) (n9 : go.length = (48 : Nat)) (u10 : cE u 10 (.inl (.int, fA ch))) (n10 : ch.length = (48 : Nat)) (u11 : cE u 11 (.inl (.int, fA wg1))) (n11 : wg1.length = (60 : Nat)) (u12 : cE u 12 (.inl (.int, fA wc1))) (n12 : wc1.length = (60 : Nat)) (u13 : cE u 13 (.inl (.int, fA we))) (n13 : we.length = (12 : Nat)) (ul : u.length = (94 : Nat)) (F : hfr [11, 12, 13] h u) (i0 : (0 : Int) ≤ i) (i1 : i ≤ cn.getD p.toNat 0) (hw : w = 5 * p + (mx_o ch s p : Int) + i) (ht : mx_at (5 * p.toNat) (mx_w cn go ch s p) wg1 wc1 (mx_o ch s p + i.toNat)) (ho : mx_out (5 * p.toNat) (5 * p.toNat + 5) wg wg1) (ho2 : mx_out (5 * p.toNat) (5 * p.toNat + 5) wc wc1) (hk : cn.getD p.toNat 0 - i < (k : Int)), ik_G 12 56 [some (.ref 7), some (fI p), some (fI g), some (fI w), some (fI i)] [] u (fun rv h_q => ∃ (wg' : List Int) (wc' : List Int), rv = [] ∧ cE h_q 11 (.inl (.int, fA wg')) ∧ wg'.length = (60 : Nat) ∧ cE h_q 12 (.inl (.int, fA wc')) ∧ wc'.length = (60 : Nat) ∧ cE h_q 13 (.inl (.int, fA (we.set p.toNat (5 * p + ((mx_w cn go ch s p).length : Int))))) ∧ (we.set p.toNat (5 * p + ((mx_w cn go ch s p).length : Int))).length = (12 : Nat) ∧ (mx_at (5 * p.toNat) (mx_w cn go ch s p) wg' wc' (mx_w cn go ch s p).length) ∧ (mx_out (5 * p.toNat) (5 * p.toNat + 5) wg wg') ∧ (mx_out (5 * p.toNat) (5 * p.toNat + 5) wc wc') ∧ hfr [11, 12, 13] h h_q) := by
  intro k
  induction k with
  | zero => intro i w wg1 wc1 u u7 u8 n8 u9 n9 u10 n10 u11 n11 u12 n12 u13 n13 ul F i0 i1 hw ht ho ho2 hk; omega
  | succ k ih =>
    intro i w wg1 wc1 u u7 u8 n8 u9 n9 u10 n10 u11 n11 u12 n12 u13 n13 ul F i0 i1 hw ht ho ho2 hk
    have z1 := mx_o_le (ch := ch) (s := s) (p := p)
    refine ik_Wk 2 (pc_q := 59) (loc_q := [some (.ref 7), some (fI p), some (fI g), some (fI w), some (fI i)]) (st_q := [.ref 7, fI i]) (h_q := u) (cl_q := 0) (sl_q := 0) rfl ?_
    refine fw_gf rfl rfl u7 rfl ?_
    refine ik_Wk 1 (pc_q := 63) (loc_q := [some (.ref 7), some (fI p), some (fI g), some (fI w), some (fI i)]) (st_q := [fI p, .ref 8, fI i]) (h_q := u) (cl_q := 0) (sl_q := 0) rfl ?_
    refine fw_ial rfl u8 (by omega) (by omega) (by omega) ?_
    refine fw_ic_ge rfl rfl (by omega) (by omega) (by omega) (by omega) (fun hc1 => ?_) (fun hc1 => ?_)
    · refine ik_Wk 1 (pc_q := 122) (loc_q := [some (.ref 7), some (fI p), some (fI g), some (fI w), some (fI i)]) (st_q := [.ref 7]) (h_q := u) (cl_q := 0) (sl_q := 0) rfl ?_
      refine fw_gf rfl rfl u7 rfl ?_
      refine ik_Wk 2 (pc_q := 127) (loc_q := [some (.ref 7), some (fI p), some (fI g), some (fI w), some (fI i)]) (st_q := [fI w, fI p, .ref 13]) (h_q := u) (cl_q := 0) (sl_q := 0) rfl ?_
      have hl2 : (we.set p.toNat w).length = 12 := (List.length_set ..).trans n13
      refine fx_ias rfl u13 (by omega) (by omega) (by omega) ?_
      intro h_1 e_1 f_1 l_1
      have k_1 : cL h_1 := l_1.trans ul
      have fr_1 := hfr_wb F f_1 l_1 rfl
      clear l_1
      have g_1_7 := (f_1 7 (Nat.ne_of_beq_eq_false rfl)).trans u7
      have g_1_8 := (f_1 8 (Nat.ne_of_beq_eq_false rfl)).trans u8
      have g_1_9 := (f_1 9 (Nat.ne_of_beq_eq_false rfl)).trans u9
      have g_1_10 := (f_1 10 (Nat.ne_of_beq_eq_false rfl)).trans u10
      have g_1_11 := (f_1 11 (Nat.ne_of_beq_eq_false rfl)).trans u11
      have g_1_12 := (f_1 12 (Nat.ne_of_beq_eq_false rfl)).trans u12
      have g_1_13 : cE h_1 13 (.inl (.int, fA (we.set p.toNat w))) := e_1
      have z1 := mx_o_le (ch := ch) (s := s) (p := p)
      have el := mx_w_len cn go ch s p
      have ei : i = cn.getD p.toNat 0 := by omega
      have ew : w = 5 * p + ((mx_w cn go ch s p).length : Int) := by omega
      subst ew
      have e5 : mx_o ch s p + i.toNat = (mx_w cn go ch s p).length := by omega
      rw [e5] at ht
      exact ik_Wret rfl rfl ⟨_, _, rfl, rfl, rfl, rfl, ⟨wg1, wc1, rfl, g_1_11, n11, g_1_12, n12, g_1_13, hl2, ht, ho, ho2, fr_1⟩⟩
    · refine ik_Wk 1 (pc_q := 68) (loc_q := [some (.ref 7), some (fI p), some (fI g), some (fI w), some (fI i)]) (st_q := [.ref 7]) (h_q := u) (cl_q := 0) (sl_q := 0) rfl ?_
      refine fw_gf rfl rfl u7 rfl ?_
      refine ik_Wk 2 (pc_q := 73) (loc_q := [some (.ref 7), some (fI p), some (fI g), some (fI w), some (fI i)]) (st_q := [.ref 7, fI w, .ref 11]) (h_q := u) (cl_q := 0) (sl_q := 0) rfl ?_
      refine fw_gf rfl rfl u7 rfl ?_
      refine ik_Wk 2 (pc_q := 78) (loc_q := [some (.ref 7), some (fI p), some (fI g), some (fI w), some (fI i)]) (st_q := [fI 4, fI p, .ref 9, fI w, .ref 11]) (h_q := u) (cl_q := 0) (sl_q := 0) rfl ?_
      refine fx_mulc rfl ?_
      refine ik_Wk 1 (pc_q := 81) (loc_q := [some (.ref 7), some (fI p), some (fI g), some (fI w), some (fI i)]) (st_q := [fI i, fI (4 * p), .ref 9, fI w, .ref 11]) (h_q := u) (cl_q := 0) (sl_q := 0) rfl ?_
      refine fw_add rfl ?_
      refine fw_ial rfl u9 (by omega) (by omega) (by omega) ?_
      have hl3 : (wg1.set w.toNat (go.getD ((4 * p) + i).toNat 0)).length = 60 := (List.length_set ..).trans n11
      refine fx_ias rfl u11 (by omega) (by omega) (by omega) ?_
      intro h_2 e_2 f_2 l_2
      have k_2 : cL h_2 := l_2.trans ul
      have fr_2 := hfr_wb F f_2 l_2 rfl
      clear l_2
      have g_2_7 := (f_2 7 (Nat.ne_of_beq_eq_false rfl)).trans u7
      have g_2_8 := (f_2 8 (Nat.ne_of_beq_eq_false rfl)).trans u8
      have g_2_9 := (f_2 9 (Nat.ne_of_beq_eq_false rfl)).trans u9
      have g_2_10 := (f_2 10 (Nat.ne_of_beq_eq_false rfl)).trans u10
      have g_2_12 := (f_2 12 (Nat.ne_of_beq_eq_false rfl)).trans u12
      have g_2_13 := (f_2 13 (Nat.ne_of_beq_eq_false rfl)).trans u13
      have g_2_11 : cE h_2 11 (.inl (.int, fA (wg1.set w.toNat (go.getD ((4 * p) + i).toNat 0)))) := e_2
      refine ik_Wk 1 (pc_q := 85) (loc_q := [some (.ref 7), some (fI p), some (fI g), some (fI w), some (fI i)]) (st_q := [.ref 7]) (h_q := h_2) (cl_q := 0) (sl_q := 0) rfl ?_
      refine fw_gf rfl rfl g_2_7 rfl ?_
      refine ik_Wk 2 (pc_q := 90) (loc_q := [some (.ref 7), some (fI p), some (fI g), some (fI w), some (fI i)]) (st_q := [.ref 7, fI w, .ref 12]) (h_q := h_2) (cl_q := 0) (sl_q := 0) rfl ?_
      refine fw_gf rfl rfl g_2_7 rfl ?_
      refine ik_Wk 2 (pc_q := 95) (loc_q := [some (.ref 7), some (fI p), some (fI g), some (fI w), some (fI i)]) (st_q := [fI 4, fI p, .ref 10, fI w, .ref 12]) (h_q := h_2) (cl_q := 0) (sl_q := 0) rfl ?_
      refine fx_mulc rfl ?_
      refine ik_Wk 1 (pc_q := 98) (loc_q := [some (.ref 7), some (fI p), some (fI g), some (fI w), some (fI i)]) (st_q := [fI i, fI (4 * p), .ref 10, fI w, .ref 12]) (h_q := h_2) (cl_q := 0) (sl_q := 0) rfl ?_
      refine fw_add rfl ?_
      refine fw_ial rfl g_2_10 (by omega) (by omega) (by omega) ?_
      have hd4 := q4 ((4 * p) + i) (by omega) (by omega)
      refine ik_Wk 1 (pc_q := 102) (loc_q := [some (.ref 7), some (fI p), some (fI g), some (fI w), some (fI i)]) (st_q := [fI i, fI (ch.getD ((4 * p) + i).toNat 0), fI w, .ref 12]) (h_q := h_2) (cl_q := 0) (sl_q := 0) rfl ?_
      refine fw_if_ne rfl rfl (by omega) (by omega) (fun hc5 => ?_) (fun hc5 => ?_)
      · refine ik_Wk 2 (pc_q := 110) (loc_q := [some (.ref 7), some (fI p), some (fI g), some (fI w), some (fI i)]) (st_q := [fI g, fI (ch.getD ((4 * p) + i).toNat 0), fI w, .ref 12]) (h_q := h_2) (cl_q := 0) (sl_q := 0) rfl ?_
        refine fw_sub rfl ?_
        have hl6 : (wc1.set w.toNat ((ch.getD ((4 * p) + i).toNat 0) - g)).length = 60 := (List.length_set ..).trans n12
        refine fx_ias rfl g_2_12 (by omega) (by omega) (by omega) ?_
        intro h_3 e_3 f_3 l_3
        have k_3 : cL h_3 := l_3.trans k_2
        have fr_3 := hfr_wb fr_2 f_3 l_3 rfl
        clear l_3
        have g_3_7 := (f_3 7 (Nat.ne_of_beq_eq_false rfl)).trans g_2_7
        have g_3_8 := (f_3 8 (Nat.ne_of_beq_eq_false rfl)).trans g_2_8
        have g_3_9 := (f_3 9 (Nat.ne_of_beq_eq_false rfl)).trans g_2_9
        have g_3_10 := (f_3 10 (Nat.ne_of_beq_eq_false rfl)).trans g_2_10
        have g_3_11 := (f_3 11 (Nat.ne_of_beq_eq_false rfl)).trans g_2_11
        have g_3_13 := (f_3 13 (Nat.ne_of_beq_eq_false rfl)).trans g_2_13
        have g_3_12 : cE h_3 12 (.inl (.int, fA (wc1.set w.toNat ((ch.getD ((4 * p) + i).toNat 0) - g)))) := e_3
        refine fw_inc (a := w) (loc_q := [some (.ref 7), some (fI p), some (fI g), some (fI (w + 1)), some (fI i)]) rfl rfl (Nat.le_of_ble_eq_true rfl) rfl ?_
        refine fw_inc (a := i) (loc_q := [some (.ref 7), some (fI p), some (fI g), some (fI (w + 1)), some (fI (i + 1))]) rfl rfl (Nat.le_of_ble_eq_true rfl) rfl ?_
        refine ik_Wk 1 (pc_q := 56) (loc_q := [some (.ref 7), some (fI p), some (fI g), some (fI (w + 1)), some (fI (i + 1))]) (st_q := []) (h_q := h_3) (cl_q := 0) (sl_q := 0) rfl ?_
        have z1 := mx_o_le (ch := ch) (s := s) (p := p)
        have ez := mx_w_I (go := go) (ch := ch) (s := s) i0 (show i < cn.getD p.toNat 0 by omega)
        have en : mx_o ch s p + (i + 1).toNat = mx_o ch s p + i.toNat + 1 := by omega
        have e2 : ((ch.getD ((4 * p) + i).toNat 0) - g) = ((mx_w cn go ch s p).getD (mx_o ch s p + i.toNat) (0, 0)).2 := by rw [ez]; show _ = (if i = 0 then _ else _); rw [← hg]; split <;> omega
        exact ih  (i + 1) (w + 1) (wg1.set w.toNat (go.getD ((4 * p) + i).toNat 0)) (wc1.set w.toNat ((ch.getD ((4 * p) + i).toNat 0) - g)) h_3 g_3_7 g_3_8 n8 g_3_9 n9 g_3_10 n10 g_3_11 hl3 g_3_12 hl6 g_3_13 n13 k_3 fr_3 (by omega) (by omega) (by omega) (by rw [en]; exact mx_at_s ht (by omega) (by omega) (by omega) (by rw [ez]; rfl) e2) (mx_out_s ho (by omega) (by omega)) (mx_out_s ho2 (by omega) (by omega)) (by omega)
      · refine ik_Wk 1 (pc_q := 110) (loc_q := [some (.ref 7), some (fI p), some (fI g), some (fI w), some (fI i)]) (st_q := [fI 0, fI (ch.getD ((4 * p) + i).toNat 0), fI w, .ref 12]) (h_q := h_2) (cl_q := 0) (sl_q := 0) rfl ?_
        refine fw_sub rfl ?_
        have hl7 : (wc1.set w.toNat ((ch.getD ((4 * p) + i).toNat 0) - 0)).length = 60 := (List.length_set ..).trans n12
        refine fx_ias rfl g_2_12 (by omega) (by omega) (by omega) ?_
        intro h_4 e_4 f_4 l_4
        have k_4 : cL h_4 := l_4.trans k_2
        have fr_4 := hfr_wb fr_2 f_4 l_4 rfl
        clear l_4
        have g_4_7 := (f_4 7 (Nat.ne_of_beq_eq_false rfl)).trans g_2_7
        have g_4_8 := (f_4 8 (Nat.ne_of_beq_eq_false rfl)).trans g_2_8
        have g_4_9 := (f_4 9 (Nat.ne_of_beq_eq_false rfl)).trans g_2_9
        have g_4_10 := (f_4 10 (Nat.ne_of_beq_eq_false rfl)).trans g_2_10
        have g_4_11 := (f_4 11 (Nat.ne_of_beq_eq_false rfl)).trans g_2_11
        have g_4_13 := (f_4 13 (Nat.ne_of_beq_eq_false rfl)).trans g_2_13
        have g_4_12 : cE h_4 12 (.inl (.int, fA (wc1.set w.toNat ((ch.getD ((4 * p) + i).toNat 0) - 0)))) := e_4
        refine fw_inc (a := w) (loc_q := [some (.ref 7), some (fI p), some (fI g), some (fI (w + 1)), some (fI i)]) rfl rfl (Nat.le_of_ble_eq_true rfl) rfl ?_
        refine fw_inc (a := i) (loc_q := [some (.ref 7), some (fI p), some (fI g), some (fI (w + 1)), some (fI (i + 1))]) rfl rfl (Nat.le_of_ble_eq_true rfl) rfl ?_
        refine ik_Wk 1 (pc_q := 56) (loc_q := [some (.ref 7), some (fI p), some (fI g), some (fI (w + 1)), some (fI (i + 1))]) (st_q := []) (h_q := h_4) (cl_q := 0) (sl_q := 0) rfl ?_
        have z1 := mx_o_le (ch := ch) (s := s) (p := p)
        have ez := mx_w_I (go := go) (ch := ch) (s := s) i0 (show i < cn.getD p.toNat 0 by omega)
        have en : mx_o ch s p + (i + 1).toNat = mx_o ch s p + i.toNat + 1 := by omega
        have e2 : ((ch.getD ((4 * p) + i).toNat 0) - 0) = ((mx_w cn go ch s p).getD (mx_o ch s p + i.toNat) (0, 0)).2 := by rw [ez]; show _ = (if i = 0 then _ else _); rw [← hg]; split <;> omega
        exact ih  (i + 1) (w + 1) (wg1.set w.toNat (go.getD ((4 * p) + i).toNat 0)) (wc1.set w.toNat ((ch.getD ((4 * p) + i).toNat 0) - 0)) h_4 g_4_7 g_4_8 n8 g_4_9 n9 g_4_10 n10 g_4_11 hl3 g_4_12 hl7 g_4_13 n13 k_4 fr_4 (by omega) (by omega) (by omega) (by rw [en]; exact mx_at_s ht (by omega) (by omega) (by omega) (by rw [ez]; rfl) e2) (mx_out_s ho (by omega) (by omega)) (mx_out_s ho2 (by omega) (by omega)) (by omega)

theorem cs_settle {h : List ik_E} {p : Int} {pl : Int} {lo : Int} {s : Nat} {cn : List Int} {go : List Int} {ch : List Int} {wg : List Int} {wc : List Int} {we : List Int} (q0 : 0 ≤ p) (q1 : p < 12) (q2 : s < 4096) (q3 : 0 ≤ cn.getD p.toNat 0 ∧ cn.getD p.toNat 0 ≤ 4) (q4 : ∀ j : Int, 4 * p ≤ j → j < 4 * p + cn.getD p.toNat 0 → 0 ≤ ch.getD j.toNat 0 ∧ ch.getD j.toNat 0 ≤ 100) (q5 : s.testBit p.toNat = true → 1 ≤ cn.getD p.toNat 0) (h7 : cE h 7 (.inr (0, [fI pl, fI ((s : Nat) : Int), fI lo, .ref 8, .ref 9, .ref 10, .ref 11, .ref 12, .ref 13]))) (h8 : cE h 8 (.inl (.int, fA cn))) (n8 : cn.length = (12 : Nat)) (h9 : cE h 9 (.inl (.int, fA go))) (n9 : go.length = (48 : Nat)) (h10 : cE h 10 (.inl (.int, fA ch))) (n10 : ch.length = (48 : Nat)) (h11 : cE h 11 (.inl (.int, fA wg))) (n11 : wg.length = (60 : Nat)) (h12 : cE h 12 (.inl (.int, fA wc))) (n12 : wc.length = (60 : Nat)) (h13 : cE h 13 (.inl (.int, fA we))) (n13 : we.length = (12 : Nat)) (hl : h.length = (94 : Nat)) : ik_F 12 [.ref 7, fI p] h (fun rv h_q => ∃ (wg' : List Int) (wc' : List Int), rv = [] ∧ cE h_q 11 (.inl (.int, fA wg')) ∧ wg'.length = (60 : Nat) ∧ cE h_q 12 (.inl (.int, fA wc')) ∧ wc'.length = (60 : Nat) ∧ cE h_q 13 (.inl (.int, fA (we.set p.toNat (5 * p + ((mx_w cn go ch s p).length : Int))))) ∧ (we.set p.toNat (5 * p + ((mx_w cn go ch s p).length : Int))).length = (12 : Nat) ∧ (mx_at (5 * p.toNat) (mx_w cn go ch s p) wg' wc' (mx_w cn go ch s p).length) ∧ (mx_out (5 * p.toNat) (5 * p.toNat + 5) wg wg') ∧ (mx_out (5 * p.toNat) (5 * p.toNat + 5) wc wc') ∧ hfr [11, 12, 13] h h_q) := by
  refine ik_Wk 2 (pc_q := 2) (loc_q := [some (.ref 7), some (fI p), none, none, none]) (st_q := [fI p, .ref 7]) (h_q := h) (cl_q := 0) (sl_q := 0) rfl ?_
  refine ik_Wc 13 2 0 [.ref 7, fI p] [] rfl rfl rfl (by decide +kernel) rfl rfl (fw_rec hl rfl h7 rfl (Nat.le_of_ble_eq_true rfl)) ?_
  refine ik_Wk 0 (pc_q := 0) (loc_q := [some (.ref 7), some (fI p)]) (st_q := []) (h_q := h) (cl_q := 0) (sl_q := 0) rfl ?_
  refine ik_Wk 1 (pc_q := 1) (loc_q := [some (.ref 7), some (fI p)]) (st_q := [.ref 7]) (h_q := h) (cl_q := 0) (sl_q := 0) rfl ?_
  refine fw_gf rfl rfl h7 rfl ?_
  refine ik_Wk 1 (pc_q := 5) (loc_q := [some (.ref 7), some (fI p)]) (st_q := [fI p, fI ((s : Nat) : Int)]) (h_q := h) (cl_q := 0) (sl_q := 0) rfl ?_
  refine fx_shr (n := s) rfl (by omega) (by omega) (by omega) ?_
  refine ik_Wk 1 (pc_q := 7) (loc_q := [some (.ref 7), some (fI p)]) (st_q := [fI 1, fI ((s >>> p.toNat : Nat) : Int)]) (h_q := h) (cl_q := 0) (sl_q := 0) rfl ?_
  refine fx_bit (n := s) (k := p.toNat) rfl (fun hb1 => ?_) (fun hb1 => ?_)
  · refine ik_Wk 0 (pc_q := 8) (loc_q := [some (.ref 7), some (fI p)]) (st_q := [fI 1]) (h_q := h) (cl_q := 0) (sl_q := 0) rfl ?_
    refine fw_if_eq rfl rfl (by decide +kernel) (by decide +kernel) (fun hc2 => absurd hc2 (by decide +kernel)) (fun hc2 => ?_)
    refine ik_Wk 2 (pc_q := 16) (loc_q := [some (.ref 7), some (fI p)]) (st_q := [fI 1]) (h_q := h) (cl_q := 0) (sl_q := 0) rfl ?_
    refine ik_Wret rfl rfl ⟨_, _, rfl, rfl, ?_⟩
    refine ik_Wk 0 (pc_q := 5) (loc_q := [some (.ref 7), some (fI p), none, none, none]) (st_q := [fI 1]) (h_q := h) (cl_q := 0) (sl_q := 0) rfl ?_
    refine fw_if_eq rfl rfl (by decide +kernel) (by decide +kernel) (fun hc3 => absurd hc3 (by decide +kernel)) (fun hc3 => ?_)
    refine fw_bi rfl (by decide +kernel) ?_
    refine ik_Wk 1 (pc_q := 11) (loc_q := [some (.ref 7), some (fI p), none, none, none]) (st_q := [.ref 7, fI 20]) (h_q := h) (cl_q := 0) (sl_q := 0) rfl ?_
    refine fw_gf rfl rfl h7 rfl ?_
    refine ik_Wk 2 (pc_q := 16) (loc_q := [some (.ref 7), some (fI p), none, none, none]) (st_q := [fI 4, fI p, .ref 10, fI 20]) (h_q := h) (cl_q := 0) (sl_q := 0) rfl ?_
    refine fx_mulc rfl ?_
    refine fw_ial rfl h10 (by omega) (by omega) (by omega) ?_
    have hst := q5 hb1
    have hd4 := q4 (4 * p) (by omega) (by omega)
    refine ik_Wk 1 (pc_q := 19) (loc_q := [some (.ref 7), some (fI p), none, none, none]) (st_q := [fI 1, fI (ch.getD (4 * p).toNat 0), fI 20]) (h_q := h) (cl_q := 0) (sl_q := 0) rfl ?_
    refine fw_sub rfl ?_
    refine fx_min rfl rfl rfl ⟨Nat.le_of_ble_eq_true rfl, Nat.le_of_ble_eq_true rfl, Nat.le_of_ble_eq_true rfl⟩ (by omega) (by omega) (by omega) (by omega) ?_
    intro mm5 qmm5
    refine ik_Wk 4 (pc_q := 30) (loc_q := [some (.ref 7), some (fI p), some (fI mm5), none, none]) (st_q := [fI 5, fI p]) (h_q := h) (cl_q := 0) (sl_q := 0) rfl ?_
    refine fx_mulc rfl ?_
    refine ik_Wk 2 (pc_q := 33) (loc_q := [some (.ref 7), some (fI p), some (fI mm5), some (fI (5 * p)), none]) (st_q := [fI mm5]) (h_q := h) (cl_q := 0) (sl_q := 0) rfl ?_
    refine fw_if_le rfl rfl (by omega) (by omega) (fun hc6 => ?_) (fun hc6 => ?_)
    · refine ik_Wk 2 (pc_q := 56) (loc_q := [some (.ref 7), some (fI p), some (fI mm5), some (fI (5 * p)), some (fI 0)]) (st_q := []) (h_q := h) (cl_q := 0) (sl_q := 0) rfl ?_
      have hg := mx_g_t hb1 qmm5
      have hz := mx_o_0 (ch := ch) (s := s) (p := p) (by omega)
      exact cs_settleL (p := p) (pl := pl) (lo := lo) (s := s) (cn := cn) (go := go) (ch := ch) (wg := wg) (wc := wc) (we := we) q0 q1 q2 q3 q4 q5 hg ((cn.getD p.toNat 0).toNat + 1) 0 (5 * p) wg wc h h7 h8 n8 h9 n9 h10 n10 h11 n11 h12 n12 h13 n13 hl (hfr_refl [11, 12, 13] h) (by omega) (by omega) (by omega) (by rw [hz]; exact mx_at_0 _ _ _ _) (mx_out_r _ _ _) (mx_out_r _ _ _) (by omega)
    · refine ik_Wk 1 (pc_q := 37) (loc_q := [some (.ref 7), some (fI p), some (fI mm5), some (fI (5 * p)), none]) (st_q := [.ref 7]) (h_q := h) (cl_q := 0) (sl_q := 0) rfl ?_
      refine fw_gf rfl rfl h7 rfl ?_
      refine ik_Wk 2 (pc_q := 42) (loc_q := [some (.ref 7), some (fI p), some (fI mm5), some (fI (5 * p)), none]) (st_q := [fI p, fI (5 * p), .ref 11]) (h_q := h) (cl_q := 0) (sl_q := 0) rfl ?_
      have hl7 : (wg.set (5 * p).toNat p).length = 60 := (List.length_set ..).trans n11
      refine fx_ias rfl h11 (by omega) (by omega) (by omega) ?_
      intro h_5 e_5 f_5 l_5
      have k_5 : cL h_5 := l_5.trans hl
      have fr_5 := hfr_wb (hfr_refl [11, 12, 13] h) f_5 l_5 rfl
      clear l_5
      have g_5_7 := (f_5 7 (Nat.ne_of_beq_eq_false rfl)).trans h7
      have g_5_8 := (f_5 8 (Nat.ne_of_beq_eq_false rfl)).trans h8
      have g_5_9 := (f_5 9 (Nat.ne_of_beq_eq_false rfl)).trans h9
      have g_5_10 := (f_5 10 (Nat.ne_of_beq_eq_false rfl)).trans h10
      have g_5_12 := (f_5 12 (Nat.ne_of_beq_eq_false rfl)).trans h12
      have g_5_13 := (f_5 13 (Nat.ne_of_beq_eq_false rfl)).trans h13
      have g_5_11 : cE h_5 11 (.inl (.int, fA (wg.set (5 * p).toNat p))) := e_5
      refine ik_Wk 1 (pc_q := 44) (loc_q := [some (.ref 7), some (fI p), some (fI mm5), some (fI (5 * p)), none]) (st_q := [.ref 7]) (h_q := h_5) (cl_q := 0) (sl_q := 0) rfl ?_
      refine fw_gf rfl rfl g_5_7 rfl ?_
      refine ik_Wk 2 (pc_q := 49) (loc_q := [some (.ref 7), some (fI p), some (fI mm5), some (fI (5 * p)), none]) (st_q := [fI mm5, fI (5 * p), .ref 12]) (h_q := h_5) (cl_q := 0) (sl_q := 0) rfl ?_
      have hl8 : (wc.set (5 * p).toNat mm5).length = 60 := (List.length_set ..).trans n12
      refine fx_ias rfl g_5_12 (by omega) (by omega) (by omega) ?_
      intro h_6 e_6 f_6 l_6
      have k_6 : cL h_6 := l_6.trans k_5
      have fr_6 := hfr_wb fr_5 f_6 l_6 rfl
      clear l_6
      have g_6_7 := (f_6 7 (Nat.ne_of_beq_eq_false rfl)).trans g_5_7
      have g_6_8 := (f_6 8 (Nat.ne_of_beq_eq_false rfl)).trans g_5_8
      have g_6_9 := (f_6 9 (Nat.ne_of_beq_eq_false rfl)).trans g_5_9
      have g_6_10 := (f_6 10 (Nat.ne_of_beq_eq_false rfl)).trans g_5_10
      have g_6_11 := (f_6 11 (Nat.ne_of_beq_eq_false rfl)).trans g_5_11
      have g_6_13 := (f_6 13 (Nat.ne_of_beq_eq_false rfl)).trans g_5_13
      have g_6_12 : cE h_6 12 (.inl (.int, fA (wc.set (5 * p).toNat mm5))) := e_6
      refine fw_inc (a := 5 * p) (loc_q := [some (.ref 7), some (fI p), some (fI mm5), some (fI ((5 * p) + 1)), none]) rfl rfl (Nat.le_of_ble_eq_true rfl) rfl ?_
      refine ik_Wk 2 (pc_q := 56) (loc_q := [some (.ref 7), some (fI p), some (fI mm5), some (fI ((5 * p) + 1)), some (fI 0)]) (st_q := []) (h_q := h_6) (cl_q := 0) (sl_q := 0) rfl ?_
      have hg := mx_g_t hb1 qmm5
      have hz := mx_o_1 (ch := ch) (s := s) (p := p) (by omega)
      exact cs_settleL (p := p) (pl := pl) (lo := lo) (s := s) (cn := cn) (go := go) (ch := ch) (wg := wg) (wc := wc) (we := we) q0 q1 q2 q3 q4 q5 hg ((cn.getD p.toNat 0).toNat + 1) 0 ((5 * p) + 1) (wg.set (5 * p).toNat p) (wc.set (5 * p).toNat mm5) h_6 g_6_7 g_6_8 n8 g_6_9 n9 g_6_10 n10 g_6_11 hl7 g_6_12 hl8 g_6_13 n13 k_6 fr_6 (by omega) (by omega) (by omega) (by rw [hz]; exact mx_at_s (n := 0) (mx_at_0 _ _ _ _) (by omega) (by omega) (by omega) (by rw [mx_w_0 (by omega)]) (by rw [mx_w_0 (by omega)]; exact hg)) (mx_out_s (mx_out_r _ _ _) (by omega) (by omega)) (mx_out_s (mx_out_r _ _ _) (by omega) (by omega)) (by omega)
  · refine ik_Wk 0 (pc_q := 8) (loc_q := [some (.ref 7), some (fI p)]) (st_q := [fI 0]) (h_q := h) (cl_q := 0) (sl_q := 0) rfl ?_
    refine fw_if_eq rfl rfl (by decide +kernel) (by decide +kernel) (fun hc9 => ?_) (fun hc9 => absurd hc9 (by decide +kernel))
    refine ik_Wk 1 (pc_q := 16) (loc_q := [some (.ref 7), some (fI p)]) (st_q := [fI 0]) (h_q := h) (cl_q := 0) (sl_q := 0) rfl ?_
    refine ik_Wret rfl rfl ⟨_, _, rfl, rfl, ?_⟩
    refine ik_Wk 0 (pc_q := 5) (loc_q := [some (.ref 7), some (fI p), none, none, none]) (st_q := [fI 0]) (h_q := h) (cl_q := 0) (sl_q := 0) rfl ?_
    refine fw_if_eq rfl rfl (by decide +kernel) (by decide +kernel) (fun hc10 => ?_) (fun hc10 => absurd hc10 (by decide +kernel))
    refine ik_Wk 4 (pc_q := 30) (loc_q := [some (.ref 7), some (fI p), some (fI 0), none, none]) (st_q := [fI 5, fI p]) (h_q := h) (cl_q := 0) (sl_q := 0) rfl ?_
    refine fx_mulc rfl ?_
    refine ik_Wk 2 (pc_q := 33) (loc_q := [some (.ref 7), some (fI p), some (fI 0), some (fI (5 * p)), none]) (st_q := [fI 0]) (h_q := h) (cl_q := 0) (sl_q := 0) rfl ?_
    refine fw_if_le rfl rfl (by decide +kernel) (by decide +kernel) (fun hc11 => ?_) (fun hc11 => absurd hc11 (by decide +kernel))
    refine ik_Wk 2 (pc_q := 56) (loc_q := [some (.ref 7), some (fI p), some (fI 0), some (fI (5 * p)), some (fI 0)]) (st_q := []) (h_q := h) (cl_q := 0) (sl_q := 0) rfl ?_
    have hg := mx_g_f (ch := ch) hb1
    have hz := mx_o_0 (ch := ch) (s := s) (p := p) (by omega)
    exact cs_settleL (p := p) (pl := pl) (lo := lo) (s := s) (cn := cn) (go := go) (ch := ch) (wg := wg) (wc := wc) (we := we) q0 q1 q2 q3 q4 q5 hg ((cn.getD p.toNat 0).toNat + 1) 0 (5 * p) wg wc h h7 h8 n8 h9 n9 h10 n10 h11 n11 h12 n12 h13 n13 hl (hfr_refl [11, 12, 13] h) (by omega) (by omega) (by omega) (by rw [hz]; exact mx_at_0 _ _ _ _) (mx_out_r _ _ _) (mx_out_r _ _ _) (by omega)

theorem cr_listL {h : List ik_E} {p : Int} {f : Nat → Int} {s : Nat} {cn : List Int} {go : List Int} {ch : List Int} {gt : List Int} {gd : List Int} (q0 : 0 ≤ p) (q1 : p < 12) (q2 : s < 4096) (q3 : 0 ≤ cn.getD p.toNat 0 ∧ cn.getD p.toNat 0 ≤ 4) (q4 : ∀ j : Int, 4 * p ≤ j → j < 4 * p + cn.getD p.toNat 0 → 0 ≤ ch.getD j.toNat 0 ∧ ch.getD j.toNat 0 ≤ 100) (q5 : 1 ≤ cn.getD p.toNat 0) {g : Int} (hg : g = mx_g ch s p) : ∀ (k : Nat) (i : Int) (w : Int) (wg1 : List Int) (wc1 : List Int) (u : List ik_E) (u66 : cE u 66 (.inr (10, (fI (f 0) :: .ref 67 :: .ref 68 :: .ref 69 :: fI ((s : Nat) : Int) :: .ref 70 :: .ref 71 :: fI (f 7) :: fI (f 8) :: .ref 72 :: fI (f 10) :: fI (f 11) :: fI (f 12) :: fJ (f 13) :: fI (f 14) :: fI (f 15) :: fI (f 16) :: fI (f 17) :: .ref 73 :: .ref 74 :: .ref 75 :: .ref 76 :: .ref 77 :: .ref 78 :: fI w :: .ref 79 :: .ref 80 :: .ref 81 :: .ref 82 :: .ref 83 :: .ref 84 :: .ref 85 :: fJ (f 32) :: fJ (f 33) :: .ref 86 :: .ref 87 :: fI (f 36) :: .ref 88 :: .ref 89 :: .ref 90 :: .ref 91 :: .ref 92 :: .ref 93 :: [])))) (u67 : cE u 67 (.inl (.int, fA cn))) (n67 : cn.length = (12 : Nat)) (u68 : cE u 68 (.inl (.int, fA go))) (n68 : go.length = (48 : Nat)) (u69 : cE u 69 (.inl (.int, fA ch))) (n69 : ch.length = (48 : Nat)) (u77 : cE u 77 (.inl (.int, fA wg1))) (n77 : wg1.length = (5 : Nat)) (u78 : cE u 78 (.inl (.int, fA wc1))) (n78 : wc1.length = (5 : Nat)) (ul : u.length = (94 : Nat)) (F : hfr [66, 77, 78] h u) (i0 : (0 : Int) ≤ i) (i1 : i ≤ cn.getD p.toNat 0) (hw : w = (mx_o ch s p : Int) + i) (ht : mx_at 0 (mx_w cn go ch s p) wg1 wc1 (mx_o ch s p + i.toNat)) (hk : cn.getD p.toNat 0 - i < (k : Int)), ik_G 152 78 [some (.ref 66), some (fI p), some (fI g), some (fI i)] [] u (fun rv h_q => ∃ (gt' : List Int) (gd' : List Int), rv = [] ∧ cE h_q 66 (.inr (10, (fI (f 0) :: .ref 67 :: .ref 68 :: .ref 69 :: fI ((s : Nat) : Int) :: .ref 70 :: .ref 71 :: fI (f 7) :: fI (f 8) :: .ref 72 :: fI (f 10) :: fI (f 11) :: fI (f 12) :: fJ (f 13) :: fI (f 14) :: fI (f 15) :: fI (f 16) :: fI (f 17) :: .ref 73 :: .ref 74 :: .ref 75 :: .ref 76 :: .ref 77 :: .ref 78 :: fI ((mx_w cn go ch s p).length : Int) :: .ref 79 :: .ref 80 :: .ref 81 :: .ref 82 :: .ref 83 :: .ref 84 :: .ref 85 :: fJ (f 32) :: fJ (f 33) :: .ref 86 :: .ref 87 :: fI (f 36) :: .ref 88 :: .ref 89 :: .ref 90 :: .ref 91 :: .ref 92 :: .ref 93 :: []))) ∧ cE h_q 77 (.inl (.int, fA gt')) ∧ gt'.length = (5 : Nat) ∧ cE h_q 78 (.inl (.int, fA gd')) ∧ gd'.length = (5 : Nat) ∧ (mx_at 0 (mx_w cn go ch s p) gt' gd' (mx_w cn go ch s p).length) ∧ hfr [66, 77, 78] h h_q) := by
  intro k
  induction k with
  | zero => intro i w wg1 wc1 u u66 u67 n67 u68 n68 u69 n69 u77 n77 u78 n78 ul F i0 i1 hw ht hk; omega
  | succ k ih =>
    intro i w wg1 wc1 u u66 u67 n67 u68 n68 u69 n69 u77 n77 u78 n78 ul F i0 i1 hw ht hk
    have z1 := mx_o_le (ch := ch) (s := s) (p := p)
    refine ik_Wk 2 (pc_q := 80) (loc_q := [some (.ref 66), some (fI p), some (fI g), some (fI i)]) (st_q := [.ref 66, fI i]) (h_q := u) (cl_q := 0) (sl_q := 0) rfl ?_
    refine fw_gf rfl rfl u66 rfl ?_
    refine ik_Wk 1 (pc_q := 84) (loc_q := [some (.ref 66), some (fI p), some (fI g), some (fI i)]) (st_q := [fI p, .ref 67, fI i]) (h_q := u) (cl_q := 0) (sl_q := 0) rfl ?_
    refine fw_ial rfl u67 (by omega) (by omega) (by omega) ?_
    refine fw_ic_ge rfl rfl (by omega) (by omega) (by omega) (by omega) (fun hc1 => ?_) (fun hc1 => ?_)
    · have z1 := mx_o_le (ch := ch) (s := s) (p := p)
      have el := mx_w_len cn go ch s p
      have ei : i = cn.getD p.toNat 0 := by omega
      have ew : w = ((mx_w cn go ch s p).length : Int) := by omega
      subst ew
      have e5 : mx_o ch s p + i.toNat = (mx_w cn go ch s p).length := by omega
      rw [e5] at ht
      exact ik_Wret rfl rfl ⟨_, _, rfl, rfl, rfl, rfl, ⟨wg1, wc1, rfl, u66, u77, n77, u78, n78, ht, F⟩⟩
    · refine ik_Wk 1 (pc_q := 89) (loc_q := [some (.ref 66), some (fI p), some (fI g), some (fI i)]) (st_q := [.ref 66]) (h_q := u) (cl_q := 0) (sl_q := 0) rfl ?_
      refine fw_gf rfl rfl u66 rfl ?_
      refine ik_Wk 1 (pc_q := 93) (loc_q := [some (.ref 66), some (fI p), some (fI g), some (fI i)]) (st_q := [.ref 66, .ref 77]) (h_q := u) (cl_q := 0) (sl_q := 0) rfl ?_
      refine fw_gf rfl rfl u66 rfl ?_
      refine ik_Wk 1 (pc_q := 97) (loc_q := [some (.ref 66), some (fI p), some (fI g), some (fI i)]) (st_q := [.ref 66, fI w, .ref 77]) (h_q := u) (cl_q := 0) (sl_q := 0) rfl ?_
      refine fw_gf rfl rfl u66 rfl ?_
      refine ik_Wk 2 (pc_q := 102) (loc_q := [some (.ref 66), some (fI p), some (fI g), some (fI i)]) (st_q := [fI p, fI 4, .ref 68, fI w, .ref 77]) (h_q := u) (cl_q := 0) (sl_q := 0) rfl ?_
      refine fw_mul rfl ?_
      refine ik_Wk 1 (pc_q := 104) (loc_q := [some (.ref 66), some (fI p), some (fI g), some (fI i)]) (st_q := [fI i, fI (4 * p), .ref 68, fI w, .ref 77]) (h_q := u) (cl_q := 0) (sl_q := 0) rfl ?_
      refine fw_add rfl ?_
      refine fw_ial rfl u68 (by omega) (by omega) (by omega) ?_
      have hl2 : (wg1.set w.toNat (go.getD ((4 * p) + i).toNat 0)).length = 5 := (List.length_set ..).trans n77
      refine fx_ias rfl u77 (by omega) (by omega) (by omega) ?_
      intro h_7 e_7 f_7 l_7
      have k_7 : cL h_7 := l_7.trans ul
      have fr_7 := hfr_wb F f_7 l_7 rfl
      clear l_7
      have g_7_66 := (f_7 66 (Nat.ne_of_beq_eq_false rfl)).trans u66
      have g_7_67 := (f_7 67 (Nat.ne_of_beq_eq_false rfl)).trans u67
      have g_7_68 := (f_7 68 (Nat.ne_of_beq_eq_false rfl)).trans u68
      have g_7_69 := (f_7 69 (Nat.ne_of_beq_eq_false rfl)).trans u69
      have g_7_78 := (f_7 78 (Nat.ne_of_beq_eq_false rfl)).trans u78
      have g_7_77 : cE h_7 77 (.inl (.int, fA (wg1.set w.toNat (go.getD ((4 * p) + i).toNat 0)))) := e_7
      refine ik_Wk 1 (pc_q := 108) (loc_q := [some (.ref 66), some (fI p), some (fI g), some (fI i)]) (st_q := [.ref 66]) (h_q := h_7) (cl_q := 0) (sl_q := 0) rfl ?_
      refine fw_gf rfl rfl g_7_66 rfl ?_
      refine ik_Wk 1 (pc_q := 112) (loc_q := [some (.ref 66), some (fI p), some (fI g), some (fI i)]) (st_q := [.ref 66, .ref 78]) (h_q := h_7) (cl_q := 0) (sl_q := 0) rfl ?_
      refine fw_gf rfl rfl g_7_66 rfl ?_
      refine ik_Wk 1 (pc_q := 116) (loc_q := [some (.ref 66), some (fI p), some (fI g), some (fI i)]) (st_q := [.ref 66, fI w, .ref 78]) (h_q := h_7) (cl_q := 0) (sl_q := 0) rfl ?_
      refine fw_gf rfl rfl g_7_66 rfl ?_
      refine ik_Wk 2 (pc_q := 121) (loc_q := [some (.ref 66), some (fI p), some (fI g), some (fI i)]) (st_q := [fI p, fI 4, .ref 69, fI w, .ref 78]) (h_q := h_7) (cl_q := 0) (sl_q := 0) rfl ?_
      refine fw_mul rfl ?_
      refine ik_Wk 1 (pc_q := 123) (loc_q := [some (.ref 66), some (fI p), some (fI g), some (fI i)]) (st_q := [fI i, fI (4 * p), .ref 69, fI w, .ref 78]) (h_q := h_7) (cl_q := 0) (sl_q := 0) rfl ?_
      refine fw_add rfl ?_
      refine fw_ial rfl g_7_69 (by omega) (by omega) (by omega) ?_
      have hd3 := q4 ((4 * p) + i) (by omega) (by omega)
      refine ik_Wk 1 (pc_q := 126) (loc_q := [some (.ref 66), some (fI p), some (fI g), some (fI i)]) (st_q := [fI i, fI (ch.getD ((4 * p) + i).toNat 0), fI w, .ref 78]) (h_q := h_7) (cl_q := 0) (sl_q := 0) rfl ?_
      refine fw_if_ne rfl rfl (by omega) (by omega) (fun hc4 => ?_) (fun hc4 => ?_)
      · refine ik_Wk 2 (pc_q := 134) (loc_q := [some (.ref 66), some (fI p), some (fI g), some (fI i)]) (st_q := [fI g, fI (ch.getD ((4 * p) + i).toNat 0), fI w, .ref 78]) (h_q := h_7) (cl_q := 0) (sl_q := 0) rfl ?_
        refine fw_sub rfl ?_
        have hl5 : (wc1.set w.toNat ((ch.getD ((4 * p) + i).toNat 0) - g)).length = 5 := (List.length_set ..).trans n78
        refine fx_ias rfl g_7_78 (by omega) (by omega) (by omega) ?_
        intro h_8 e_8 f_8 l_8
        have k_8 : cL h_8 := l_8.trans k_7
        have fr_8 := hfr_wb fr_7 f_8 l_8 rfl
        clear l_8
        have g_8_66 := (f_8 66 (Nat.ne_of_beq_eq_false rfl)).trans g_7_66
        have g_8_67 := (f_8 67 (Nat.ne_of_beq_eq_false rfl)).trans g_7_67
        have g_8_68 := (f_8 68 (Nat.ne_of_beq_eq_false rfl)).trans g_7_68
        have g_8_69 := (f_8 69 (Nat.ne_of_beq_eq_false rfl)).trans g_7_69
        have g_8_77 := (f_8 77 (Nat.ne_of_beq_eq_false rfl)).trans g_7_77
        have g_8_78 : cE h_8 78 (.inl (.int, fA (wc1.set w.toNat ((ch.getD ((4 * p) + i).toNat 0) - g)))) := e_8
        refine ik_Wk 2 (pc_q := 138) (loc_q := [some (.ref 66), some (fI p), some (fI g), some (fI i)]) (st_q := [.ref 66, .ref 66]) (h_q := h_8) (cl_q := 0) (sl_q := 0) rfl ?_
        refine fw_gf rfl rfl g_8_66 rfl ?_
        refine ik_Wk 1 (pc_q := 142) (loc_q := [some (.ref 66), some (fI p), some (fI g), some (fI i)]) (st_q := [fI 1, fI w, .ref 66]) (h_q := h_8) (cl_q := 0) (sl_q := 0) rfl ?_
        refine fw_add rfl ?_
        refine fx_pf rfl rfl g_8_66 (Nat.le_of_ble_eq_true rfl) rfl rfl ?_
        intro h_9 e_9 f_9 l_9
        have k_9 : cL h_9 := l_9.trans k_8
        have fr_9 := hfr_wb fr_8 f_9 l_9 rfl
        clear l_9
        have g_9_67 := (f_9 67 (Nat.ne_of_beq_eq_false rfl)).trans g_8_67
        have g_9_68 := (f_9 68 (Nat.ne_of_beq_eq_false rfl)).trans g_8_68
        have g_9_69 := (f_9 69 (Nat.ne_of_beq_eq_false rfl)).trans g_8_69
        have g_9_77 := (f_9 77 (Nat.ne_of_beq_eq_false rfl)).trans g_8_77
        have g_9_78 := (f_9 78 (Nat.ne_of_beq_eq_false rfl)).trans g_8_78
        have g_9_66 : cE h_9 66 (.inr (10, (fI (f 0) :: .ref 67 :: .ref 68 :: .ref 69 :: fI ((s : Nat) : Int) :: .ref 70 :: .ref 71 :: fI (f 7) :: fI (f 8) :: .ref 72 :: fI (f 10) :: fI (f 11) :: fI (f 12) :: fJ (f 13) :: fI (f 14) :: fI (f 15) :: fI (f 16) :: fI (f 17) :: .ref 73 :: .ref 74 :: .ref 75 :: .ref 76 :: .ref 77 :: .ref 78 :: fI (w + 1) :: .ref 79 :: .ref 80 :: .ref 81 :: .ref 82 :: .ref 83 :: .ref 84 :: .ref 85 :: fJ (f 32) :: fJ (f 33) :: .ref 86 :: .ref 87 :: fI (f 36) :: .ref 88 :: .ref 89 :: .ref 90 :: .ref 91 :: .ref 92 :: .ref 93 :: []))) := e_9
        refine fw_inc (a := i) (loc_q := [some (.ref 66), some (fI p), some (fI g), some (fI (i + 1))]) rfl rfl (Nat.le_of_ble_eq_true rfl) rfl ?_
        refine ik_Wk 1 (pc_q := 78) (loc_q := [some (.ref 66), some (fI p), some (fI g), some (fI (i + 1))]) (st_q := []) (h_q := h_9) (cl_q := 0) (sl_q := 0) rfl ?_
        have z1 := mx_o_le (ch := ch) (s := s) (p := p)
        have ez := mx_w_I (go := go) (ch := ch) (s := s) i0 (show i < cn.getD p.toNat 0 by omega)
        have en : mx_o ch s p + (i + 1).toNat = mx_o ch s p + i.toNat + 1 := by omega
        have e2 : ((ch.getD ((4 * p) + i).toNat 0) - g) = ((mx_w cn go ch s p).getD (mx_o ch s p + i.toNat) (0, 0)).2 := by rw [ez]; show _ = (if i = 0 then _ else _); rw [← hg]; split <;> omega
        exact ih  (i + 1) (w + 1) (wg1.set w.toNat (go.getD ((4 * p) + i).toNat 0)) (wc1.set w.toNat ((ch.getD ((4 * p) + i).toNat 0) - g)) h_9 g_9_66 g_9_67 n67 g_9_68 n68 g_9_69 n69 g_9_77 hl2 g_9_78 hl5 k_9 fr_9 (by omega) (by omega) (by omega) (by rw [en]; exact mx_at_s ht (by omega) (by omega) (by omega) (by rw [ez]; rfl) e2) (by omega)
      · refine ik_Wk 1 (pc_q := 134) (loc_q := [some (.ref 66), some (fI p), some (fI g), some (fI i)]) (st_q := [fI 0, fI (ch.getD ((4 * p) + i).toNat 0), fI w, .ref 78]) (h_q := h_7) (cl_q := 0) (sl_q := 0) rfl ?_
        refine fw_sub rfl ?_
        have hl6 : (wc1.set w.toNat ((ch.getD ((4 * p) + i).toNat 0) - 0)).length = 5 := (List.length_set ..).trans n78
        refine fx_ias rfl g_7_78 (by omega) (by omega) (by omega) ?_
        intro h_10 e_10 f_10 l_10
        have k_10 : cL h_10 := l_10.trans k_7
        have fr_10 := hfr_wb fr_7 f_10 l_10 rfl
        clear l_10
        have g_10_66 := (f_10 66 (Nat.ne_of_beq_eq_false rfl)).trans g_7_66
        have g_10_67 := (f_10 67 (Nat.ne_of_beq_eq_false rfl)).trans g_7_67
        have g_10_68 := (f_10 68 (Nat.ne_of_beq_eq_false rfl)).trans g_7_68
        have g_10_69 := (f_10 69 (Nat.ne_of_beq_eq_false rfl)).trans g_7_69
        have g_10_77 := (f_10 77 (Nat.ne_of_beq_eq_false rfl)).trans g_7_77
        have g_10_78 : cE h_10 78 (.inl (.int, fA (wc1.set w.toNat ((ch.getD ((4 * p) + i).toNat 0) - 0)))) := e_10
        refine ik_Wk 2 (pc_q := 138) (loc_q := [some (.ref 66), some (fI p), some (fI g), some (fI i)]) (st_q := [.ref 66, .ref 66]) (h_q := h_10) (cl_q := 0) (sl_q := 0) rfl ?_
        refine fw_gf rfl rfl g_10_66 rfl ?_
        refine ik_Wk 1 (pc_q := 142) (loc_q := [some (.ref 66), some (fI p), some (fI g), some (fI i)]) (st_q := [fI 1, fI w, .ref 66]) (h_q := h_10) (cl_q := 0) (sl_q := 0) rfl ?_
        refine fw_add rfl ?_
        refine fx_pf rfl rfl g_10_66 (Nat.le_of_ble_eq_true rfl) rfl rfl ?_
        intro h_11 e_11 f_11 l_11
        have k_11 : cL h_11 := l_11.trans k_10
        have fr_11 := hfr_wb fr_10 f_11 l_11 rfl
        clear l_11
        have g_11_67 := (f_11 67 (Nat.ne_of_beq_eq_false rfl)).trans g_10_67
        have g_11_68 := (f_11 68 (Nat.ne_of_beq_eq_false rfl)).trans g_10_68
        have g_11_69 := (f_11 69 (Nat.ne_of_beq_eq_false rfl)).trans g_10_69
        have g_11_77 := (f_11 77 (Nat.ne_of_beq_eq_false rfl)).trans g_10_77
        have g_11_78 := (f_11 78 (Nat.ne_of_beq_eq_false rfl)).trans g_10_78
        have g_11_66 : cE h_11 66 (.inr (10, (fI (f 0) :: .ref 67 :: .ref 68 :: .ref 69 :: fI ((s : Nat) : Int) :: .ref 70 :: .ref 71 :: fI (f 7) :: fI (f 8) :: .ref 72 :: fI (f 10) :: fI (f 11) :: fI (f 12) :: fJ (f 13) :: fI (f 14) :: fI (f 15) :: fI (f 16) :: fI (f 17) :: .ref 73 :: .ref 74 :: .ref 75 :: .ref 76 :: .ref 77 :: .ref 78 :: fI (w + 1) :: .ref 79 :: .ref 80 :: .ref 81 :: .ref 82 :: .ref 83 :: .ref 84 :: .ref 85 :: fJ (f 32) :: fJ (f 33) :: .ref 86 :: .ref 87 :: fI (f 36) :: .ref 88 :: .ref 89 :: .ref 90 :: .ref 91 :: .ref 92 :: .ref 93 :: []))) := e_11
        refine fw_inc (a := i) (loc_q := [some (.ref 66), some (fI p), some (fI g), some (fI (i + 1))]) rfl rfl (Nat.le_of_ble_eq_true rfl) rfl ?_
        refine ik_Wk 1 (pc_q := 78) (loc_q := [some (.ref 66), some (fI p), some (fI g), some (fI (i + 1))]) (st_q := []) (h_q := h_11) (cl_q := 0) (sl_q := 0) rfl ?_
        have z1 := mx_o_le (ch := ch) (s := s) (p := p)
        have ez := mx_w_I (go := go) (ch := ch) (s := s) i0 (show i < cn.getD p.toNat 0 by omega)
        have en : mx_o ch s p + (i + 1).toNat = mx_o ch s p + i.toNat + 1 := by omega
        have e2 : ((ch.getD ((4 * p) + i).toNat 0) - 0) = ((mx_w cn go ch s p).getD (mx_o ch s p + i.toNat) (0, 0)).2 := by rw [ez]; show _ = (if i = 0 then _ else _); rw [← hg]; split <;> omega
        exact ih  (i + 1) (w + 1) (wg1.set w.toNat (go.getD ((4 * p) + i).toNat 0)) (wc1.set w.toNat ((ch.getD ((4 * p) + i).toNat 0) - 0)) h_11 g_11_66 g_11_67 n67 g_11_68 n68 g_11_69 n69 g_11_77 hl2 g_11_78 hl6 k_11 fr_11 (by omega) (by omega) (by omega) (by rw [en]; exact mx_at_s ht (by omega) (by omega) (by omega) (by rw [ez]; rfl) e2) (by omega)

theorem cr_list {h : List ik_E} {p : Int} {f : Nat → Int} {s : Nat} {cn : List Int} {go : List Int} {ch : List Int} {gt : List Int} {gd : List Int} (q0 : 0 ≤ p) (q1 : p < 12) (q2 : s < 4096) (q3 : 0 ≤ cn.getD p.toNat 0 ∧ cn.getD p.toNat 0 ≤ 4) (q4 : ∀ j : Int, 4 * p ≤ j → j < 4 * p + cn.getD p.toNat 0 → 0 ≤ ch.getD j.toNat 0 ∧ ch.getD j.toNat 0 ≤ 100) (q5 : 1 ≤ cn.getD p.toNat 0) (h66 : cE h 66 (.inr (10, (fI (f 0) :: .ref 67 :: .ref 68 :: .ref 69 :: fI ((s : Nat) : Int) :: .ref 70 :: .ref 71 :: fI (f 7) :: fI (f 8) :: .ref 72 :: fI (f 10) :: fI (f 11) :: fI (f 12) :: fJ (f 13) :: fI (f 14) :: fI (f 15) :: fI (f 16) :: fI (f 17) :: .ref 73 :: .ref 74 :: .ref 75 :: .ref 76 :: .ref 77 :: .ref 78 :: fI (f 24) :: .ref 79 :: .ref 80 :: .ref 81 :: .ref 82 :: .ref 83 :: .ref 84 :: .ref 85 :: fJ (f 32) :: fJ (f 33) :: .ref 86 :: .ref 87 :: fI (f 36) :: .ref 88 :: .ref 89 :: .ref 90 :: .ref 91 :: .ref 92 :: .ref 93 :: [])))) (h67 : cE h 67 (.inl (.int, fA cn))) (n67 : cn.length = (12 : Nat)) (h68 : cE h 68 (.inl (.int, fA go))) (n68 : go.length = (48 : Nat)) (h69 : cE h 69 (.inl (.int, fA ch))) (n69 : ch.length = (48 : Nat)) (h77 : cE h 77 (.inl (.int, fA gt))) (n77 : gt.length = (5 : Nat)) (h78 : cE h 78 (.inl (.int, fA gd))) (n78 : gd.length = (5 : Nat)) (hl : h.length = (94 : Nat)) : ik_F 152 [.ref 66, fI p] h (fun rv h_q => ∃ (gt' : List Int) (gd' : List Int), rv = [] ∧ cE h_q 66 (.inr (10, (fI (f 0) :: .ref 67 :: .ref 68 :: .ref 69 :: fI ((s : Nat) : Int) :: .ref 70 :: .ref 71 :: fI (f 7) :: fI (f 8) :: .ref 72 :: fI (f 10) :: fI (f 11) :: fI (f 12) :: fJ (f 13) :: fI (f 14) :: fI (f 15) :: fI (f 16) :: fI (f 17) :: .ref 73 :: .ref 74 :: .ref 75 :: .ref 76 :: .ref 77 :: .ref 78 :: fI ((mx_w cn go ch s p).length : Int) :: .ref 79 :: .ref 80 :: .ref 81 :: .ref 82 :: .ref 83 :: .ref 84 :: .ref 85 :: fJ (f 32) :: fJ (f 33) :: .ref 86 :: .ref 87 :: fI (f 36) :: .ref 88 :: .ref 89 :: .ref 90 :: .ref 91 :: .ref 92 :: .ref 93 :: []))) ∧ cE h_q 77 (.inl (.int, fA gt')) ∧ gt'.length = (5 : Nat) ∧ cE h_q 78 (.inl (.int, fA gd')) ∧ gd'.length = (5 : Nat) ∧ (mx_at 0 (mx_w cn go ch s p) gt' gd' (mx_w cn go ch s p).length) ∧ hfr [66, 77, 78] h h_q) := by
  refine ik_Wk 1 (pc_q := 1) (loc_q := [some (.ref 66), some (fI p), none, none]) (st_q := [.ref 66]) (h_q := h) (cl_q := 0) (sl_q := 0) rfl ?_
  refine fw_gf rfl rfl h66 rfl ?_
  refine ik_Wk 2 (pc_q := 6) (loc_q := [some (.ref 66), some (fI p), none, none]) (st_q := [fI p, fI 4, .ref 69]) (h_q := h) (cl_q := 0) (sl_q := 0) rfl ?_
  refine fw_mul rfl ?_
  refine fw_ial rfl h69 (by omega) (by omega) (by omega) ?_
  have hd1 := q4 (4 * p) (by omega) (by omega)
  refine ik_Wk 1 (pc_q := 9) (loc_q := [some (.ref 66), some (fI p), none, none]) (st_q := [fI 1, fI (ch.getD (4 * p).toNat 0)]) (h_q := h) (cl_q := 0) (sl_q := 0) rfl ?_
  refine fw_sub rfl ?_
  refine fw_bi rfl (by decide +kernel) ?_
  refine fw_ic_ge rfl rfl (by omega) (by omega) (by omega) (by omega) (fun hc2 => ?_) (fun hc2 => ?_)
  · refine fw_bi rfl (by decide +kernel) ?_
    refine ik_Wk 2 (pc_q := 32) (loc_q := [some (.ref 66), some (fI p), some (fI 20), none]) (st_q := [.ref 66]) (h_q := h) (cl_q := 0) (sl_q := 0) rfl ?_
    refine fw_gf rfl rfl h66 rfl ?_
    refine ik_Wk 1 (pc_q := 36) (loc_q := [some (.ref 66), some (fI p), some (fI 20), none]) (st_q := [fI p, fI ((s : Nat) : Int)]) (h_q := h) (cl_q := 0) (sl_q := 0) rfl ?_
    refine ik_Wc 128 2 3 [fI ((s : Nat) : Int), fI p] [] rfl rfl rfl (by decide +kernel) rfl rfl (fw_sta hl rfl (by decide +kernel)) ?_
    refine ik_Wk 0 (pc_q := 0) (loc_q := [some (fI ((s : Nat) : Int)), some (fI p)]) (st_q := []) (h_q := h) (cl_q := 0) (sl_q := 0) rfl ?_
    refine ik_Wk 2 (pc_q := 2) (loc_q := [some (fI ((s : Nat) : Int)), some (fI p)]) (st_q := [fI p, fI ((s : Nat) : Int)]) (h_q := h) (cl_q := 0) (sl_q := 0) rfl ?_
    refine fx_shr (n := s) rfl (by omega) (by omega) (by omega) ?_
    refine ik_Wk 1 (pc_q := 4) (loc_q := [some (fI ((s : Nat) : Int)), some (fI p)]) (st_q := [fI 1, fI ((s >>> p.toNat : Nat) : Int)]) (h_q := h) (cl_q := 0) (sl_q := 0) rfl ?_
    refine fx_bit (n := s) (k := p.toNat) rfl (fun hb3 => ?_) (fun hb3 => ?_)
    · refine ik_Wk 0 (pc_q := 5) (loc_q := [some (fI ((s : Nat) : Int)), some (fI p)]) (st_q := [fI 1]) (h_q := h) (cl_q := 0) (sl_q := 0) rfl ?_
      refine ik_Wk 1 (pc_q := 6) (loc_q := [some (fI ((s : Nat) : Int)), some (fI p)]) (st_q := [fI 1, fI 1]) (h_q := h) (cl_q := 0) (sl_q := 0) rfl ?_
      refine fw_ic_ne rfl rfl (by decide +kernel) (by decide +kernel) (by decide +kernel) (by decide +kernel) (fun hc4 => ?_) (fun hc4 => absurd hc4 (by decide +kernel))
      refine ik_Wk 2 (pc_q := 14) (loc_q := [some (fI ((s : Nat) : Int)), some (fI p)]) (st_q := [fI 1]) (h_q := h) (cl_q := 0) (sl_q := 0) rfl ?_
      refine ik_Wret rfl rfl ⟨_, _, rfl, rfl, ?_⟩
      refine ik_Wk 0 (pc_q := 39) (loc_q := [some (.ref 66), some (fI p), some (fI 20), none]) (st_q := [fI 1]) (h_q := h) (cl_q := 0) (sl_q := 0) rfl ?_
      refine fw_if_eq rfl rfl (by decide +kernel) (by decide +kernel) (fun hc5 => absurd hc5 (by decide +kernel)) (fun hc5 => ?_)
      refine ik_Wk 5 (pc_q := 50) (loc_q := [some (.ref 66), some (fI p), some (fI 20), none]) (st_q := [fI 0, .ref 66]) (h_q := h) (cl_q := 0) (sl_q := 0) rfl ?_
      refine fx_pf rfl rfl h66 (Nat.le_of_ble_eq_true rfl) rfl rfl ?_
      intro h_12 e_12 f_12 l_12
      have k_12 : cL h_12 := l_12.trans hl
      have fr_12 := hfr_wb (hfr_refl [66, 77, 78] h) f_12 l_12 rfl
      clear l_12
      have g_12_67 := (f_12 67 (Nat.ne_of_beq_eq_false rfl)).trans h67
      have g_12_68 := (f_12 68 (Nat.ne_of_beq_eq_false rfl)).trans h68
      have g_12_69 := (f_12 69 (Nat.ne_of_beq_eq_false rfl)).trans h69
      have g_12_77 := (f_12 77 (Nat.ne_of_beq_eq_false rfl)).trans h77
      have g_12_78 := (f_12 78 (Nat.ne_of_beq_eq_false rfl)).trans h78
      have g_12_66 : cE h_12 66 (.inr (10, (fI (f 0) :: .ref 67 :: .ref 68 :: .ref 69 :: fI ((s : Nat) : Int) :: .ref 70 :: .ref 71 :: fI (f 7) :: fI (f 8) :: .ref 72 :: fI (f 10) :: fI (f 11) :: fI (f 12) :: fJ (f 13) :: fI (f 14) :: fI (f 15) :: fI (f 16) :: fI (f 17) :: .ref 73 :: .ref 74 :: .ref 75 :: .ref 76 :: .ref 77 :: .ref 78 :: fI 0 :: .ref 79 :: .ref 80 :: .ref 81 :: .ref 82 :: .ref 83 :: .ref 84 :: .ref 85 :: fJ (f 32) :: fJ (f 33) :: .ref 86 :: .ref 87 :: fI (f 36) :: .ref 88 :: .ref 89 :: .ref 90 :: .ref 91 :: .ref 92 :: .ref 93 :: []))) := e_12
      refine ik_Wk 1 (pc_q := 54) (loc_q := [some (.ref 66), some (fI p), some (fI 20), none]) (st_q := [fI 20]) (h_q := h_12) (cl_q := 0) (sl_q := 0) rfl ?_
      refine fw_if_le rfl rfl (by decide +kernel) (by decide +kernel) (fun hc6 => absurd hc6 (by decide +kernel)) (fun hc6 => ?_)
      refine ik_Wk 1 (pc_q := 58) (loc_q := [some (.ref 66), some (fI p), some (fI 20), none]) (st_q := [.ref 66]) (h_q := h_12) (cl_q := 0) (sl_q := 0) rfl ?_
      refine fw_gf rfl rfl g_12_66 rfl ?_
      refine ik_Wk 2 (pc_q := 63) (loc_q := [some (.ref 66), some (fI p), some (fI 20), none]) (st_q := [fI p, fI 0, .ref 77]) (h_q := h_12) (cl_q := 0) (sl_q := 0) rfl ?_
      have hl7 : (gt.set (0 : Int).toNat p).length = 5 := (List.length_set ..).trans n77
      refine fx_ias rfl g_12_77 (by omega) (by omega) (by omega) ?_
      intro h_13 e_13 f_13 l_13
      have k_13 : cL h_13 := l_13.trans k_12
      have fr_13 := hfr_wb fr_12 f_13 l_13 rfl
      clear l_13
      have g_13_66 := (f_13 66 (Nat.ne_of_beq_eq_false rfl)).trans g_12_66
      have g_13_67 := (f_13 67 (Nat.ne_of_beq_eq_false rfl)).trans g_12_67
      have g_13_68 := (f_13 68 (Nat.ne_of_beq_eq_false rfl)).trans g_12_68
      have g_13_69 := (f_13 69 (Nat.ne_of_beq_eq_false rfl)).trans g_12_69
      have g_13_78 := (f_13 78 (Nat.ne_of_beq_eq_false rfl)).trans g_12_78
      have g_13_77 : cE h_13 77 (.inl (.int, fA (gt.set (0 : Int).toNat p))) := e_13
      refine ik_Wk 1 (pc_q := 65) (loc_q := [some (.ref 66), some (fI p), some (fI 20), none]) (st_q := [.ref 66]) (h_q := h_13) (cl_q := 0) (sl_q := 0) rfl ?_
      refine fw_gf rfl rfl g_13_66 rfl ?_
      refine ik_Wk 2 (pc_q := 70) (loc_q := [some (.ref 66), some (fI p), some (fI 20), none]) (st_q := [fI 20, fI 0, .ref 78]) (h_q := h_13) (cl_q := 0) (sl_q := 0) rfl ?_
      have hl8 : (gd.set (0 : Int).toNat 20).length = 5 := (List.length_set ..).trans n78
      refine fx_ias rfl g_13_78 (by omega) (by omega) (by omega) ?_
      intro h_14 e_14 f_14 l_14
      have k_14 : cL h_14 := l_14.trans k_13
      have fr_14 := hfr_wb fr_13 f_14 l_14 rfl
      clear l_14
      have g_14_66 := (f_14 66 (Nat.ne_of_beq_eq_false rfl)).trans g_13_66
      have g_14_67 := (f_14 67 (Nat.ne_of_beq_eq_false rfl)).trans g_13_67
      have g_14_68 := (f_14 68 (Nat.ne_of_beq_eq_false rfl)).trans g_13_68
      have g_14_69 := (f_14 69 (Nat.ne_of_beq_eq_false rfl)).trans g_13_69
      have g_14_77 := (f_14 77 (Nat.ne_of_beq_eq_false rfl)).trans g_13_77
      have g_14_78 : cE h_14 78 (.inl (.int, fA (gd.set (0 : Int).toNat 20))) := e_14
      refine ik_Wk 2 (pc_q := 73) (loc_q := [some (.ref 66), some (fI p), some (fI 20), none]) (st_q := [fI 1, .ref 66]) (h_q := h_14) (cl_q := 0) (sl_q := 0) rfl ?_
      refine fx_pf rfl rfl g_14_66 (Nat.le_of_ble_eq_true rfl) rfl rfl ?_
      intro h_15 e_15 f_15 l_15
      have k_15 : cL h_15 := l_15.trans k_14
      have fr_15 := hfr_wb fr_14 f_15 l_15 rfl
      clear l_15
      have g_15_67 := (f_15 67 (Nat.ne_of_beq_eq_false rfl)).trans g_14_67
      have g_15_68 := (f_15 68 (Nat.ne_of_beq_eq_false rfl)).trans g_14_68
      have g_15_69 := (f_15 69 (Nat.ne_of_beq_eq_false rfl)).trans g_14_69
      have g_15_77 := (f_15 77 (Nat.ne_of_beq_eq_false rfl)).trans g_14_77
      have g_15_78 := (f_15 78 (Nat.ne_of_beq_eq_false rfl)).trans g_14_78
      have g_15_66 : cE h_15 66 (.inr (10, (fI (f 0) :: .ref 67 :: .ref 68 :: .ref 69 :: fI ((s : Nat) : Int) :: .ref 70 :: .ref 71 :: fI (f 7) :: fI (f 8) :: .ref 72 :: fI (f 10) :: fI (f 11) :: fI (f 12) :: fJ (f 13) :: fI (f 14) :: fI (f 15) :: fI (f 16) :: fI (f 17) :: .ref 73 :: .ref 74 :: .ref 75 :: .ref 76 :: .ref 77 :: .ref 78 :: fI 1 :: .ref 79 :: .ref 80 :: .ref 81 :: .ref 82 :: .ref 83 :: .ref 84 :: .ref 85 :: fJ (f 32) :: fJ (f 33) :: .ref 86 :: .ref 87 :: fI (f 36) :: .ref 88 :: .ref 89 :: .ref 90 :: .ref 91 :: .ref 92 :: .ref 93 :: []))) := e_15
      refine ik_Wk 2 (pc_q := 78) (loc_q := [some (.ref 66), some (fI p), some (fI 20), some (fI 0)]) (st_q := []) (h_q := h_15) (cl_q := 0) (sl_q := 0) rfl ?_
      have hg := mx_g_t (m := 20) (ch := ch) hb3 (by omega)
      have hz := mx_o_1 (ch := ch) (s := s) (p := p) (by omega)
      exact cr_listL (p := p) (f := f) (s := s) (cn := cn) (go := go) (ch := ch) (gt := gt) (gd := gd) q0 q1 q2 q3 q4 q5 hg ((cn.getD p.toNat 0).toNat + 1) 0 1 (gt.set (0 : Int).toNat p) (gd.set (0 : Int).toNat 20) h_15 g_15_66 g_15_67 n67 g_15_68 n68 g_15_69 n69 g_15_77 hl7 g_15_78 hl8 k_15 fr_15 (by omega) (by omega) (by omega) (by rw [hz]; exact mx_at_s (n := 0) (mx_at_0 _ _ _ _) (by omega) (by omega) (by omega) (by rw [mx_w_0 (by omega)]) (by rw [mx_w_0 (by omega)]; exact hg)) (by omega)
    · refine ik_Wk 0 (pc_q := 5) (loc_q := [some (fI ((s : Nat) : Int)), some (fI p)]) (st_q := [fI 0]) (h_q := h) (cl_q := 0) (sl_q := 0) rfl ?_
      refine ik_Wk 1 (pc_q := 6) (loc_q := [some (fI ((s : Nat) : Int)), some (fI p)]) (st_q := [fI 1, fI 0]) (h_q := h) (cl_q := 0) (sl_q := 0) rfl ?_
      refine fw_ic_ne rfl rfl (by decide +kernel) (by decide +kernel) (by decide +kernel) (by decide +kernel) (fun hc9 => absurd hc9 (by decide +kernel)) (fun hc9 => ?_)
      refine ik_Wk 1 (pc_q := 14) (loc_q := [some (fI ((s : Nat) : Int)), some (fI p)]) (st_q := [fI 0]) (h_q := h) (cl_q := 0) (sl_q := 0) rfl ?_
      refine ik_Wret rfl rfl ⟨_, _, rfl, rfl, ?_⟩
      refine ik_Wk 0 (pc_q := 39) (loc_q := [some (.ref 66), some (fI p), some (fI 20), none]) (st_q := [fI 0]) (h_q := h) (cl_q := 0) (sl_q := 0) rfl ?_
      refine fw_if_eq rfl rfl (by decide +kernel) (by decide +kernel) (fun hc10 => ?_) (fun hc10 => absurd hc10 (by decide +kernel))
      refine ik_Wk 4 (pc_q := 50) (loc_q := [some (.ref 66), some (fI p), some (fI 0), none]) (st_q := [fI 0, .ref 66]) (h_q := h) (cl_q := 0) (sl_q := 0) rfl ?_
      refine fx_pf rfl rfl h66 (Nat.le_of_ble_eq_true rfl) rfl rfl ?_
      intro h_16 e_16 f_16 l_16
      have k_16 : cL h_16 := l_16.trans hl
      have fr_16 := hfr_wb (hfr_refl [66, 77, 78] h) f_16 l_16 rfl
      clear l_16
      have g_16_67 := (f_16 67 (Nat.ne_of_beq_eq_false rfl)).trans h67
      have g_16_68 := (f_16 68 (Nat.ne_of_beq_eq_false rfl)).trans h68
      have g_16_69 := (f_16 69 (Nat.ne_of_beq_eq_false rfl)).trans h69
      have g_16_77 := (f_16 77 (Nat.ne_of_beq_eq_false rfl)).trans h77
      have g_16_78 := (f_16 78 (Nat.ne_of_beq_eq_false rfl)).trans h78
      have g_16_66 : cE h_16 66 (.inr (10, (fI (f 0) :: .ref 67 :: .ref 68 :: .ref 69 :: fI ((s : Nat) : Int) :: .ref 70 :: .ref 71 :: fI (f 7) :: fI (f 8) :: .ref 72 :: fI (f 10) :: fI (f 11) :: fI (f 12) :: fJ (f 13) :: fI (f 14) :: fI (f 15) :: fI (f 16) :: fI (f 17) :: .ref 73 :: .ref 74 :: .ref 75 :: .ref 76 :: .ref 77 :: .ref 78 :: fI 0 :: .ref 79 :: .ref 80 :: .ref 81 :: .ref 82 :: .ref 83 :: .ref 84 :: .ref 85 :: fJ (f 32) :: fJ (f 33) :: .ref 86 :: .ref 87 :: fI (f 36) :: .ref 88 :: .ref 89 :: .ref 90 :: .ref 91 :: .ref 92 :: .ref 93 :: []))) := e_16
      refine ik_Wk 1 (pc_q := 54) (loc_q := [some (.ref 66), some (fI p), some (fI 0), none]) (st_q := [fI 0]) (h_q := h_16) (cl_q := 0) (sl_q := 0) rfl ?_
      refine fw_if_le rfl rfl (by decide +kernel) (by decide +kernel) (fun hc11 => ?_) (fun hc11 => absurd hc11 (by decide +kernel))
      refine ik_Wk 2 (pc_q := 78) (loc_q := [some (.ref 66), some (fI p), some (fI 0), some (fI 0)]) (st_q := []) (h_q := h_16) (cl_q := 0) (sl_q := 0) rfl ?_
      have hg := mx_g_f (ch := ch) hb3
      have hz := mx_o_0 (ch := ch) (s := s) (p := p) (by omega)
      exact cr_listL (p := p) (f := f) (s := s) (cn := cn) (go := go) (ch := ch) (gt := gt) (gd := gd) q0 q1 q2 q3 q4 q5 hg ((cn.getD p.toNat 0).toNat + 1) 0 0 gt gd h_16 g_16_66 g_16_67 n67 g_16_68 n68 g_16_69 n69 g_16_77 n77 g_16_78 n78 k_16 fr_16 (by omega) (by omega) (by omega) (by rw [hz]; exact mx_at_0 _ _ _ _) (by omega)
  · refine ik_Wk 1 (pc_q := 16) (loc_q := [some (.ref 66), some (fI p), none, none]) (st_q := [.ref 66]) (h_q := h) (cl_q := 0) (sl_q := 0) rfl ?_
    refine fw_gf rfl rfl h66 rfl ?_
    refine ik_Wk 2 (pc_q := 21) (loc_q := [some (.ref 66), some (fI p), none, none]) (st_q := [fI p, fI 4, .ref 69]) (h_q := h) (cl_q := 0) (sl_q := 0) rfl ?_
    refine fw_mul rfl ?_
    refine fw_ial rfl h69 (by omega) (by omega) (by omega) ?_
    have hd12 := q4 (4 * p) (by omega) (by omega)
    refine ik_Wk 1 (pc_q := 24) (loc_q := [some (.ref 66), some (fI p), none, none]) (st_q := [fI 1, fI (ch.getD (4 * p).toNat 0)]) (h_q := h) (cl_q := 0) (sl_q := 0) rfl ?_
    refine fw_sub rfl ?_
    refine ik_Wk 3 (pc_q := 32) (loc_q := [some (.ref 66), some (fI p), some (fI ((ch.getD (4 * p).toNat 0) - 1)), none]) (st_q := [.ref 66]) (h_q := h) (cl_q := 0) (sl_q := 0) rfl ?_
    refine fw_gf rfl rfl h66 rfl ?_
    refine ik_Wk 1 (pc_q := 36) (loc_q := [some (.ref 66), some (fI p), some (fI ((ch.getD (4 * p).toNat 0) - 1)), none]) (st_q := [fI p, fI ((s : Nat) : Int)]) (h_q := h) (cl_q := 0) (sl_q := 0) rfl ?_
    refine ik_Wc 128 2 3 [fI ((s : Nat) : Int), fI p] [] rfl rfl rfl (by decide +kernel) rfl rfl (fw_sta hl rfl (by decide +kernel)) ?_
    refine ik_Wk 0 (pc_q := 0) (loc_q := [some (fI ((s : Nat) : Int)), some (fI p)]) (st_q := []) (h_q := h) (cl_q := 0) (sl_q := 0) rfl ?_
    refine ik_Wk 2 (pc_q := 2) (loc_q := [some (fI ((s : Nat) : Int)), some (fI p)]) (st_q := [fI p, fI ((s : Nat) : Int)]) (h_q := h) (cl_q := 0) (sl_q := 0) rfl ?_
    refine fx_shr (n := s) rfl (by omega) (by omega) (by omega) ?_
    refine ik_Wk 1 (pc_q := 4) (loc_q := [some (fI ((s : Nat) : Int)), some (fI p)]) (st_q := [fI 1, fI ((s >>> p.toNat : Nat) : Int)]) (h_q := h) (cl_q := 0) (sl_q := 0) rfl ?_
    refine fx_bit (n := s) (k := p.toNat) rfl (fun hb13 => ?_) (fun hb13 => ?_)
    · refine ik_Wk 0 (pc_q := 5) (loc_q := [some (fI ((s : Nat) : Int)), some (fI p)]) (st_q := [fI 1]) (h_q := h) (cl_q := 0) (sl_q := 0) rfl ?_
      refine ik_Wk 1 (pc_q := 6) (loc_q := [some (fI ((s : Nat) : Int)), some (fI p)]) (st_q := [fI 1, fI 1]) (h_q := h) (cl_q := 0) (sl_q := 0) rfl ?_
      refine fw_ic_ne rfl rfl (by decide +kernel) (by decide +kernel) (by decide +kernel) (by decide +kernel) (fun hc14 => ?_) (fun hc14 => absurd hc14 (by decide +kernel))
      refine ik_Wk 2 (pc_q := 14) (loc_q := [some (fI ((s : Nat) : Int)), some (fI p)]) (st_q := [fI 1]) (h_q := h) (cl_q := 0) (sl_q := 0) rfl ?_
      refine ik_Wret rfl rfl ⟨_, _, rfl, rfl, ?_⟩
      refine ik_Wk 0 (pc_q := 39) (loc_q := [some (.ref 66), some (fI p), some (fI ((ch.getD (4 * p).toNat 0) - 1)), none]) (st_q := [fI 1]) (h_q := h) (cl_q := 0) (sl_q := 0) rfl ?_
      refine fw_if_eq rfl rfl (by decide +kernel) (by decide +kernel) (fun hc15 => absurd hc15 (by decide +kernel)) (fun hc15 => ?_)
      refine ik_Wk 5 (pc_q := 50) (loc_q := [some (.ref 66), some (fI p), some (fI ((ch.getD (4 * p).toNat 0) - 1)), none]) (st_q := [fI 0, .ref 66]) (h_q := h) (cl_q := 0) (sl_q := 0) rfl ?_
      refine fx_pf rfl rfl h66 (Nat.le_of_ble_eq_true rfl) rfl rfl ?_
      intro h_17 e_17 f_17 l_17
      have k_17 : cL h_17 := l_17.trans hl
      have fr_17 := hfr_wb (hfr_refl [66, 77, 78] h) f_17 l_17 rfl
      clear l_17
      have g_17_67 := (f_17 67 (Nat.ne_of_beq_eq_false rfl)).trans h67
      have g_17_68 := (f_17 68 (Nat.ne_of_beq_eq_false rfl)).trans h68
      have g_17_69 := (f_17 69 (Nat.ne_of_beq_eq_false rfl)).trans h69
      have g_17_77 := (f_17 77 (Nat.ne_of_beq_eq_false rfl)).trans h77
      have g_17_78 := (f_17 78 (Nat.ne_of_beq_eq_false rfl)).trans h78
      have g_17_66 : cE h_17 66 (.inr (10, (fI (f 0) :: .ref 67 :: .ref 68 :: .ref 69 :: fI ((s : Nat) : Int) :: .ref 70 :: .ref 71 :: fI (f 7) :: fI (f 8) :: .ref 72 :: fI (f 10) :: fI (f 11) :: fI (f 12) :: fJ (f 13) :: fI (f 14) :: fI (f 15) :: fI (f 16) :: fI (f 17) :: .ref 73 :: .ref 74 :: .ref 75 :: .ref 76 :: .ref 77 :: .ref 78 :: fI 0 :: .ref 79 :: .ref 80 :: .ref 81 :: .ref 82 :: .ref 83 :: .ref 84 :: .ref 85 :: fJ (f 32) :: fJ (f 33) :: .ref 86 :: .ref 87 :: fI (f 36) :: .ref 88 :: .ref 89 :: .ref 90 :: .ref 91 :: .ref 92 :: .ref 93 :: []))) := e_17
      refine ik_Wk 1 (pc_q := 54) (loc_q := [some (.ref 66), some (fI p), some (fI ((ch.getD (4 * p).toNat 0) - 1)), none]) (st_q := [fI ((ch.getD (4 * p).toNat 0) - 1)]) (h_q := h_17) (cl_q := 0) (sl_q := 0) rfl ?_
      refine fw_if_le rfl rfl (by omega) (by omega) (fun hc16 => ?_) (fun hc16 => ?_)
      · refine ik_Wk 2 (pc_q := 78) (loc_q := [some (.ref 66), some (fI p), some (fI ((ch.getD (4 * p).toNat 0) - 1)), some (fI 0)]) (st_q := []) (h_q := h_17) (cl_q := 0) (sl_q := 0) rfl ?_
        have hg := mx_g_t (m := (ch.getD (4 * p).toNat 0) - 1) (ch := ch) hb13 (by omega)
        have hz := mx_o_0 (ch := ch) (s := s) (p := p) (by omega)
        exact cr_listL (p := p) (f := f) (s := s) (cn := cn) (go := go) (ch := ch) (gt := gt) (gd := gd) q0 q1 q2 q3 q4 q5 hg ((cn.getD p.toNat 0).toNat + 1) 0 0 gt gd h_17 g_17_66 g_17_67 n67 g_17_68 n68 g_17_69 n69 g_17_77 n77 g_17_78 n78 k_17 fr_17 (by omega) (by omega) (by omega) (by rw [hz]; exact mx_at_0 _ _ _ _) (by omega)
      · refine ik_Wk 1 (pc_q := 58) (loc_q := [some (.ref 66), some (fI p), some (fI ((ch.getD (4 * p).toNat 0) - 1)), none]) (st_q := [.ref 66]) (h_q := h_17) (cl_q := 0) (sl_q := 0) rfl ?_
        refine fw_gf rfl rfl g_17_66 rfl ?_
        refine ik_Wk 2 (pc_q := 63) (loc_q := [some (.ref 66), some (fI p), some (fI ((ch.getD (4 * p).toNat 0) - 1)), none]) (st_q := [fI p, fI 0, .ref 77]) (h_q := h_17) (cl_q := 0) (sl_q := 0) rfl ?_
        have hl17 : (gt.set (0 : Int).toNat p).length = 5 := (List.length_set ..).trans n77
        refine fx_ias rfl g_17_77 (by omega) (by omega) (by omega) ?_
        intro h_18 e_18 f_18 l_18
        have k_18 : cL h_18 := l_18.trans k_17
        have fr_18 := hfr_wb fr_17 f_18 l_18 rfl
        clear l_18
        have g_18_66 := (f_18 66 (Nat.ne_of_beq_eq_false rfl)).trans g_17_66
        have g_18_67 := (f_18 67 (Nat.ne_of_beq_eq_false rfl)).trans g_17_67
        have g_18_68 := (f_18 68 (Nat.ne_of_beq_eq_false rfl)).trans g_17_68
        have g_18_69 := (f_18 69 (Nat.ne_of_beq_eq_false rfl)).trans g_17_69
        have g_18_78 := (f_18 78 (Nat.ne_of_beq_eq_false rfl)).trans g_17_78
        have g_18_77 : cE h_18 77 (.inl (.int, fA (gt.set (0 : Int).toNat p))) := e_18
        refine ik_Wk 1 (pc_q := 65) (loc_q := [some (.ref 66), some (fI p), some (fI ((ch.getD (4 * p).toNat 0) - 1)), none]) (st_q := [.ref 66]) (h_q := h_18) (cl_q := 0) (sl_q := 0) rfl ?_
        refine fw_gf rfl rfl g_18_66 rfl ?_
        refine ik_Wk 2 (pc_q := 70) (loc_q := [some (.ref 66), some (fI p), some (fI ((ch.getD (4 * p).toNat 0) - 1)), none]) (st_q := [fI ((ch.getD (4 * p).toNat 0) - 1), fI 0, .ref 78]) (h_q := h_18) (cl_q := 0) (sl_q := 0) rfl ?_
        have hl18 : (gd.set (0 : Int).toNat ((ch.getD (4 * p).toNat 0) - 1)).length = 5 := (List.length_set ..).trans n78
        refine fx_ias rfl g_18_78 (by omega) (by omega) (by omega) ?_
        intro h_19 e_19 f_19 l_19
        have k_19 : cL h_19 := l_19.trans k_18
        have fr_19 := hfr_wb fr_18 f_19 l_19 rfl
        clear l_19
        have g_19_66 := (f_19 66 (Nat.ne_of_beq_eq_false rfl)).trans g_18_66
        have g_19_67 := (f_19 67 (Nat.ne_of_beq_eq_false rfl)).trans g_18_67
        have g_19_68 := (f_19 68 (Nat.ne_of_beq_eq_false rfl)).trans g_18_68
        have g_19_69 := (f_19 69 (Nat.ne_of_beq_eq_false rfl)).trans g_18_69
        have g_19_77 := (f_19 77 (Nat.ne_of_beq_eq_false rfl)).trans g_18_77
        have g_19_78 : cE h_19 78 (.inl (.int, fA (gd.set (0 : Int).toNat ((ch.getD (4 * p).toNat 0) - 1)))) := e_19
        refine ik_Wk 2 (pc_q := 73) (loc_q := [some (.ref 66), some (fI p), some (fI ((ch.getD (4 * p).toNat 0) - 1)), none]) (st_q := [fI 1, .ref 66]) (h_q := h_19) (cl_q := 0) (sl_q := 0) rfl ?_
        refine fx_pf rfl rfl g_19_66 (Nat.le_of_ble_eq_true rfl) rfl rfl ?_
        intro h_20 e_20 f_20 l_20
        have k_20 : cL h_20 := l_20.trans k_19
        have fr_20 := hfr_wb fr_19 f_20 l_20 rfl
        clear l_20
        have g_20_67 := (f_20 67 (Nat.ne_of_beq_eq_false rfl)).trans g_19_67
        have g_20_68 := (f_20 68 (Nat.ne_of_beq_eq_false rfl)).trans g_19_68
        have g_20_69 := (f_20 69 (Nat.ne_of_beq_eq_false rfl)).trans g_19_69
        have g_20_77 := (f_20 77 (Nat.ne_of_beq_eq_false rfl)).trans g_19_77
        have g_20_78 := (f_20 78 (Nat.ne_of_beq_eq_false rfl)).trans g_19_78
        have g_20_66 : cE h_20 66 (.inr (10, (fI (f 0) :: .ref 67 :: .ref 68 :: .ref 69 :: fI ((s : Nat) : Int) :: .ref 70 :: .ref 71 :: fI (f 7) :: fI (f 8) :: .ref 72 :: fI (f 10) :: fI (f 11) :: fI (f 12) :: fJ (f 13) :: fI (f 14) :: fI (f 15) :: fI (f 16) :: fI (f 17) :: .ref 73 :: .ref 74 :: .ref 75 :: .ref 76 :: .ref 77 :: .ref 78 :: fI 1 :: .ref 79 :: .ref 80 :: .ref 81 :: .ref 82 :: .ref 83 :: .ref 84 :: .ref 85 :: fJ (f 32) :: fJ (f 33) :: .ref 86 :: .ref 87 :: fI (f 36) :: .ref 88 :: .ref 89 :: .ref 90 :: .ref 91 :: .ref 92 :: .ref 93 :: []))) := e_20
        refine ik_Wk 2 (pc_q := 78) (loc_q := [some (.ref 66), some (fI p), some (fI ((ch.getD (4 * p).toNat 0) - 1)), some (fI 0)]) (st_q := []) (h_q := h_20) (cl_q := 0) (sl_q := 0) rfl ?_
        have hg := mx_g_t (m := (ch.getD (4 * p).toNat 0) - 1) (ch := ch) hb13 (by omega)
        have hz := mx_o_1 (ch := ch) (s := s) (p := p) (by omega)
        exact cr_listL (p := p) (f := f) (s := s) (cn := cn) (go := go) (ch := ch) (gt := gt) (gd := gd) q0 q1 q2 q3 q4 q5 hg ((cn.getD p.toNat 0).toNat + 1) 0 1 (gt.set (0 : Int).toNat p) (gd.set (0 : Int).toNat ((ch.getD (4 * p).toNat 0) - 1)) h_20 g_20_66 g_20_67 n67 g_20_68 n68 g_20_69 n69 g_20_77 hl17 g_20_78 hl18 k_20 fr_20 (by omega) (by omega) (by omega) (by rw [hz]; exact mx_at_s (n := 0) (mx_at_0 _ _ _ _) (by omega) (by omega) (by omega) (by rw [mx_w_0 (by omega)]) (by rw [mx_w_0 (by omega)]; exact hg)) (by omega)
    · refine ik_Wk 0 (pc_q := 5) (loc_q := [some (fI ((s : Nat) : Int)), some (fI p)]) (st_q := [fI 0]) (h_q := h) (cl_q := 0) (sl_q := 0) rfl ?_
      refine ik_Wk 1 (pc_q := 6) (loc_q := [some (fI ((s : Nat) : Int)), some (fI p)]) (st_q := [fI 1, fI 0]) (h_q := h) (cl_q := 0) (sl_q := 0) rfl ?_
      refine fw_ic_ne rfl rfl (by decide +kernel) (by decide +kernel) (by decide +kernel) (by decide +kernel) (fun hc19 => absurd hc19 (by decide +kernel)) (fun hc19 => ?_)
      refine ik_Wk 1 (pc_q := 14) (loc_q := [some (fI ((s : Nat) : Int)), some (fI p)]) (st_q := [fI 0]) (h_q := h) (cl_q := 0) (sl_q := 0) rfl ?_
      refine ik_Wret rfl rfl ⟨_, _, rfl, rfl, ?_⟩
      refine ik_Wk 0 (pc_q := 39) (loc_q := [some (.ref 66), some (fI p), some (fI ((ch.getD (4 * p).toNat 0) - 1)), none]) (st_q := [fI 0]) (h_q := h) (cl_q := 0) (sl_q := 0) rfl ?_
      refine fw_if_eq rfl rfl (by decide +kernel) (by decide +kernel) (fun hc20 => ?_) (fun hc20 => absurd hc20 (by decide +kernel))
      refine ik_Wk 4 (pc_q := 50) (loc_q := [some (.ref 66), some (fI p), some (fI 0), none]) (st_q := [fI 0, .ref 66]) (h_q := h) (cl_q := 0) (sl_q := 0) rfl ?_
      refine fx_pf rfl rfl h66 (Nat.le_of_ble_eq_true rfl) rfl rfl ?_
      intro h_21 e_21 f_21 l_21
      have k_21 : cL h_21 := l_21.trans hl
      have fr_21 := hfr_wb (hfr_refl [66, 77, 78] h) f_21 l_21 rfl
      clear l_21
      have g_21_67 := (f_21 67 (Nat.ne_of_beq_eq_false rfl)).trans h67
      have g_21_68 := (f_21 68 (Nat.ne_of_beq_eq_false rfl)).trans h68
      have g_21_69 := (f_21 69 (Nat.ne_of_beq_eq_false rfl)).trans h69
      have g_21_77 := (f_21 77 (Nat.ne_of_beq_eq_false rfl)).trans h77
      have g_21_78 := (f_21 78 (Nat.ne_of_beq_eq_false rfl)).trans h78
      have g_21_66 : cE h_21 66 (.inr (10, (fI (f 0) :: .ref 67 :: .ref 68 :: .ref 69 :: fI ((s : Nat) : Int) :: .ref 70 :: .ref 71 :: fI (f 7) :: fI (f 8) :: .ref 72 :: fI (f 10) :: fI (f 11) :: fI (f 12) :: fJ (f 13) :: fI (f 14) :: fI (f 15) :: fI (f 16) :: fI (f 17) :: .ref 73 :: .ref 74 :: .ref 75 :: .ref 76 :: .ref 77 :: .ref 78 :: fI 0 :: .ref 79 :: .ref 80 :: .ref 81 :: .ref 82 :: .ref 83 :: .ref 84 :: .ref 85 :: fJ (f 32) :: fJ (f 33) :: .ref 86 :: .ref 87 :: fI (f 36) :: .ref 88 :: .ref 89 :: .ref 90 :: .ref 91 :: .ref 92 :: .ref 93 :: []))) := e_21
      refine ik_Wk 1 (pc_q := 54) (loc_q := [some (.ref 66), some (fI p), some (fI 0), none]) (st_q := [fI 0]) (h_q := h_21) (cl_q := 0) (sl_q := 0) rfl ?_
      refine fw_if_le rfl rfl (by decide +kernel) (by decide +kernel) (fun hc21 => ?_) (fun hc21 => absurd hc21 (by decide +kernel))
      refine ik_Wk 2 (pc_q := 78) (loc_q := [some (.ref 66), some (fI p), some (fI 0), some (fI 0)]) (st_q := []) (h_q := h_21) (cl_q := 0) (sl_q := 0) rfl ?_
      have hg := mx_g_f (ch := ch) hb13
      have hz := mx_o_0 (ch := ch) (s := s) (p := p) (by omega)
      exact cr_listL (p := p) (f := f) (s := s) (cn := cn) (go := go) (ch := ch) (gt := gt) (gd := gd) q0 q1 q2 q3 q4 q5 hg ((cn.getD p.toNat 0).toNat + 1) 0 0 gt gd h_21 g_21_66 g_21_67 n67 g_21_68 n68 g_21_69 n69 g_21_77 n77 g_21_78 n78 k_21 fr_21 (by omega) (by omega) (by omega) (by rw [hz]; exact mx_at_0 _ _ _ _) (by omega)

end

/-! 38v.draw -/
noncomputable section
/-! draws and drifts (written by wip/fx/u2.py) -/
theorem cs_goalByL {h : List ik_E} {p : Int} {d : Int} {pl : Int} {lo : Int} {s : Nat} {wg : List Int} {wc : List Int} {we : List Int} {L : List (Int × Int)} (q0 : 0 ≤ p) (q1 : p < 12) (q2 : 0 ≤ d) (q3 : d < 100) (q4 : mx_wy wg wc we p L) (q5 : mx_ok pl L)  : ∀ (k : Nat) (j : Nat) (sm : Int) (kk : Int) (u : List ik_E) (u7 : cE u 7 (.inr (0, [fI pl, fI ((s : Nat) : Int), fI lo, .ref 8, .ref 9, .ref 10, .ref 11, .ref 12, .ref 13]))) (u11 : cE u 11 (.inl (.int, fA wg))) (n11 : wg.length = (60 : Nat)) (u12 : cE u 12 (.inl (.int, fA wc))) (n12 : wc.length = (60 : Nat)) (u13 : cE u 13 (.inl (.int, fA we))) (n13 : we.length = (12 : Nat)) (ul : u.length = (94 : Nat)) (F : hfr [] h u) (hj : j ≤ L.length) (hkk : kk = 5 * p + (j : Int)) (hsm : (0 : Int) ≤ sm ∧ sm ≤ 100 * (j : Int)) (hp : mx_pk L d p = mx_pk (L.drop j) (d - sm) p) (hk : (L.length : Int) - (j : Int) < (k : Int)), ik_G 18 7 [some (.ref 7), some (fI p), some (fI d), some (fI sm), some (fI kk)] [] u (fun rv h_q => rv = [fI (mx_pk L d p)] ∧ hfr [] h h_q) := by
  intro k
  induction k with
  | zero => intro j sm kk u u7 u11 n11 u12 n12 u13 n13 ul F hj hkk hsm hp hk; omega
  | succ k ih =>
    intro j sm kk u u7 u11 n11 u12 n12 u13 n13 ul F hj hkk hsm hp hk
    obtain ⟨w1, w2⟩ := q4
    obtain ⟨o1, o2, o3⟩ := q5
    refine ik_Wk 2 (pc_q := 10) (loc_q := [some (.ref 7), some (fI p), some (fI d), some (fI sm), some (fI kk)]) (st_q := [.ref 7, fI kk]) (h_q := u) (cl_q := 0) (sl_q := 0) rfl ?_
    refine fw_gf rfl rfl u7 rfl ?_
    refine ik_Wk 1 (pc_q := 14) (loc_q := [some (.ref 7), some (fI p), some (fI d), some (fI sm), some (fI kk)]) (st_q := [fI p, .ref 13, fI kk]) (h_q := u) (cl_q := 0) (sl_q := 0) rfl ?_
    refine fw_ial rfl u13 (by omega) (by omega) (by omega) ?_
    refine fw_ic_ge rfl rfl (by omega) (by omega) (by omega) (by omega) (fun hc1 => ?_) (fun hc1 => ?_)
    · refine ik_Wk 1 (pc_q := 48) (loc_q := [some (.ref 7), some (fI p), some (fI d), some (fI sm), some (fI kk)]) (st_q := [fI p]) (h_q := u) (cl_q := 0) (sl_q := 0) rfl ?_
      exact ik_Wret rfl rfl ⟨_, _, rfl, rfl, rfl, rfl, ⟨(by rw [hp, mx_pk_e (by omega)]), F⟩⟩
    · refine ik_Wk 2 (pc_q := 20) (loc_q := [some (.ref 7), some (fI p), some (fI d), some (fI sm), some (fI kk)]) (st_q := [.ref 7, fI sm]) (h_q := u) (cl_q := 0) (sl_q := 0) rfl ?_
      refine fw_gf rfl rfl u7 rfl ?_
      refine ik_Wk 1 (pc_q := 25) (loc_q := [some (.ref 7), some (fI p), some (fI d), some (fI sm), some (fI kk)]) (st_q := [fI kk, .ref 12, fI sm]) (h_q := u) (cl_q := 0) (sl_q := 0) rfl ?_
      refine fw_ial rfl u12 (by omega) (by omega) (by omega) ?_
      have ej : kk.toNat = 5 * p.toNat + j := by omega
      have hw := w2 j (by omega)
      rw [← ej] at hw
      have hq := o3 j (by omega)
      refine fw_add rfl ?_
      refine ik_Wk 3 (pc_q := 30) (loc_q := [some (.ref 7), some (fI p), some (fI d), some (fI (sm + (wc.getD kk.toNat 0))), some (fI kk)]) (st_q := [fI d, fI (sm + (wc.getD kk.toNat 0))]) (h_q := u) (cl_q := 0) (sl_q := 0) rfl ?_
      refine fw_ic_le rfl rfl (by omega) (by omega) (by omega) (by omega) (fun hc2 => ?_) (fun hc2 => ?_)
      · refine fw_inc (a := kk) (loc_q := [some (.ref 7), some (fI p), some (fI d), some (fI (sm + (wc.getD kk.toNat 0))), some (fI (kk + 1))]) rfl rfl (Nat.le_of_ble_eq_true rfl) rfl ?_
        refine ik_Wk 1 (pc_q := 7) (loc_q := [some (.ref 7), some (fI p), some (fI d), some (fI (sm + (wc.getD kk.toNat 0))), some (fI (kk + 1))]) (st_q := []) (h_q := u) (cl_q := 0) (sl_q := 0) rfl ?_
        exact ih  (j + 1) (sm + (wc.getD kk.toNat 0)) (kk + 1) u u7 u11 n11 u12 n12 u13 n13 ul F (by omega) (by omega) (by omega) (by rw [hp, mx_pk_d (by omega), if_neg (by omega), ← hw.2]; exact congrArg (fun z => mx_pk _ z p) (by omega)) (by omega)
      · refine ik_Wk 1 (pc_q := 34) (loc_q := [some (.ref 7), some (fI p), some (fI d), some (fI (sm + (wc.getD kk.toNat 0))), some (fI kk)]) (st_q := [.ref 7]) (h_q := u) (cl_q := 0) (sl_q := 0) rfl ?_
        refine fw_gf rfl rfl u7 rfl ?_
        refine ik_Wk 1 (pc_q := 39) (loc_q := [some (.ref 7), some (fI p), some (fI d), some (fI (sm + (wc.getD kk.toNat 0))), some (fI kk)]) (st_q := [fI kk, .ref 11]) (h_q := u) (cl_q := 0) (sl_q := 0) rfl ?_
        refine fw_ial rfl u11 (by omega) (by omega) (by omega) ?_
        exact ik_Wret rfl rfl ⟨_, _, rfl, rfl, rfl, rfl, ⟨(by rw [hp, mx_pk_d (by omega), if_pos (by omega), hw.1]), F⟩⟩

theorem cs_goalBy {h : List ik_E} {p : Int} {d : Int} {pl : Int} {lo : Int} {s : Nat} {wg : List Int} {wc : List Int} {we : List Int} {L : List (Int × Int)} (q0 : 0 ≤ p) (q1 : p < 12) (q2 : 0 ≤ d) (q3 : d < 100) (q4 : mx_wy wg wc we p L) (q5 : mx_ok pl L) (h7 : cE h 7 (.inr (0, [fI pl, fI ((s : Nat) : Int), fI lo, .ref 8, .ref 9, .ref 10, .ref 11, .ref 12, .ref 13]))) (h11 : cE h 11 (.inl (.int, fA wg))) (n11 : wg.length = 60) (h12 : cE h 12 (.inl (.int, fA wc))) (n12 : wc.length = 60) (h13 : cE h 13 (.inl (.int, fA we))) (n13 : we.length = 12) (hl : h.length = 94) : ik_F 18 [.ref 7, fI p, fI d] h (fun rv h_q => rv = [fI (mx_pk L d p)] ∧ hfr [] h h_q) := by
  refine ik_Wk 4 (pc_q := 4) (loc_q := [some (.ref 7), some (fI p), some (fI d), some (fI 0), none]) (st_q := [fI 5, fI p]) (h_q := h) (cl_q := 0) (sl_q := 0) rfl ?_
  refine fx_mulc rfl ?_
  refine ik_Wk 1 (pc_q := 7) (loc_q := [some (.ref 7), some (fI p), some (fI d), some (fI 0), some (fI (5 * p))]) (st_q := []) (h_q := h) (cl_q := 0) (sl_q := 0) rfl ?_
  exact cs_goalByL (p := p) (d := d) (pl := pl) (lo := lo) (s := s) (wg := wg) (wc := wc) (we := we) (L := L) q0 q1 q2 q3 q4 q5  (L.length + 1) 0 0 (5 * p) h h7 h11 n11 h12 n12 h13 n13 hl (hfr_refl [] h) (by omega) (by omega) (by omega) (by rw [List.drop_zero, Int.sub_zero]) (by omega)

theorem cs_draw {h : List ik_E} {mi : Int} {sd : Int} (q0 : 0 ≤ sd ∧ sd < 2147483648) (h14 : cE h 14 (.inr (1, [.ref 7, .ref 15, .ref 16, fI mi, fJ sd]))) (hl : h.length = 94) : ik_F 27 [.ref 14] h (fun rv h_q => rv = [fI (mx_v sd)] ∧ cE h_q 14 (.inr (1, [.ref 7, .ref 15, .ref 16, fI mi, fJ (mx_d sd)])) ∧ hfr [14] h h_q) := by
  refine ik_Wk 2 (pc_q := 2) (loc_q := [some (.ref 14)]) (st_q := [.ref 14, .ref 14]) (h_q := h) (cl_q := 0) (sl_q := 0) rfl ?_
  refine fw_gf rfl rfl h14 rfl ?_
  refine fw_l2 1103515245 rfl rfl (by decide +kernel) ?_
  refine fw_lmul rfl ?_
  refine fw_l2 12345 rfl rfl (by decide +kernel) ?_
  refine fw_ladd rfl ?_
  refine fw_l2 2147483648 rfl rfl (by decide +kernel) ?_
  refine fx_lrem rfl (by omega) (by omega) (by omega) (by omega) ?_
  refine fx_pf rfl rfl h14 (Nat.le_of_ble_eq_true rfl) rfl rfl ?_
  intro h_22 e_22 f_22 l_22
  have k_22 : cL h_22 := l_22.trans hl
  have fr_22 := hfr_wb (hfr_refl [14] h) f_22 l_22 rfl
  clear l_22
  have g_22_14 : cE h_22 14 (.inr (1, [.ref 7, .ref 15, .ref 16, fI mi, fJ (((sd * 1103515245) + 12345) % 2147483648)])) := e_22
  refine ik_Wk 1 (pc_q := 21) (loc_q := [some (.ref 14)]) (st_q := [.ref 14]) (h_q := h_22) (cl_q := 0) (sl_q := 0) rfl ?_
  refine fw_gf rfl rfl g_22_14 rfl ?_
  refine fw_l2 65536 rfl rfl (by decide +kernel) ?_
  refine fx_ldiv rfl (by omega) (by omega) (by omega) (by omega) ?_
  refine fw_l2 100 rfl rfl (by decide +kernel) ?_
  refine fx_lrem rfl (by omega) (by omega) (by omega) (by omega) ?_
  refine fx_l2i rfl ?_
  exact ik_Wret rfl rfl ⟨_, _, rfl, rfl, rfl, rfl, ⟨rfl, g_22_14, fr_22⟩⟩

theorem cr_draw {h : List ik_E} {f : Nat → Int} {sd : Int} (q0 : 0 ≤ sd ∧ sd < 2147483648) (h66 : cE h 66 (.inr (10, (fI (f 0) :: .ref 67 :: .ref 68 :: .ref 69 :: fI (f 4) :: .ref 70 :: .ref 71 :: fI (f 7) :: fI sd :: .ref 72 :: fI (f 10) :: fI (f 11) :: fI (f 12) :: fJ (f 13) :: fI (f 14) :: fI (f 15) :: fI (f 16) :: fI (f 17) :: .ref 73 :: .ref 74 :: .ref 75 :: .ref 76 :: .ref 77 :: .ref 78 :: fI (f 24) :: .ref 79 :: .ref 80 :: .ref 81 :: .ref 82 :: .ref 83 :: .ref 84 :: .ref 85 :: fJ (f 32) :: fJ (f 33) :: .ref 86 :: .ref 87 :: fI (f 36) :: .ref 88 :: .ref 89 :: .ref 90 :: .ref 91 :: .ref 92 :: .ref 93 :: [])))) (hl : h.length = 94) : ik_F 193 [.ref 66, fI 100] h (fun rv h_q => rv = [fI (mx_v sd)] ∧ cE h_q 66 (.inr (10, (fI (f 0) :: .ref 67 :: .ref 68 :: .ref 69 :: fI (f 4) :: .ref 70 :: .ref 71 :: fI (f 7) :: fI (mx_d sd) :: .ref 72 :: fI (f 10) :: fI (f 11) :: fI (f 12) :: fJ (f 13) :: fI (f 14) :: fI (f 15) :: fI (f 16) :: fI (f 17) :: .ref 73 :: .ref 74 :: .ref 75 :: .ref 76 :: .ref 77 :: .ref 78 :: fI (f 24) :: .ref 79 :: .ref 80 :: .ref 81 :: .ref 82 :: .ref 83 :: .ref 84 :: .ref 85 :: fJ (f 32) :: fJ (f 33) :: .ref 86 :: .ref 87 :: fI (f 36) :: .ref 88 :: .ref 89 :: .ref 90 :: .ref 91 :: .ref 92 :: .ref 93 :: []))) ∧ hfr [66] h h_q) := by
  refine ik_Wk 2 (pc_q := 2) (loc_q := [some (.ref 66), some (fI 100)]) (st_q := [.ref 66, .ref 66]) (h_q := h) (cl_q := 0) (sl_q := 0) rfl ?_
  refine fw_gf rfl rfl h66 rfl ?_
  refine fw_i2l rfl (by omega) (by omega) ?_
  refine fw_l2 1103515245 rfl rfl (by decide +kernel) ?_
  refine fw_lmul rfl ?_
  refine fw_l2 12345 rfl rfl (by decide +kernel) ?_
  refine fw_ladd rfl ?_
  refine fw_l2 2147483648 rfl rfl (by decide +kernel) ?_
  refine fx_lrem rfl (by omega) (by omega) (by omega) (by omega) ?_
  refine fx_l2i rfl ?_
  refine fx_pf rfl rfl h66 (Nat.le_of_ble_eq_true rfl) rfl rfl ?_
  intro h_23 e_23 f_23 l_23
  have k_23 : cL h_23 := l_23.trans hl
  have fr_23 := hfr_wb (hfr_refl [66] h) f_23 l_23 rfl
  clear l_23
  have g_23_66 : cE h_23 66 (.inr (10, (fI (f 0) :: .ref 67 :: .ref 68 :: .ref 69 :: fI (f 4) :: .ref 70 :: .ref 71 :: fI (f 7) :: fI (((sd * 1103515245) + 12345) % 2147483648) :: .ref 72 :: fI (f 10) :: fI (f 11) :: fI (f 12) :: fJ (f 13) :: fI (f 14) :: fI (f 15) :: fI (f 16) :: fI (f 17) :: .ref 73 :: .ref 74 :: .ref 75 :: .ref 76 :: .ref 77 :: .ref 78 :: fI (f 24) :: .ref 79 :: .ref 80 :: .ref 81 :: .ref 82 :: .ref 83 :: .ref 84 :: .ref 85 :: fJ (f 32) :: fJ (f 33) :: .ref 86 :: .ref 87 :: fI (f 36) :: .ref 88 :: .ref 89 :: .ref 90 :: .ref 91 :: .ref 92 :: .ref 93 :: []))) := e_23
  refine ik_Wk 1 (pc_q := 23) (loc_q := [some (.ref 66), some (fI 100)]) (st_q := [.ref 66]) (h_q := h_23) (cl_q := 0) (sl_q := 0) rfl ?_
  refine fw_gf rfl rfl g_23_66 rfl ?_
  refine fx_ldw 65536 rfl rfl (by decide +kernel) ?_
  refine fx_idiv rfl (by omega) (by omega) (by omega) (by omega) ?_
  refine ik_Wk 1 (pc_q := 31) (loc_q := [some (.ref 66), some (fI 100)]) (st_q := [fI 100, fI ((((sd * 1103515245) + 12345) % 2147483648) / 65536)]) (h_q := h_23) (cl_q := 0) (sl_q := 0) rfl ?_
  refine fx_irem rfl (by omega) (by omega) (by omega) (by omega) ?_
  exact ik_Wret rfl rfl ⟨_, _, rfl, rfl, rfl, rfl, ⟨rfl, g_23_66, fr_23⟩⟩

theorem cr_goneL {h : List ik_E} {p : Int} {f : Nat → Int} {s : Nat} {cn : List Int} {go : List Int} {ch : List Int} {gt : List Int} {gd : List Int} {pl : Int} {sd : Int} (q0 : 0 ≤ p) (q1 : p < 12) (q2 : s < 4096) (q3 : 0 ≤ cn.getD p.toNat 0 ∧ cn.getD p.toNat 0 ≤ 4) (q4 : ∀ j : Int, 4 * p ≤ j → j < 4 * p + cn.getD p.toNat 0 → 0 ≤ ch.getD j.toNat 0 ∧ ch.getD j.toNat 0 ≤ 100) (q5 : 1 ≤ cn.getD p.toNat 0) (q6 : (0 : Int) ≤ sd ∧ sd < (2147483648 : Int)) (q7 : mx_ok pl (mx_w cn go ch s p)) {g1 d1 : List Int} (hat : mx_at 0 (mx_w cn go ch s p) g1 d1 (mx_w cn go ch s p).length) : ∀ (k : Nat) (j : Nat) (le : Int) (i : Int) (u : List ik_E) (u66 : cE u 66 (.inr (10, (fI (f 0) :: .ref 67 :: .ref 68 :: .ref 69 :: fI ((s : Nat) : Int) :: .ref 70 :: .ref 71 :: fI (f 7) :: fI (mx_d sd) :: .ref 72 :: fI (f 10) :: fI (f 11) :: fI (f 12) :: fJ (f 13) :: fI (f 14) :: fI (f 15) :: fI (f 16) :: fI (f 17) :: .ref 73 :: .ref 74 :: .ref 75 :: .ref 76 :: .ref 77 :: .ref 78 :: fI ((mx_w cn go ch s p).length : Int) :: .ref 79 :: .ref 80 :: .ref 81 :: .ref 82 :: .ref 83 :: .ref 84 :: .ref 85 :: fJ (f 32) :: fJ (f 33) :: .ref 86 :: .ref 87 :: fI (f 36) :: .ref 88 :: .ref 89 :: .ref 90 :: .ref 91 :: .ref 92 :: .ref 93 :: [])))) (u77 : cE u 77 (.inl (.int, fA g1))) (n77 : g1.length = (5 : Nat)) (u78 : cE u 78 (.inl (.int, fA d1))) (n78 : d1.length = (5 : Nat)) (ul : u.length = (94 : Nat)) (F : hfr [66, 77, 78] h u) (hj : j < (mx_w cn go ch s p).length) (hi : i = (j : Int)) (hle : (0 : Int) ≤ le ∧ le < mx_cs ((mx_w cn go ch s p).drop j)) (hl9 : le < (100 : Int)) (hp : mx_pk (mx_w cn go ch s p) (mx_v sd) p = mx_pk ((mx_w cn go ch s p).drop j) le p) (hk : ((mx_w cn go ch s p).length : Int) - (j : Int) < (k : Int)), ik_G 195 14 [some (.ref 66), some (fI p), some (fI le), some (fI i)] [] u (fun rv h_q => ∃ (gt' : List Int) (gd' : List Int), rv = [fI (mx_pk (mx_w cn go ch s p) (mx_v sd) p)] ∧ cE h_q 66 (.inr (10, (fI (f 0) :: .ref 67 :: .ref 68 :: .ref 69 :: fI ((s : Nat) : Int) :: .ref 70 :: .ref 71 :: fI (f 7) :: fI (mx_d sd) :: .ref 72 :: fI (f 10) :: fI (f 11) :: fI (f 12) :: fJ (f 13) :: fI (f 14) :: fI (f 15) :: fI (f 16) :: fI (f 17) :: .ref 73 :: .ref 74 :: .ref 75 :: .ref 76 :: .ref 77 :: .ref 78 :: fI ((mx_w cn go ch s p).length : Int) :: .ref 79 :: .ref 80 :: .ref 81 :: .ref 82 :: .ref 83 :: .ref 84 :: .ref 85 :: fJ (f 32) :: fJ (f 33) :: .ref 86 :: .ref 87 :: fI (f 36) :: .ref 88 :: .ref 89 :: .ref 90 :: .ref 91 :: .ref 92 :: .ref 93 :: []))) ∧ cE h_q 77 (.inl (.int, fA gt')) ∧ gt'.length = (5 : Nat) ∧ cE h_q 78 (.inl (.int, fA gd')) ∧ gd'.length = (5 : Nat) ∧ hfr [66, 77, 78] h h_q) := by
  intro k
  induction k with
  | zero => intro j le i u u66 u77 n77 u78 n78 ul F hj hi hle hl9 hp hk; omega
  | succ k ih =>
    intro j le i u u66 u77 n77 u78 n78 ul F hj hi hle hl9 hp hk
    obtain ⟨o1, o2, o3⟩ := q7
    have ej : i.toNat = 0 + j := by omega
    have hw := hat j hj
    rw [← ej] at hw
    have hq := o3 j hj
    have hcs := mx_cs_d hj
    have hlen := o1
    refine ik_Wk 2 (pc_q := 16) (loc_q := [some (.ref 66), some (fI p), some (fI le), some (fI i)]) (st_q := [.ref 66, fI le]) (h_q := u) (cl_q := 0) (sl_q := 0) rfl ?_
    refine fw_gf rfl rfl u66 rfl ?_
    refine ik_Wk 1 (pc_q := 20) (loc_q := [some (.ref 66), some (fI p), some (fI le), some (fI i)]) (st_q := [fI i, .ref 78, fI le]) (h_q := u) (cl_q := 0) (sl_q := 0) rfl ?_
    refine fw_ial rfl u78 (by omega) (by omega) (by omega) ?_
    refine fw_ic_lt rfl rfl (by omega) (by omega) (by omega) (by omega) (fun hc1 => ?_) (fun hc1 => ?_)
    · refine ik_Wk 1 (pc_q := 40) (loc_q := [some (.ref 66), some (fI p), some (fI le), some (fI i)]) (st_q := [.ref 66]) (h_q := u) (cl_q := 0) (sl_q := 0) rfl ?_
      refine fw_gf rfl rfl u66 rfl ?_
      refine ik_Wk 1 (pc_q := 44) (loc_q := [some (.ref 66), some (fI p), some (fI le), some (fI i)]) (st_q := [fI i, .ref 77]) (h_q := u) (cl_q := 0) (sl_q := 0) rfl ?_
      refine fw_ial rfl u77 (by omega) (by omega) (by omega) ?_
      exact ik_Wret rfl rfl ⟨_, _, rfl, rfl, rfl, rfl, ⟨g1, d1, (by rw [hp, mx_pk_d hj, if_pos (by omega), hw.1]), u66, u77, n77, u78, n78, F⟩⟩
    · refine ik_Wk 2 (pc_q := 26) (loc_q := [some (.ref 66), some (fI p), some (fI le), some (fI i)]) (st_q := [.ref 66, fI le]) (h_q := u) (cl_q := 0) (sl_q := 0) rfl ?_
      refine fw_gf rfl rfl u66 rfl ?_
      refine ik_Wk 1 (pc_q := 30) (loc_q := [some (.ref 66), some (fI p), some (fI le), some (fI i)]) (st_q := [fI i, .ref 78, fI le]) (h_q := u) (cl_q := 0) (sl_q := 0) rfl ?_
      refine fw_ial rfl u78 (by omega) (by omega) (by omega) ?_
      refine fw_sub rfl ?_
      refine ik_Wk 1 (pc_q := 33) (loc_q := [some (.ref 66), some (fI p), some (fI (le - (d1.getD i.toNat 0))), some (fI i)]) (st_q := []) (h_q := u) (cl_q := 0) (sl_q := 0) rfl ?_
      refine fw_inc (a := i) (loc_q := [some (.ref 66), some (fI p), some (fI (le - (d1.getD i.toNat 0))), some (fI (i + 1))]) rfl rfl (Nat.le_of_ble_eq_true rfl) rfl ?_
      refine ik_Wk 1 (pc_q := 14) (loc_q := [some (.ref 66), some (fI p), some (fI (le - (d1.getD i.toNat 0))), some (fI (i + 1))]) (st_q := []) (h_q := u) (cl_q := 0) (sl_q := 0) rfl ?_
      have hj2 : j + 1 < (mx_w cn go ch s p).length := by
        rcases Nat.lt_or_ge (j + 1) (mx_w cn go ch s p).length with q | q
        · exact q
        · rw [mx_cs_e q] at hcs; omega
      exact ih  (j + 1) (le - (d1.getD i.toNat 0)) (i + 1) u u66 u77 n77 u78 n78 ul F hj2 (by omega) (by omega) (by omega) (by rw [hp, mx_pk_d hj, if_neg (by omega), ← hw.2]) (by omega)

theorem cr_gone {h : List ik_E} {p : Int} {f : Nat → Int} {s : Nat} {cn : List Int} {go : List Int} {ch : List Int} {gt : List Int} {gd : List Int} {pl : Int} {sd : Int} (q0 : 0 ≤ p) (q1 : p < 12) (q2 : s < 4096) (q3 : 0 ≤ cn.getD p.toNat 0 ∧ cn.getD p.toNat 0 ≤ 4) (q4 : ∀ j : Int, 4 * p ≤ j → j < 4 * p + cn.getD p.toNat 0 → 0 ≤ ch.getD j.toNat 0 ∧ ch.getD j.toNat 0 ≤ 100) (q5 : 1 ≤ cn.getD p.toNat 0) (q6 : (0 : Int) ≤ sd ∧ sd < (2147483648 : Int)) (q7 : mx_ok pl (mx_w cn go ch s p)) (h66 : cE h 66 (.inr (10, (fI (f 0) :: .ref 67 :: .ref 68 :: .ref 69 :: fI ((s : Nat) : Int) :: .ref 70 :: .ref 71 :: fI (f 7) :: fI sd :: .ref 72 :: fI (f 10) :: fI (f 11) :: fI (f 12) :: fJ (f 13) :: fI (f 14) :: fI (f 15) :: fI (f 16) :: fI (f 17) :: .ref 73 :: .ref 74 :: .ref 75 :: .ref 76 :: .ref 77 :: .ref 78 :: fI (f 24) :: .ref 79 :: .ref 80 :: .ref 81 :: .ref 82 :: .ref 83 :: .ref 84 :: .ref 85 :: fJ (f 32) :: fJ (f 33) :: .ref 86 :: .ref 87 :: fI (f 36) :: .ref 88 :: .ref 89 :: .ref 90 :: .ref 91 :: .ref 92 :: .ref 93 :: [])))) (h67 : cE h 67 (.inl (.int, fA cn))) (n67 : cn.length = (12 : Nat)) (h68 : cE h 68 (.inl (.int, fA go))) (n68 : go.length = (48 : Nat)) (h69 : cE h 69 (.inl (.int, fA ch))) (n69 : ch.length = (48 : Nat)) (h77 : cE h 77 (.inl (.int, fA gt))) (n77 : gt.length = (5 : Nat)) (h78 : cE h 78 (.inl (.int, fA gd))) (n78 : gd.length = (5 : Nat)) (hl : h.length = (94 : Nat)) : ik_F 195 [.ref 66, fI p] h (fun rv h_q => ∃ (gt' : List Int) (gd' : List Int), rv = [fI (mx_pk (mx_w cn go ch s p) (mx_v sd) p)] ∧ cE h_q 66 (.inr (10, (fI (f 0) :: .ref 67 :: .ref 68 :: .ref 69 :: fI ((s : Nat) : Int) :: .ref 70 :: .ref 71 :: fI (f 7) :: fI (mx_d sd) :: .ref 72 :: fI (f 10) :: fI (f 11) :: fI (f 12) :: fJ (f 13) :: fI (f 14) :: fI (f 15) :: fI (f 16) :: fI (f 17) :: .ref 73 :: .ref 74 :: .ref 75 :: .ref 76 :: .ref 77 :: .ref 78 :: fI ((mx_w cn go ch s p).length : Int) :: .ref 79 :: .ref 80 :: .ref 81 :: .ref 82 :: .ref 83 :: .ref 84 :: .ref 85 :: fJ (f 32) :: fJ (f 33) :: .ref 86 :: .ref 87 :: fI (f 36) :: .ref 88 :: .ref 89 :: .ref 90 :: .ref 91 :: .ref 92 :: .ref 93 :: []))) ∧ cE h_q 77 (.inl (.int, fA gt')) ∧ gt'.length = (5 : Nat) ∧ cE h_q 78 (.inl (.int, fA gd')) ∧ gd'.length = (5 : Nat) ∧ hfr [66, 77, 78] h h_q) := by
  refine ik_Wk 2 (pc_q := 2) (loc_q := [some (.ref 66), some (fI p), none, none]) (st_q := [fI p, .ref 66]) (h_q := h) (cl_q := 0) (sl_q := 0) rfl ?_
  refine fw_call 152 2 0 [.ref 66, fI p] [] rfl rfl rfl (Nat.le_of_ble_eq_true rfl) rfl rfl (fw_rec hl rfl h66 rfl (Nat.le_of_ble_eq_true rfl)) (cr_list (p := p) (f := fun j => ((f 0 :: 0 :: 0 :: 0 :: 0 :: 0 :: 0 :: f 7 :: sd :: 0 :: f 10 :: f 11 :: f 12 :: f 13 :: f 14 :: f 15 :: f 16 :: f 17 :: 0 :: 0 :: 0 :: 0 :: 0 :: 0 :: f 24 :: 0 :: 0 :: 0 :: 0 :: 0 :: 0 :: 0 :: f 32 :: f 33 :: 0 :: 0 :: f 36 :: 0 :: 0 :: 0 :: 0 :: 0 :: 0 :: []) : List Int).getD j 0) (s := s) (cn := cn) (go := go) (ch := ch) (gt := gt) (gd := gd) (by omega) (by omega) (by omega) q3 q4 q5 h66 h67 n67 h68 n68 h69 n69 h77 n77 h78 n78 hl) ?_
  rintro _ h_24 ⟨gt'_24, gd'_24, rfl, e_24_66, e_24_77, m_24_77, e_24_78, m_24_78, p_24_0, F_24⟩
  have k_24 : cL h_24 := F_24.1.trans hl
  have fr_24 := hfr_cb (hfr_refl [66, 77, 78] h) F_24 rfl
  have g_24_67 := (hfr_g F_24 67 rfl).trans h67
  have g_24_68 := (hfr_g F_24 68 rfl).trans h68
  have g_24_69 := (hfr_g F_24 69 rfl).trans h69
  have g_24_66 : cE h_24 66 (.inr (10, (fI (f 0) :: .ref 67 :: .ref 68 :: .ref 69 :: fI ((s : Nat) : Int) :: .ref 70 :: .ref 71 :: fI (f 7) :: fI sd :: .ref 72 :: fI (f 10) :: fI (f 11) :: fI (f 12) :: fJ (f 13) :: fI (f 14) :: fI (f 15) :: fI (f 16) :: fI (f 17) :: .ref 73 :: .ref 74 :: .ref 75 :: .ref 76 :: .ref 77 :: .ref 78 :: fI ((mx_w cn go ch s p).length : Int) :: .ref 79 :: .ref 80 :: .ref 81 :: .ref 82 :: .ref 83 :: .ref 84 :: .ref 85 :: fJ (f 32) :: fJ (f 33) :: .ref 86 :: .ref 87 :: fI (f 36) :: .ref 88 :: .ref 89 :: .ref 90 :: .ref 91 :: .ref 92 :: .ref 93 :: []))) := e_24_66
  have g_24_77 : cE h_24 77 (.inl (.int, fA gt'_24)) := e_24_77
  have g_24_78 : cE h_24 78 (.inl (.int, fA gd'_24)) := e_24_78
  refine ik_Wk 0 (pc_q := 5) (loc_q := [some (.ref 66), some (fI p), none, none]) (st_q := []) (h_q := h_24) (cl_q := 0) (sl_q := 0) rfl ?_
  refine ik_Wk 1 (pc_q := 6) (loc_q := [some (.ref 66), some (fI p), none, none]) (st_q := [.ref 66]) (h_q := h_24) (cl_q := 0) (sl_q := 0) rfl ?_
  refine fw_bi rfl (by decide +kernel) ?_
  refine fw_call 193 2 0 [.ref 66, fI 100] [] rfl rfl rfl (Nat.le_of_ble_eq_true rfl) rfl rfl (fw_rec k_24 rfl g_24_66 rfl (Nat.le_of_ble_eq_true rfl)) (cr_draw (f := fun j => ((((f 0)) :: 0 :: 0 :: 0 :: (((s : Nat) : Int)) :: 0 :: 0 :: ((f 7)) :: 0 :: 0 :: ((f 10)) :: ((f 11)) :: ((f 12)) :: ((f 13)) :: ((f 14)) :: ((f 15)) :: ((f 16)) :: ((f 17)) :: 0 :: 0 :: 0 :: 0 :: 0 :: 0 :: (((mx_w cn go ch s p).length : Int)) :: 0 :: 0 :: 0 :: 0 :: 0 :: 0 :: 0 :: ((f 32)) :: ((f 33)) :: 0 :: 0 :: ((f 36)) :: 0 :: 0 :: 0 :: 0 :: 0 :: 0 :: []) : List Int).getD j 0) (sd := sd) (by omega) g_24_66 k_24) ?_
  rintro _ h_25 ⟨rfl, e_25_66, F_25⟩
  have k_25 : cL h_25 := F_25.1.trans k_24
  have fr_25 := hfr_cb fr_24 F_25 rfl
  have g_25_67 := (hfr_g F_25 67 rfl).trans g_24_67
  have g_25_68 := (hfr_g F_25 68 rfl).trans g_24_68
  have g_25_69 := (hfr_g F_25 69 rfl).trans g_24_69
  have g_25_77 := (hfr_g F_25 77 rfl).trans g_24_77
  have g_25_78 := (hfr_g F_25 78 rfl).trans g_24_78
  have g_25_66 : cE h_25 66 (.inr (10, (fI (f 0) :: .ref 67 :: .ref 68 :: .ref 69 :: fI ((s : Nat) : Int) :: .ref 70 :: .ref 71 :: fI (f 7) :: fI (mx_d sd) :: .ref 72 :: fI (f 10) :: fI (f 11) :: fI (f 12) :: fJ (f 13) :: fI (f 14) :: fI (f 15) :: fI (f 16) :: fI (f 17) :: .ref 73 :: .ref 74 :: .ref 75 :: .ref 76 :: .ref 77 :: .ref 78 :: fI ((mx_w cn go ch s p).length : Int) :: .ref 79 :: .ref 80 :: .ref 81 :: .ref 82 :: .ref 83 :: .ref 84 :: .ref 85 :: fJ (f 32) :: fJ (f 33) :: .ref 86 :: .ref 87 :: fI (f 36) :: .ref 88 :: .ref 89 :: .ref 90 :: .ref 91 :: .ref 92 :: .ref 93 :: []))) := e_25_66
  refine ik_Wk 0 (pc_q := 11) (loc_q := [some (.ref 66), some (fI p), none, none]) (st_q := [fI (mx_v sd)]) (h_q := h_25) (cl_q := 0) (sl_q := 0) rfl ?_
  refine ik_Wk 3 (pc_q := 14) (loc_q := [some (.ref 66), some (fI p), some (fI (mx_v sd)), some (fI 0)]) (st_q := []) (h_q := h_25) (cl_q := 0) (sl_q := 0) rfl ?_
  have o1 := q7.1
  have o2 := q7.2.1
  have hj0 : 0 < (mx_w cn go ch s p).length := by
    rcases Nat.eq_zero_or_pos (mx_w cn go ch s p).length with q | q
    · have := mx_cs_e (L := (mx_w cn go ch s p)) (j := 0) (by omega); rw [List.drop_zero] at this; omega
    · exact q
  have hv := mx_v_b sd
  exact cr_goneL (p := p) (f := f) (s := s) (cn := cn) (go := go) (ch := ch) (gt := gt) (gd := gd) (pl := pl) (sd := sd) q0 q1 q2 q3 q4 q5 q6 q7 p_24_0 ((mx_w cn go ch s p).length + 1) 0 (mx_v sd) 0 h_25 g_25_66 g_25_77 m_24_77 g_25_78 m_24_78 k_25 fr_25 hj0 rfl (by rw [List.drop_zero, o2]; exact hv) (by omega) (by rw [List.drop_zero]) (by omega)

end

/-! 38w.side -/
noncomputable section
/-! a minute of a side; n minutes; suits by draws (written by wip/fx/u3.py) -/
theorem cr_side0 {h : List ik_E} {pl : Int} {mi : Int} {sd : Int} {ka : Int} {pa : Int} {fa : Int} {kb : Int} {pb : Int} {fb : Int} {xa : Int} {xb : Int} {s : Nat} {cn : List Int} {go : List Int} {ch : List Int} {f : Nat → Int} {gt : List Int} {gd : List Int} (q0 : 2 ≤ pl ∧ pl ≤ 12) (q1 : s < 4096) (q2 : 0 ≤ sd ∧ sd < 2147483648) (q3 : 0 ≤ mi ∧ mi < 2000000000) (q4 : ∀ x : Int, (0 : Int) ≤ x → x < pl - 1 → 1 ≤ cn.getD x.toNat 0 ∧ ∀ j : Int, 4 * x ≤ j → j < 4 * x + cn.getD x.toNat 0 → 0 ≤ ch.getD j.toNat 0 ∧ ch.getD j.toNat 0 ≤ 100) (q5 : ∀ x : Int, (0 : Int) ≤ x → x < pl → 0 ≤ cn.getD x.toNat 0 ∧ cn.getD x.toNat 0 ≤ 4) (q6 : ∀ x : Int, (0 : Int) ≤ x → x < pl - 1 → mx_ok pl (mx_w cn go ch s x)) (q7 : (0 : Int) ≤ ka ∧ ka ≤ (2 : Int)) (q8 : (0 : Int) ≤ fa ∧ fa ≤ (30 : Int)) (q9 : fa < mi → (0 : Int) ≤ xa ∧ xa < pl) (h66 : cE h 66 (.inr (10, (fI pl :: .ref 67 :: .ref 68 :: .ref 69 :: fI ((s : Nat) : Int) :: .ref 70 :: .ref 71 :: fI mi :: fI sd :: .ref 72 :: fI (f 10) :: fI (f 11) :: fI (f 12) :: fJ (f 13) :: fI (f 14) :: fI (f 15) :: fI (f 16) :: fI (f 17) :: .ref 73 :: .ref 74 :: .ref 75 :: .ref 76 :: .ref 77 :: .ref 78 :: fI (f 24) :: .ref 79 :: .ref 80 :: .ref 81 :: .ref 82 :: .ref 83 :: .ref 84 :: .ref 85 :: fJ (f 32) :: fJ (f 33) :: .ref 86 :: .ref 87 :: fI (f 36) :: .ref 88 :: .ref 89 :: .ref 90 :: .ref 91 :: .ref 92 :: .ref 93 :: [])))) (h67 : cE h 67 (.inl (.int, fA cn))) (n67 : cn.length = (12 : Nat)) (h68 : cE h 68 (.inl (.int, fA go))) (n68 : go.length = (48 : Nat)) (h69 : cE h 69 (.inl (.int, fA ch))) (n69 : ch.length = (48 : Nat)) (h70 : cE h 70 (.inl (.int, fA [ka, pa, fa, kb, pb, fb]))) (h71 : cE h 71 (.inl (.int, fA [xa, xb]))) (h77 : cE h 77 (.inl (.int, fA gt))) (n77 : gt.length = (5 : Nat)) (h78 : cE h 78 (.inl (.int, fA gd))) (n78 : gd.length = (5 : Nat)) (hl : h.length = (94 : Nat)) : ik_F 196 [.ref 66, fI 0] h (fun rv h_q => ∃ (w' : Int) (gt' : List Int) (gd' : List Int), rv = [] ∧ cE h_q 66 (.inr (10, (fI pl :: .ref 67 :: .ref 68 :: .ref 69 :: fI ((s : Nat) : Int) :: .ref 70 :: .ref 71 :: fI mi :: fI ((mx_sd (fun x => mx_w cn go ch s x) (pl - 1) ka pa fa mi xa sd).2) :: .ref 72 :: fI (f 10) :: fI (f 11) :: fI (f 12) :: fJ (f 13) :: fI (f 14) :: fI (f 15) :: fI (f 16) :: fI (f 17) :: .ref 73 :: .ref 74 :: .ref 75 :: .ref 76 :: .ref 77 :: .ref 78 :: fI w' :: .ref 79 :: .ref 80 :: .ref 81 :: .ref 82 :: .ref 83 :: .ref 84 :: .ref 85 :: fJ (f 32) :: fJ (f 33) :: .ref 86 :: .ref 87 :: fI (f 36) :: .ref 88 :: .ref 89 :: .ref 90 :: .ref 91 :: .ref 92 :: .ref 93 :: []))) ∧ cE h_q 71 (.inl (.int, fA [(mx_sd (fun x => mx_w cn go ch s x) (pl - 1) ka pa fa mi xa sd).1, xb])) ∧ cE h_q 77 (.inl (.int, fA gt')) ∧ gt'.length = (5 : Nat) ∧ cE h_q 78 (.inl (.int, fA gd')) ∧ gd'.length = (5 : Nat) ∧ hfr [66, 71, 77, 78] h h_q) := by
  refine ik_Wk 1 (pc_q := 1) (loc_q := [some (.ref 66), some (fI 0), none, none, none]) (st_q := [.ref 66]) (h_q := h) (cl_q := 0) (sl_q := 0) rfl ?_
  refine fw_gf rfl rfl h66 rfl ?_
  refine ik_Wk 2 (pc_q := 6) (loc_q := [some (.ref 66), some (fI 0), none, none, none]) (st_q := [fI 0, fI 3, .ref 70]) (h_q := h) (cl_q := 0) (sl_q := 0) rfl ?_
  refine fw_mul rfl ?_
  refine ik_Wk 1 (pc_q := 8) (loc_q := [some (.ref 66), some (fI 0), none, none, none]) (st_q := [fI 2, fI 0, .ref 70]) (h_q := h) (cl_q := 0) (sl_q := 0) rfl ?_
  refine fw_add rfl ?_
  refine fw_ial (z := 2) rfl h70 (by decide +kernel) (Nat.le_of_ble_eq_true rfl) (by decide +kernel) ?_
  refine ik_Wk 0 (pc_q := 10) (loc_q := [some (.ref 66), some (fI 0), none, none, none]) (st_q := [fI fa]) (h_q := h) (cl_q := 0) (sl_q := 0) rfl ?_
  refine ik_Wk 2 (pc_q := 12) (loc_q := [some (.ref 66), some (fI 0), some (fI fa), none, none]) (st_q := [.ref 66]) (h_q := h) (cl_q := 0) (sl_q := 0) rfl ?_
  refine fw_gf rfl rfl h66 rfl ?_
  refine ik_Wk 1 (pc_q := 16) (loc_q := [some (.ref 66), some (fI 0), some (fI fa), none, none]) (st_q := [fI fa, fI mi]) (h_q := h) (cl_q := 0) (sl_q := 0) rfl ?_
  refine fw_ic_ne rfl rfl (by omega) (by omega) (by omega) (by omega) (fun hc1 => ?_) (fun hc1 => ?_)
  · refine ik_Wk 1 (pc_q := 20) (loc_q := [some (.ref 66), some (fI 0), some (fI fa), none, none]) (st_q := [.ref 66]) (h_q := h) (cl_q := 0) (sl_q := 0) rfl ?_
    refine fw_gf rfl rfl h66 rfl ?_
    refine ik_Wk 2 (pc_q := 25) (loc_q := [some (.ref 66), some (fI 0), some (fI fa), none, none]) (st_q := [.ref 66, fI 0, .ref 71]) (h_q := h) (cl_q := 0) (sl_q := 0) rfl ?_
    refine fw_gf rfl rfl h66 rfl ?_
    refine ik_Wk 2 (pc_q := 30) (loc_q := [some (.ref 66), some (fI 0), some (fI fa), none, none]) (st_q := [fI 0, fI 3, .ref 70, fI 0, .ref 71]) (h_q := h) (cl_q := 0) (sl_q := 0) rfl ?_
    refine fw_mul rfl ?_
    refine ik_Wk 1 (pc_q := 32) (loc_q := [some (.ref 66), some (fI 0), some (fI fa), none, none]) (st_q := [fI 1, fI 0, .ref 70, fI 0, .ref 71]) (h_q := h) (cl_q := 0) (sl_q := 0) rfl ?_
    refine fw_add rfl ?_
    refine fw_ial (z := 1) rfl h70 (by decide +kernel) (Nat.le_of_ble_eq_true rfl) (by decide +kernel) ?_
    refine ik_Wk 0 (pc_q := 34) (loc_q := [some (.ref 66), some (fI 0), some (fI fa), none, none]) (st_q := [fI pa, fI 0, .ref 71]) (h_q := h) (cl_q := 0) (sl_q := 0) rfl ?_
    refine fx_ias (z := 0) rfl h71 (by decide +kernel) (Nat.le_of_ble_eq_true rfl) (by decide +kernel) ?_
    intro h_26 e_26 f_26 l_26
    have k_26 : cL h_26 := l_26.trans hl
    have fr_26 := hfr_wb (hfr_refl [66, 71, 77, 78] h) f_26 l_26 rfl
    clear l_26
    have g_26_66 := (f_26 66 (Nat.ne_of_beq_eq_false rfl)).trans h66
    have g_26_67 := (f_26 67 (Nat.ne_of_beq_eq_false rfl)).trans h67
    have g_26_68 := (f_26 68 (Nat.ne_of_beq_eq_false rfl)).trans h68
    have g_26_69 := (f_26 69 (Nat.ne_of_beq_eq_false rfl)).trans h69
    have g_26_70 := (f_26 70 (Nat.ne_of_beq_eq_false rfl)).trans h70
    have g_26_77 := (f_26 77 (Nat.ne_of_beq_eq_false rfl)).trans h77
    have g_26_78 := (f_26 78 (Nat.ne_of_beq_eq_false rfl)).trans h78
    have g_26_71 : cE h_26 71 (.inl (.int, fA [pa, xb])) := e_26
    refine ik_Wk 1 (pc_q := 138) (loc_q := [some (.ref 66), some (fI 0), some (fI fa), none, none]) (st_q := []) (h_q := h_26) (cl_q := 0) (sl_q := 0) rfl ?_
    have ez : (mx_sd (fun x => mx_w cn go ch s x) (pl - 1) ka pa fa mi xa sd) = (pa, sd) := by
      unfold mx_sd
      rw [if_pos (by omega)]
    rw [ez]
    exact ik_Wret rfl rfl ⟨_, _, rfl, rfl, rfl, rfl, ⟨(f 24), gt, gd, rfl, g_26_66, g_26_71, g_26_77, n77, g_26_78, n78, fr_26⟩⟩
  · refine ik_Wk 1 (pc_q := 39) (loc_q := [some (.ref 66), some (fI 0), some (fI fa), none, none]) (st_q := [.ref 66]) (h_q := h) (cl_q := 0) (sl_q := 0) rfl ?_
    refine fw_gf rfl rfl h66 rfl ?_
    refine ik_Wk 1 (pc_q := 43) (loc_q := [some (.ref 66), some (fI 0), some (fI fa), none, none]) (st_q := [fI fa, fI mi]) (h_q := h) (cl_q := 0) (sl_q := 0) rfl ?_
    refine fw_ic_le rfl rfl (by omega) (by omega) (by omega) (by omega) (fun hc2 => ?_) (fun hc2 => ?_)
    · have ez : (mx_sd (fun x => mx_w cn go ch s x) (pl - 1) ka pa fa mi xa sd) = (xa, sd) := by
        unfold mx_sd
        rw [if_neg (by omega), if_neg (by omega)]
      rw [ez]
      exact ik_Wret rfl rfl ⟨_, _, rfl, rfl, rfl, rfl, ⟨(f 24), gt, gd, rfl, h66, h71, h77, n77, h78, n78, (hfr_refl [66, 71, 77, 78] h)⟩⟩
    · refine ik_Wk 1 (pc_q := 47) (loc_q := [some (.ref 66), some (fI 0), some (fI fa), none, none]) (st_q := [.ref 66]) (h_q := h) (cl_q := 0) (sl_q := 0) rfl ?_
      refine fw_gf rfl rfl h66 rfl ?_
      refine ik_Wk 2 (pc_q := 52) (loc_q := [some (.ref 66), some (fI 0), some (fI fa), none, none]) (st_q := [fI 0, fI 3, .ref 70]) (h_q := h) (cl_q := 0) (sl_q := 0) rfl ?_
      refine fw_mul rfl ?_
      refine fw_ial (z := 0) rfl h70 (by decide +kernel) (Nat.le_of_ble_eq_true rfl) (by decide +kernel) ?_
      refine ik_Wk 0 (pc_q := 54) (loc_q := [some (.ref 66), some (fI 0), some (fI fa), none, none]) (st_q := [fI ka]) (h_q := h) (cl_q := 0) (sl_q := 0) rfl ?_
      refine fw_if_ne rfl rfl (by omega) (by omega) (fun hc3 => ?_) (fun hc3 => ?_)
      · refine ik_Wk 7 (pc_q := 100) (loc_q := [some (.ref 66), some (fI 0), some (fI fa), some (fI 1), some (fI 0)]) (st_q := [fI 1, fI 0]) (h_q := h) (cl_q := 0) (sl_q := 0) rfl ?_
        refine fw_ic_ge rfl rfl (by decide +kernel) (by decide +kernel) (by decide +kernel) (by decide +kernel) (fun hc4 => absurd hc4 (by decide +kernel)) (fun hc4 => ?_)
        refine ik_Wk 1 (pc_q := 104) (loc_q := [some (.ref 66), some (fI 0), some (fI fa), some (fI 1), some (fI 0)]) (st_q := [.ref 66]) (h_q := h) (cl_q := 0) (sl_q := 0) rfl ?_
        refine fw_gf rfl rfl h66 rfl ?_
        refine ik_Wk 1 (pc_q := 108) (loc_q := [some (.ref 66), some (fI 0), some (fI fa), some (fI 1), some (fI 0)]) (st_q := [fI 0, .ref 71]) (h_q := h) (cl_q := 0) (sl_q := 0) rfl ?_
        refine fw_ial (z := 0) rfl h71 (by decide +kernel) (Nat.le_of_ble_eq_true rfl) (by decide +kernel) ?_
        refine ik_Wk 0 (pc_q := 109) (loc_q := [some (.ref 66), some (fI 0), some (fI fa), some (fI 1), some (fI 0)]) (st_q := [fI xa]) (h_q := h) (cl_q := 0) (sl_q := 0) rfl ?_
        refine ik_Wk 1 (pc_q := 110) (loc_q := [some (.ref 66), some (fI 0), some (fI fa), some (fI 1), some (fI 0)]) (st_q := [.ref 66, fI xa]) (h_q := h) (cl_q := 0) (sl_q := 0) rfl ?_
        refine ik_Wc 130 1 0 [.ref 66] [fI xa] rfl rfl rfl (by decide +kernel) rfl rfl (fw_rec hl rfl h66 rfl (Nat.le_of_ble_eq_true rfl)) ?_
        refine ik_Wk 0 (pc_q := 0) (loc_q := [some (.ref 66)]) (st_q := []) (h_q := h) (cl_q := 0) (sl_q := 0) rfl ?_
        refine ik_Wk 1 (pc_q := 1) (loc_q := [some (.ref 66)]) (st_q := [.ref 66]) (h_q := h) (cl_q := 0) (sl_q := 0) rfl ?_
        refine fw_gf rfl rfl h66 rfl ?_
        refine ik_Wk 1 (pc_q := 5) (loc_q := [some (.ref 66)]) (st_q := [fI 1, fI pl]) (h_q := h) (cl_q := 0) (sl_q := 0) rfl ?_
        refine fw_sub rfl ?_
        refine ik_Wret rfl rfl ⟨_, _, rfl, rfl, ?_⟩
        refine ik_Wk 0 (pc_q := 113) (loc_q := [some (.ref 66), some (fI 0), some (fI fa), some (fI 1), some (fI 0)]) (st_q := [fI (pl - 1), fI xa]) (h_q := h) (cl_q := 0) (sl_q := 0) rfl ?_
        refine fw_ic_eq rfl rfl (by omega) (by omega) (by omega) (by omega) (fun hc5 => ?_) (fun hc5 => ?_)
        · have et : mx_tm ka (mi - fa) = 1 := by unfold mx_tm; (repeat' split) <;> omega
          have ez : (mx_sd (fun x => mx_w cn go ch s x) (pl - 1) ka pa fa mi xa sd) = (xa, sd) := by
            unfold mx_sd
            rw [if_neg (by omega), if_pos (by omega)]
            rw [et]
            exact mx_go_b (by omega)
          rw [ez]
          exact ik_Wret rfl rfl ⟨_, _, rfl, rfl, rfl, rfl, ⟨(f 24), gt, gd, rfl, h66, h71, h77, n77, h78, n78, (hfr_refl [66, 71, 77, 78] h)⟩⟩
        · refine ik_Wk 1 (pc_q := 117) (loc_q := [some (.ref 66), some (fI 0), some (fI fa), some (fI 1), some (fI 0)]) (st_q := [.ref 66]) (h_q := h) (cl_q := 0) (sl_q := 0) rfl ?_
          refine fw_gf rfl rfl h66 rfl ?_
          refine ik_Wk 3 (pc_q := 123) (loc_q := [some (.ref 66), some (fI 0), some (fI fa), some (fI 1), some (fI 0)]) (st_q := [.ref 66, .ref 66, fI 0, .ref 71]) (h_q := h) (cl_q := 0) (sl_q := 0) rfl ?_
          refine fw_gf rfl rfl h66 rfl ?_
          refine ik_Wk 1 (pc_q := 127) (loc_q := [some (.ref 66), some (fI 0), some (fI fa), some (fI 1), some (fI 0)]) (st_q := [fI 0, .ref 71, .ref 66, fI 0, .ref 71]) (h_q := h) (cl_q := 0) (sl_q := 0) rfl ?_
          refine fw_ial (z := 0) rfl h71 (by decide +kernel) (Nat.le_of_ble_eq_true rfl) (by decide +kernel) ?_
          refine ik_Wk 0 (pc_q := 128) (loc_q := [some (.ref 66), some (fI 0), some (fI fa), some (fI 1), some (fI 0)]) (st_q := [fI xa, .ref 66, fI 0, .ref 71]) (h_q := h) (cl_q := 0) (sl_q := 0) rfl ?_
          refine fw_call 195 2 0 [.ref 66, fI xa] [fI 0, .ref 71] rfl rfl rfl (Nat.le_of_ble_eq_true rfl) rfl rfl (fw_rec hl rfl h66 rfl (Nat.le_of_ble_eq_true rfl)) (cr_gone (p := xa) (f := fun j => ((pl :: 0 :: 0 :: 0 :: 0 :: 0 :: 0 :: mi :: 0 :: 0 :: f 10 :: f 11 :: f 12 :: f 13 :: f 14 :: f 15 :: f 16 :: f 17 :: 0 :: 0 :: 0 :: 0 :: 0 :: 0 :: f 24 :: 0 :: 0 :: 0 :: 0 :: 0 :: 0 :: 0 :: f 32 :: f 33 :: 0 :: 0 :: f 36 :: 0 :: 0 :: 0 :: 0 :: 0 :: 0 :: []) : List Int).getD j 0) (s := s) (cn := cn) (go := go) (ch := ch) (gt := gt) (gd := gd) (sd := sd) (by omega) (by omega) (by omega) (q5 _ (by omega) (by omega)) (q4 _ (by omega) (by omega)).2 (q4 _ (by omega) (by omega)).1 (by omega) (q6 _ (by omega) (by omega)) h66 h67 n67 h68 n68 h69 n69 h77 n77 h78 n78 hl) ?_
          rintro _ h_27 ⟨gt'_27, gd'_27, rfl, e_27_66, e_27_77, m_27_77, e_27_78, m_27_78, F_27⟩
          have k_27 : cL h_27 := F_27.1.trans hl
          have fr_27 := hfr_cb (hfr_refl [66, 71, 77, 78] h) F_27 rfl
          have g_27_67 := (hfr_g F_27 67 rfl).trans h67
          have g_27_68 := (hfr_g F_27 68 rfl).trans h68
          have g_27_69 := (hfr_g F_27 69 rfl).trans h69
          have g_27_70 := (hfr_g F_27 70 rfl).trans h70
          have g_27_71 := (hfr_g F_27 71 rfl).trans h71
          have g_27_66 : cE h_27 66 (.inr (10, (fI pl :: .ref 67 :: .ref 68 :: .ref 69 :: fI ((s : Nat) : Int) :: .ref 70 :: .ref 71 :: fI mi :: fI (mx_d sd) :: .ref 72 :: fI (f 10) :: fI (f 11) :: fI (f 12) :: fJ (f 13) :: fI (f 14) :: fI (f 15) :: fI (f 16) :: fI (f 17) :: .ref 73 :: .ref 74 :: .ref 75 :: .ref 76 :: .ref 77 :: .ref 78 :: fI ((mx_w cn go ch s xa).length : Int) :: .ref 79 :: .ref 80 :: .ref 81 :: .ref 82 :: .ref 83 :: .ref 84 :: .ref 85 :: fJ (f 32) :: fJ (f 33) :: .ref 86 :: .ref 87 :: fI (f 36) :: .ref 88 :: .ref 89 :: .ref 90 :: .ref 91 :: .ref 92 :: .ref 93 :: []))) := e_27_66
          have g_27_77 : cE h_27 77 (.inl (.int, fA gt'_27)) := e_27_77
          have g_27_78 : cE h_27 78 (.inl (.int, fA gd'_27)) := e_27_78
          refine ik_Wk 0 (pc_q := 131) (loc_q := [some (.ref 66), some (fI 0), some (fI fa), some (fI 1), some (fI 0)]) (st_q := [fI (mx_pk (mx_w cn go ch s xa) (mx_v sd) xa), fI 0, .ref 71]) (h_q := h_27) (cl_q := 0) (sl_q := 0) rfl ?_
          have hp27 := mx_pk_in (f := xa) (q6 xa (by omega) (by omega)) (mx_v_b sd).1 (mx_v_b sd).2
          have hz27 := mx_d_b sd
          refine fx_ias (z := 0) rfl g_27_71 (by decide +kernel) (Nat.le_of_ble_eq_true rfl) (by decide +kernel) ?_
          intro h_28 e_28 f_28 l_28
          have k_28 : cL h_28 := l_28.trans k_27
          have fr_28 := hfr_wb fr_27 f_28 l_28 rfl
          clear l_28
          have g_28_66 := (f_28 66 (Nat.ne_of_beq_eq_false rfl)).trans g_27_66
          have g_28_67 := (f_28 67 (Nat.ne_of_beq_eq_false rfl)).trans g_27_67
          have g_28_68 := (f_28 68 (Nat.ne_of_beq_eq_false rfl)).trans g_27_68
          have g_28_69 := (f_28 69 (Nat.ne_of_beq_eq_false rfl)).trans g_27_69
          have g_28_70 := (f_28 70 (Nat.ne_of_beq_eq_false rfl)).trans g_27_70
          have g_28_77 := (f_28 77 (Nat.ne_of_beq_eq_false rfl)).trans g_27_77
          have g_28_78 := (f_28 78 (Nat.ne_of_beq_eq_false rfl)).trans g_27_78
          have g_28_71 : cE h_28 71 (.inl (.int, fA [mx_pk (mx_w cn go ch s xa) (mx_v sd) xa, xb])) := e_28
          refine fw_inc (a := 0) (loc_q := [some (.ref 66), some (fI 0), some (fI fa), some (fI 1), some (fI 1)]) rfl rfl (Nat.le_of_ble_eq_true rfl) rfl ?_
          refine ik_Wk 3 (pc_q := 100) (loc_q := [some (.ref 66), some (fI 0), some (fI fa), some (fI 1), some (fI 1)]) (st_q := [fI 1, fI 1]) (h_q := h_28) (cl_q := 0) (sl_q := 0) rfl ?_
          refine fw_ic_ge rfl rfl (by decide +kernel) (by decide +kernel) (by decide +kernel) (by decide +kernel) (fun hc6 => ?_) (fun hc6 => absurd hc6 (by decide +kernel))
          have et : mx_tm ka (mi - fa) = 1 := by unfold mx_tm; (repeat' split) <;> omega
          have ez : (mx_sd (fun x => mx_w cn go ch s x) (pl - 1) ka pa fa mi xa sd) = (mx_pk (mx_w cn go ch s xa) (mx_v sd) xa, mx_d sd) := by
            unfold mx_sd
            rw [if_neg (by omega), if_pos (by omega)]
            rw [et]
            rw [mx_go_n (by omega)]
            rfl
          rw [ez]
          exact ik_Wret rfl rfl ⟨_, _, rfl, rfl, rfl, rfl, ⟨((mx_w cn go ch s xa).length : Int), gt'_27, gd'_27, rfl, g_28_66, g_28_71, g_28_77, m_27_77, g_28_78, m_27_78, fr_28⟩⟩
      · refine ik_Wk 1 (pc_q := 62) (loc_q := [some (.ref 66), some (fI 0), some (fI fa), none, none]) (st_q := [.ref 66]) (h_q := h) (cl_q := 0) (sl_q := 0) rfl ?_
        refine fw_gf rfl rfl h66 rfl ?_
        refine ik_Wk 2 (pc_q := 67) (loc_q := [some (.ref 66), some (fI 0), some (fI fa), none, none]) (st_q := [fI 0, fI 3, .ref 70]) (h_q := h) (cl_q := 0) (sl_q := 0) rfl ?_
        refine fw_mul rfl ?_
        refine fw_ial (z := 0) rfl h70 (by decide +kernel) (Nat.le_of_ble_eq_true rfl) (by decide +kernel) ?_
        refine ik_Wk 0 (pc_q := 69) (loc_q := [some (.ref 66), some (fI 0), some (fI fa), none, none]) (st_q := [fI ka]) (h_q := h) (cl_q := 0) (sl_q := 0) rfl ?_
        refine ik_Wk 1 (pc_q := 70) (loc_q := [some (.ref 66), some (fI 0), some (fI fa), none, none]) (st_q := [fI 1, fI ka]) (h_q := h) (cl_q := 0) (sl_q := 0) rfl ?_
        refine fw_ic_ne rfl rfl (by omega) (by omega) (by omega) (by omega) (fun hc7 => ?_) (fun hc7 => ?_)
        · refine ik_Wk 7 (pc_q := 100) (loc_q := [some (.ref 66), some (fI 0), some (fI fa), some (fI 2), some (fI 0)]) (st_q := [fI 2, fI 0]) (h_q := h) (cl_q := 0) (sl_q := 0) rfl ?_
          refine fw_ic_ge rfl rfl (by decide +kernel) (by decide +kernel) (by decide +kernel) (by decide +kernel) (fun hc8 => absurd hc8 (by decide +kernel)) (fun hc8 => ?_)
          refine ik_Wk 1 (pc_q := 104) (loc_q := [some (.ref 66), some (fI 0), some (fI fa), some (fI 2), some (fI 0)]) (st_q := [.ref 66]) (h_q := h) (cl_q := 0) (sl_q := 0) rfl ?_
          refine fw_gf rfl rfl h66 rfl ?_
          refine ik_Wk 1 (pc_q := 108) (loc_q := [some (.ref 66), some (fI 0), some (fI fa), some (fI 2), some (fI 0)]) (st_q := [fI 0, .ref 71]) (h_q := h) (cl_q := 0) (sl_q := 0) rfl ?_
          refine fw_ial (z := 0) rfl h71 (by decide +kernel) (Nat.le_of_ble_eq_true rfl) (by decide +kernel) ?_
          refine ik_Wk 0 (pc_q := 109) (loc_q := [some (.ref 66), some (fI 0), some (fI fa), some (fI 2), some (fI 0)]) (st_q := [fI xa]) (h_q := h) (cl_q := 0) (sl_q := 0) rfl ?_
          refine ik_Wk 1 (pc_q := 110) (loc_q := [some (.ref 66), some (fI 0), some (fI fa), some (fI 2), some (fI 0)]) (st_q := [.ref 66, fI xa]) (h_q := h) (cl_q := 0) (sl_q := 0) rfl ?_
          refine ik_Wc 130 1 0 [.ref 66] [fI xa] rfl rfl rfl (by decide +kernel) rfl rfl (fw_rec hl rfl h66 rfl (Nat.le_of_ble_eq_true rfl)) ?_
          refine ik_Wk 0 (pc_q := 0) (loc_q := [some (.ref 66)]) (st_q := []) (h_q := h) (cl_q := 0) (sl_q := 0) rfl ?_
          refine ik_Wk 1 (pc_q := 1) (loc_q := [some (.ref 66)]) (st_q := [.ref 66]) (h_q := h) (cl_q := 0) (sl_q := 0) rfl ?_
          refine fw_gf rfl rfl h66 rfl ?_
          refine ik_Wk 1 (pc_q := 5) (loc_q := [some (.ref 66)]) (st_q := [fI 1, fI pl]) (h_q := h) (cl_q := 0) (sl_q := 0) rfl ?_
          refine fw_sub rfl ?_
          refine ik_Wret rfl rfl ⟨_, _, rfl, rfl, ?_⟩
          refine ik_Wk 0 (pc_q := 113) (loc_q := [some (.ref 66), some (fI 0), some (fI fa), some (fI 2), some (fI 0)]) (st_q := [fI (pl - 1), fI xa]) (h_q := h) (cl_q := 0) (sl_q := 0) rfl ?_
          refine fw_ic_eq rfl rfl (by omega) (by omega) (by omega) (by omega) (fun hc9 => ?_) (fun hc9 => ?_)
          · have et : mx_tm ka (mi - fa) = 2 := by unfold mx_tm; (repeat' split) <;> omega
            have ez : (mx_sd (fun x => mx_w cn go ch s x) (pl - 1) ka pa fa mi xa sd) = (xa, sd) := by
              unfold mx_sd
              rw [if_neg (by omega), if_pos (by omega)]
              rw [et]
              exact mx_go_b (by omega)
            rw [ez]
            exact ik_Wret rfl rfl ⟨_, _, rfl, rfl, rfl, rfl, ⟨(f 24), gt, gd, rfl, h66, h71, h77, n77, h78, n78, (hfr_refl [66, 71, 77, 78] h)⟩⟩
          · refine ik_Wk 1 (pc_q := 117) (loc_q := [some (.ref 66), some (fI 0), some (fI fa), some (fI 2), some (fI 0)]) (st_q := [.ref 66]) (h_q := h) (cl_q := 0) (sl_q := 0) rfl ?_
            refine fw_gf rfl rfl h66 rfl ?_
            refine ik_Wk 3 (pc_q := 123) (loc_q := [some (.ref 66), some (fI 0), some (fI fa), some (fI 2), some (fI 0)]) (st_q := [.ref 66, .ref 66, fI 0, .ref 71]) (h_q := h) (cl_q := 0) (sl_q := 0) rfl ?_
            refine fw_gf rfl rfl h66 rfl ?_
            refine ik_Wk 1 (pc_q := 127) (loc_q := [some (.ref 66), some (fI 0), some (fI fa), some (fI 2), some (fI 0)]) (st_q := [fI 0, .ref 71, .ref 66, fI 0, .ref 71]) (h_q := h) (cl_q := 0) (sl_q := 0) rfl ?_
            refine fw_ial (z := 0) rfl h71 (by decide +kernel) (Nat.le_of_ble_eq_true rfl) (by decide +kernel) ?_
            refine ik_Wk 0 (pc_q := 128) (loc_q := [some (.ref 66), some (fI 0), some (fI fa), some (fI 2), some (fI 0)]) (st_q := [fI xa, .ref 66, fI 0, .ref 71]) (h_q := h) (cl_q := 0) (sl_q := 0) rfl ?_
            refine fw_call 195 2 0 [.ref 66, fI xa] [fI 0, .ref 71] rfl rfl rfl (Nat.le_of_ble_eq_true rfl) rfl rfl (fw_rec hl rfl h66 rfl (Nat.le_of_ble_eq_true rfl)) (cr_gone (p := xa) (f := fun j => ((pl :: 0 :: 0 :: 0 :: 0 :: 0 :: 0 :: mi :: 0 :: 0 :: f 10 :: f 11 :: f 12 :: f 13 :: f 14 :: f 15 :: f 16 :: f 17 :: 0 :: 0 :: 0 :: 0 :: 0 :: 0 :: f 24 :: 0 :: 0 :: 0 :: 0 :: 0 :: 0 :: 0 :: f 32 :: f 33 :: 0 :: 0 :: f 36 :: 0 :: 0 :: 0 :: 0 :: 0 :: 0 :: []) : List Int).getD j 0) (s := s) (cn := cn) (go := go) (ch := ch) (gt := gt) (gd := gd) (sd := sd) (by omega) (by omega) (by omega) (q5 _ (by omega) (by omega)) (q4 _ (by omega) (by omega)).2 (q4 _ (by omega) (by omega)).1 (by omega) (q6 _ (by omega) (by omega)) h66 h67 n67 h68 n68 h69 n69 h77 n77 h78 n78 hl) ?_
            rintro _ h_29 ⟨gt'_29, gd'_29, rfl, e_29_66, e_29_77, m_29_77, e_29_78, m_29_78, F_29⟩
            have k_29 : cL h_29 := F_29.1.trans hl
            have fr_29 := hfr_cb (hfr_refl [66, 71, 77, 78] h) F_29 rfl
            have g_29_67 := (hfr_g F_29 67 rfl).trans h67
            have g_29_68 := (hfr_g F_29 68 rfl).trans h68
            have g_29_69 := (hfr_g F_29 69 rfl).trans h69
            have g_29_70 := (hfr_g F_29 70 rfl).trans h70
            have g_29_71 := (hfr_g F_29 71 rfl).trans h71
            have g_29_66 : cE h_29 66 (.inr (10, (fI pl :: .ref 67 :: .ref 68 :: .ref 69 :: fI ((s : Nat) : Int) :: .ref 70 :: .ref 71 :: fI mi :: fI (mx_d sd) :: .ref 72 :: fI (f 10) :: fI (f 11) :: fI (f 12) :: fJ (f 13) :: fI (f 14) :: fI (f 15) :: fI (f 16) :: fI (f 17) :: .ref 73 :: .ref 74 :: .ref 75 :: .ref 76 :: .ref 77 :: .ref 78 :: fI ((mx_w cn go ch s xa).length : Int) :: .ref 79 :: .ref 80 :: .ref 81 :: .ref 82 :: .ref 83 :: .ref 84 :: .ref 85 :: fJ (f 32) :: fJ (f 33) :: .ref 86 :: .ref 87 :: fI (f 36) :: .ref 88 :: .ref 89 :: .ref 90 :: .ref 91 :: .ref 92 :: .ref 93 :: []))) := e_29_66
            have g_29_77 : cE h_29 77 (.inl (.int, fA gt'_29)) := e_29_77
            have g_29_78 : cE h_29 78 (.inl (.int, fA gd'_29)) := e_29_78
            refine ik_Wk 0 (pc_q := 131) (loc_q := [some (.ref 66), some (fI 0), some (fI fa), some (fI 2), some (fI 0)]) (st_q := [fI (mx_pk (mx_w cn go ch s xa) (mx_v sd) xa), fI 0, .ref 71]) (h_q := h_29) (cl_q := 0) (sl_q := 0) rfl ?_
            have hp29 := mx_pk_in (f := xa) (q6 xa (by omega) (by omega)) (mx_v_b sd).1 (mx_v_b sd).2
            have hz29 := mx_d_b sd
            refine fx_ias (z := 0) rfl g_29_71 (by decide +kernel) (Nat.le_of_ble_eq_true rfl) (by decide +kernel) ?_
            intro h_30 e_30 f_30 l_30
            have k_30 : cL h_30 := l_30.trans k_29
            have fr_30 := hfr_wb fr_29 f_30 l_30 rfl
            clear l_30
            have g_30_66 := (f_30 66 (Nat.ne_of_beq_eq_false rfl)).trans g_29_66
            have g_30_67 := (f_30 67 (Nat.ne_of_beq_eq_false rfl)).trans g_29_67
            have g_30_68 := (f_30 68 (Nat.ne_of_beq_eq_false rfl)).trans g_29_68
            have g_30_69 := (f_30 69 (Nat.ne_of_beq_eq_false rfl)).trans g_29_69
            have g_30_70 := (f_30 70 (Nat.ne_of_beq_eq_false rfl)).trans g_29_70
            have g_30_77 := (f_30 77 (Nat.ne_of_beq_eq_false rfl)).trans g_29_77
            have g_30_78 := (f_30 78 (Nat.ne_of_beq_eq_false rfl)).trans g_29_78
            have g_30_71 : cE h_30 71 (.inl (.int, fA [mx_pk (mx_w cn go ch s xa) (mx_v sd) xa, xb])) := e_30
            refine fw_inc (a := 0) (loc_q := [some (.ref 66), some (fI 0), some (fI fa), some (fI 2), some (fI 1)]) rfl rfl (Nat.le_of_ble_eq_true rfl) rfl ?_
            refine ik_Wk 3 (pc_q := 100) (loc_q := [some (.ref 66), some (fI 0), some (fI fa), some (fI 2), some (fI 1)]) (st_q := [fI 2, fI 1]) (h_q := h_30) (cl_q := 0) (sl_q := 0) rfl ?_
            refine fw_ic_ge rfl rfl (by decide +kernel) (by decide +kernel) (by decide +kernel) (by decide +kernel) (fun hc10 => absurd hc10 (by decide +kernel)) (fun hc10 => ?_)
            refine ik_Wk 1 (pc_q := 104) (loc_q := [some (.ref 66), some (fI 0), some (fI fa), some (fI 2), some (fI 1)]) (st_q := [.ref 66]) (h_q := h_30) (cl_q := 0) (sl_q := 0) rfl ?_
            refine fw_gf rfl rfl g_30_66 rfl ?_
            refine ik_Wk 1 (pc_q := 108) (loc_q := [some (.ref 66), some (fI 0), some (fI fa), some (fI 2), some (fI 1)]) (st_q := [fI 0, .ref 71]) (h_q := h_30) (cl_q := 0) (sl_q := 0) rfl ?_
            refine fw_ial (z := 0) rfl g_30_71 (by decide +kernel) (Nat.le_of_ble_eq_true rfl) (by decide +kernel) ?_
            refine ik_Wk 0 (pc_q := 109) (loc_q := [some (.ref 66), some (fI 0), some (fI fa), some (fI 2), some (fI 1)]) (st_q := [fI (mx_pk (mx_w cn go ch s xa) (mx_v sd) xa)]) (h_q := h_30) (cl_q := 0) (sl_q := 0) rfl ?_
            refine ik_Wk 1 (pc_q := 110) (loc_q := [some (.ref 66), some (fI 0), some (fI fa), some (fI 2), some (fI 1)]) (st_q := [.ref 66, fI (mx_pk (mx_w cn go ch s xa) (mx_v sd) xa)]) (h_q := h_30) (cl_q := 0) (sl_q := 0) rfl ?_
            refine ik_Wc 130 1 0 [.ref 66] [fI (mx_pk (mx_w cn go ch s xa) (mx_v sd) xa)] rfl rfl rfl (by decide +kernel) rfl rfl (fw_rec k_30 rfl g_30_66 rfl (Nat.le_of_ble_eq_true rfl)) ?_
            refine ik_Wk 0 (pc_q := 0) (loc_q := [some (.ref 66)]) (st_q := []) (h_q := h_30) (cl_q := 0) (sl_q := 0) rfl ?_
            refine ik_Wk 1 (pc_q := 1) (loc_q := [some (.ref 66)]) (st_q := [.ref 66]) (h_q := h_30) (cl_q := 0) (sl_q := 0) rfl ?_
            refine fw_gf rfl rfl g_30_66 rfl ?_
            refine ik_Wk 1 (pc_q := 5) (loc_q := [some (.ref 66)]) (st_q := [fI 1, fI pl]) (h_q := h_30) (cl_q := 0) (sl_q := 0) rfl ?_
            refine fw_sub rfl ?_
            refine ik_Wret rfl rfl ⟨_, _, rfl, rfl, ?_⟩
            refine ik_Wk 0 (pc_q := 113) (loc_q := [some (.ref 66), some (fI 0), some (fI fa), some (fI 2), some (fI 1)]) (st_q := [fI (pl - 1), fI (mx_pk (mx_w cn go ch s xa) (mx_v sd) xa)]) (h_q := h_30) (cl_q := 0) (sl_q := 0) rfl ?_
            refine fw_ic_eq rfl rfl (by omega) (by omega) (by omega) (by omega) (fun hc11 => ?_) (fun hc11 => ?_)
            · have et : mx_tm ka (mi - fa) = 2 := by unfold mx_tm; (repeat' split) <;> omega
              have ez : (mx_sd (fun x => mx_w cn go ch s x) (pl - 1) ka pa fa mi xa sd) = (mx_pk (mx_w cn go ch s xa) (mx_v sd) xa, mx_d sd) := by
                unfold mx_sd
                rw [if_neg (by omega), if_pos (by omega)]
                rw [et]
                rw [mx_go_n (by omega)]
                exact mx_go_b (by omega)
              rw [ez]
              exact ik_Wret rfl rfl ⟨_, _, rfl, rfl, rfl, rfl, ⟨((mx_w cn go ch s xa).length : Int), gt'_29, gd'_29, rfl, g_30_66, g_30_71, g_30_77, m_29_77, g_30_78, m_29_78, fr_30⟩⟩
            · refine ik_Wk 1 (pc_q := 117) (loc_q := [some (.ref 66), some (fI 0), some (fI fa), some (fI 2), some (fI 1)]) (st_q := [.ref 66]) (h_q := h_30) (cl_q := 0) (sl_q := 0) rfl ?_
              refine fw_gf rfl rfl g_30_66 rfl ?_
              refine ik_Wk 3 (pc_q := 123) (loc_q := [some (.ref 66), some (fI 0), some (fI fa), some (fI 2), some (fI 1)]) (st_q := [.ref 66, .ref 66, fI 0, .ref 71]) (h_q := h_30) (cl_q := 0) (sl_q := 0) rfl ?_
              refine fw_gf rfl rfl g_30_66 rfl ?_
              refine ik_Wk 1 (pc_q := 127) (loc_q := [some (.ref 66), some (fI 0), some (fI fa), some (fI 2), some (fI 1)]) (st_q := [fI 0, .ref 71, .ref 66, fI 0, .ref 71]) (h_q := h_30) (cl_q := 0) (sl_q := 0) rfl ?_
              refine fw_ial (z := 0) rfl g_30_71 (by decide +kernel) (Nat.le_of_ble_eq_true rfl) (by decide +kernel) ?_
              refine ik_Wk 0 (pc_q := 128) (loc_q := [some (.ref 66), some (fI 0), some (fI fa), some (fI 2), some (fI 1)]) (st_q := [fI (mx_pk (mx_w cn go ch s xa) (mx_v sd) xa), .ref 66, fI 0, .ref 71]) (h_q := h_30) (cl_q := 0) (sl_q := 0) rfl ?_
              refine fw_call 195 2 0 [.ref 66, fI (mx_pk (mx_w cn go ch s xa) (mx_v sd) xa)] [fI 0, .ref 71] rfl rfl rfl (Nat.le_of_ble_eq_true rfl) rfl rfl (fw_rec k_30 rfl g_30_66 rfl (Nat.le_of_ble_eq_true rfl)) (cr_gone (p := mx_pk (mx_w cn go ch s xa) (mx_v sd) xa) (f := fun j => ((pl :: 0 :: 0 :: 0 :: 0 :: 0 :: 0 :: mi :: 0 :: 0 :: ((f 10)) :: ((f 11)) :: ((f 12)) :: ((f 13)) :: ((f 14)) :: ((f 15)) :: ((f 16)) :: ((f 17)) :: 0 :: 0 :: 0 :: 0 :: 0 :: 0 :: (((mx_w cn go ch s xa).length : Int)) :: 0 :: 0 :: 0 :: 0 :: 0 :: 0 :: 0 :: ((f 32)) :: ((f 33)) :: 0 :: 0 :: ((f 36)) :: 0 :: 0 :: 0 :: 0 :: 0 :: 0 :: []) : List Int).getD j 0) (s := s) (cn := cn) (go := go) (ch := ch) (gt := gt'_29) (gd := gd'_29) (sd := mx_d sd) (by omega) (by omega) (by omega) (q5 _ (by omega) (by omega)) (q4 _ (by omega) (by omega)).2 (q4 _ (by omega) (by omega)).1 (by omega) (q6 _ (by omega) (by omega)) g_30_66 g_30_67 n67 g_30_68 n68 g_30_69 n69 g_30_77 m_29_77 g_30_78 m_29_78 k_30) ?_
              rintro _ h_31 ⟨gt'_31, gd'_31, rfl, e_31_66, e_31_77, m_31_77, e_31_78, m_31_78, F_31⟩
              have k_31 : cL h_31 := F_31.1.trans k_30
              have fr_31 := hfr_cb fr_30 F_31 rfl
              have g_31_67 := (hfr_g F_31 67 rfl).trans g_30_67
              have g_31_68 := (hfr_g F_31 68 rfl).trans g_30_68
              have g_31_69 := (hfr_g F_31 69 rfl).trans g_30_69
              have g_31_70 := (hfr_g F_31 70 rfl).trans g_30_70
              have g_31_71 := (hfr_g F_31 71 rfl).trans g_30_71
              have g_31_66 : cE h_31 66 (.inr (10, (fI pl :: .ref 67 :: .ref 68 :: .ref 69 :: fI ((s : Nat) : Int) :: .ref 70 :: .ref 71 :: fI mi :: fI (mx_d (mx_d sd)) :: .ref 72 :: fI (f 10) :: fI (f 11) :: fI (f 12) :: fJ (f 13) :: fI (f 14) :: fI (f 15) :: fI (f 16) :: fI (f 17) :: .ref 73 :: .ref 74 :: .ref 75 :: .ref 76 :: .ref 77 :: .ref 78 :: (fI ((mx_w cn go ch s (mx_pk (mx_w cn go ch s xa) (mx_v sd) xa)).length : Int)) :: .ref 79 :: .ref 80 :: .ref 81 :: .ref 82 :: .ref 83 :: .ref 84 :: .ref 85 :: fJ (f 32) :: fJ (f 33) :: .ref 86 :: .ref 87 :: fI (f 36) :: .ref 88 :: .ref 89 :: .ref 90 :: .ref 91 :: .ref 92 :: .ref 93 :: []))) := e_31_66
              have g_31_77 : cE h_31 77 (.inl (.int, fA gt'_31)) := e_31_77
              have g_31_78 : cE h_31 78 (.inl (.int, fA gd'_31)) := e_31_78
              refine ik_Wk 0 (pc_q := 131) (loc_q := [some (.ref 66), some (fI 0), some (fI fa), some (fI 2), some (fI 1)]) (st_q := [fI (mx_pk (mx_w cn go ch s (mx_pk (mx_w cn go ch s xa) (mx_v sd) xa)) (mx_v (mx_d sd)) (mx_pk (mx_w cn go ch s xa) (mx_v sd) xa)), fI 0, .ref 71]) (h_q := h_31) (cl_q := 0) (sl_q := 0) rfl ?_
              have hp31 := mx_pk_in (f := mx_pk (mx_w cn go ch s xa) (mx_v sd) xa) (q6 (mx_pk (mx_w cn go ch s xa) (mx_v sd) xa) (by omega) (by omega)) (mx_v_b (mx_d sd)).1 (mx_v_b (mx_d sd)).2
              have hz31 := mx_d_b (mx_d sd)
              refine fx_ias (z := 0) rfl g_31_71 (by decide +kernel) (Nat.le_of_ble_eq_true rfl) (by decide +kernel) ?_
              intro h_32 e_32 f_32 l_32
              have k_32 : cL h_32 := l_32.trans k_31
              have fr_32 := hfr_wb fr_31 f_32 l_32 rfl
              clear l_32
              have g_32_66 := (f_32 66 (Nat.ne_of_beq_eq_false rfl)).trans g_31_66
              have g_32_67 := (f_32 67 (Nat.ne_of_beq_eq_false rfl)).trans g_31_67
              have g_32_68 := (f_32 68 (Nat.ne_of_beq_eq_false rfl)).trans g_31_68
              have g_32_69 := (f_32 69 (Nat.ne_of_beq_eq_false rfl)).trans g_31_69
              have g_32_70 := (f_32 70 (Nat.ne_of_beq_eq_false rfl)).trans g_31_70
              have g_32_77 := (f_32 77 (Nat.ne_of_beq_eq_false rfl)).trans g_31_77
              have g_32_78 := (f_32 78 (Nat.ne_of_beq_eq_false rfl)).trans g_31_78
              have g_32_71 : cE h_32 71 (.inl (.int, fA [mx_pk (mx_w cn go ch s (mx_pk (mx_w cn go ch s xa) (mx_v sd) xa)) (mx_v (mx_d sd)) (mx_pk (mx_w cn go ch s xa) (mx_v sd) xa), xb])) := e_32
              refine fw_inc (a := 1) (loc_q := [some (.ref 66), some (fI 0), some (fI fa), some (fI 2), some (fI 2)]) rfl rfl (Nat.le_of_ble_eq_true rfl) rfl ?_
              refine ik_Wk 3 (pc_q := 100) (loc_q := [some (.ref 66), some (fI 0), some (fI fa), some (fI 2), some (fI 2)]) (st_q := [fI 2, fI 2]) (h_q := h_32) (cl_q := 0) (sl_q := 0) rfl ?_
              refine fw_ic_ge rfl rfl (by decide +kernel) (by decide +kernel) (by decide +kernel) (by decide +kernel) (fun hc12 => ?_) (fun hc12 => absurd hc12 (by decide +kernel))
              have et : mx_tm ka (mi - fa) = 2 := by unfold mx_tm; (repeat' split) <;> omega
              have ez : (mx_sd (fun x => mx_w cn go ch s x) (pl - 1) ka pa fa mi xa sd) = (mx_pk (mx_w cn go ch s (mx_pk (mx_w cn go ch s xa) (mx_v sd) xa)) (mx_v (mx_d sd)) (mx_pk (mx_w cn go ch s xa) (mx_v sd) xa), mx_d (mx_d sd)) := by
                unfold mx_sd
                rw [if_neg (by omega), if_pos (by omega)]
                rw [et]
                rw [mx_go_n (by omega)]
                rw [mx_go_n (by omega)]
                rfl
              rw [ez]
              exact ik_Wret rfl rfl ⟨_, _, rfl, rfl, rfl, rfl, ⟨((mx_w cn go ch s (mx_pk (mx_w cn go ch s xa) (mx_v sd) xa)).length : Int), gt'_31, gd'_31, rfl, g_32_66, g_32_71, g_32_77, m_31_77, g_32_78, m_31_78, fr_32⟩⟩
        · refine ik_Wk 1 (pc_q := 78) (loc_q := [some (.ref 66), some (fI 0), some (fI fa), none, none]) (st_q := [.ref 66]) (h_q := h) (cl_q := 0) (sl_q := 0) rfl ?_
          refine fw_gf rfl rfl h66 rfl ?_
          refine ik_Wk 1 (pc_q := 82) (loc_q := [some (.ref 66), some (fI 0), some (fI fa), none, none]) (st_q := [fI fa, fI mi]) (h_q := h) (cl_q := 0) (sl_q := 0) rfl ?_
          refine fw_sub rfl ?_
          refine ik_Wk 1 (pc_q := 84) (loc_q := [some (.ref 66), some (fI 0), some (fI fa), none, none]) (st_q := [fI 2, fI (mi - fa)]) (h_q := h) (cl_q := 0) (sl_q := 0) rfl ?_
          refine fx_irem rfl (by omega) (by omega) (by omega) (by omega) ?_
          refine fw_if_ne rfl rfl (by omega) (by omega) (fun hc13 => ?_) (fun hc13 => ?_)
          · refine ik_Wk 7 (pc_q := 100) (loc_q := [some (.ref 66), some (fI 0), some (fI fa), some (fI 1), some (fI 0)]) (st_q := [fI 1, fI 0]) (h_q := h) (cl_q := 0) (sl_q := 0) rfl ?_
            refine fw_ic_ge rfl rfl (by decide +kernel) (by decide +kernel) (by decide +kernel) (by decide +kernel) (fun hc14 => absurd hc14 (by decide +kernel)) (fun hc14 => ?_)
            refine ik_Wk 1 (pc_q := 104) (loc_q := [some (.ref 66), some (fI 0), some (fI fa), some (fI 1), some (fI 0)]) (st_q := [.ref 66]) (h_q := h) (cl_q := 0) (sl_q := 0) rfl ?_
            refine fw_gf rfl rfl h66 rfl ?_
            refine ik_Wk 1 (pc_q := 108) (loc_q := [some (.ref 66), some (fI 0), some (fI fa), some (fI 1), some (fI 0)]) (st_q := [fI 0, .ref 71]) (h_q := h) (cl_q := 0) (sl_q := 0) rfl ?_
            refine fw_ial (z := 0) rfl h71 (by decide +kernel) (Nat.le_of_ble_eq_true rfl) (by decide +kernel) ?_
            refine ik_Wk 0 (pc_q := 109) (loc_q := [some (.ref 66), some (fI 0), some (fI fa), some (fI 1), some (fI 0)]) (st_q := [fI xa]) (h_q := h) (cl_q := 0) (sl_q := 0) rfl ?_
            refine ik_Wk 1 (pc_q := 110) (loc_q := [some (.ref 66), some (fI 0), some (fI fa), some (fI 1), some (fI 0)]) (st_q := [.ref 66, fI xa]) (h_q := h) (cl_q := 0) (sl_q := 0) rfl ?_
            refine ik_Wc 130 1 0 [.ref 66] [fI xa] rfl rfl rfl (by decide +kernel) rfl rfl (fw_rec hl rfl h66 rfl (Nat.le_of_ble_eq_true rfl)) ?_
            refine ik_Wk 0 (pc_q := 0) (loc_q := [some (.ref 66)]) (st_q := []) (h_q := h) (cl_q := 0) (sl_q := 0) rfl ?_
            refine ik_Wk 1 (pc_q := 1) (loc_q := [some (.ref 66)]) (st_q := [.ref 66]) (h_q := h) (cl_q := 0) (sl_q := 0) rfl ?_
            refine fw_gf rfl rfl h66 rfl ?_
            refine ik_Wk 1 (pc_q := 5) (loc_q := [some (.ref 66)]) (st_q := [fI 1, fI pl]) (h_q := h) (cl_q := 0) (sl_q := 0) rfl ?_
            refine fw_sub rfl ?_
            refine ik_Wret rfl rfl ⟨_, _, rfl, rfl, ?_⟩
            refine ik_Wk 0 (pc_q := 113) (loc_q := [some (.ref 66), some (fI 0), some (fI fa), some (fI 1), some (fI 0)]) (st_q := [fI (pl - 1), fI xa]) (h_q := h) (cl_q := 0) (sl_q := 0) rfl ?_
            refine fw_ic_eq rfl rfl (by omega) (by omega) (by omega) (by omega) (fun hc15 => ?_) (fun hc15 => ?_)
            · have et : mx_tm ka (mi - fa) = 1 := by unfold mx_tm; (repeat' split) <;> omega
              have ez : (mx_sd (fun x => mx_w cn go ch s x) (pl - 1) ka pa fa mi xa sd) = (xa, sd) := by
                unfold mx_sd
                rw [if_neg (by omega), if_pos (by omega)]
                rw [et]
                exact mx_go_b (by omega)
              rw [ez]
              exact ik_Wret rfl rfl ⟨_, _, rfl, rfl, rfl, rfl, ⟨(f 24), gt, gd, rfl, h66, h71, h77, n77, h78, n78, (hfr_refl [66, 71, 77, 78] h)⟩⟩
            · refine ik_Wk 1 (pc_q := 117) (loc_q := [some (.ref 66), some (fI 0), some (fI fa), some (fI 1), some (fI 0)]) (st_q := [.ref 66]) (h_q := h) (cl_q := 0) (sl_q := 0) rfl ?_
              refine fw_gf rfl rfl h66 rfl ?_
              refine ik_Wk 3 (pc_q := 123) (loc_q := [some (.ref 66), some (fI 0), some (fI fa), some (fI 1), some (fI 0)]) (st_q := [.ref 66, .ref 66, fI 0, .ref 71]) (h_q := h) (cl_q := 0) (sl_q := 0) rfl ?_
              refine fw_gf rfl rfl h66 rfl ?_
              refine ik_Wk 1 (pc_q := 127) (loc_q := [some (.ref 66), some (fI 0), some (fI fa), some (fI 1), some (fI 0)]) (st_q := [fI 0, .ref 71, .ref 66, fI 0, .ref 71]) (h_q := h) (cl_q := 0) (sl_q := 0) rfl ?_
              refine fw_ial (z := 0) rfl h71 (by decide +kernel) (Nat.le_of_ble_eq_true rfl) (by decide +kernel) ?_
              refine ik_Wk 0 (pc_q := 128) (loc_q := [some (.ref 66), some (fI 0), some (fI fa), some (fI 1), some (fI 0)]) (st_q := [fI xa, .ref 66, fI 0, .ref 71]) (h_q := h) (cl_q := 0) (sl_q := 0) rfl ?_
              refine fw_call 195 2 0 [.ref 66, fI xa] [fI 0, .ref 71] rfl rfl rfl (Nat.le_of_ble_eq_true rfl) rfl rfl (fw_rec hl rfl h66 rfl (Nat.le_of_ble_eq_true rfl)) (cr_gone (p := xa) (f := fun j => ((pl :: 0 :: 0 :: 0 :: 0 :: 0 :: 0 :: mi :: 0 :: 0 :: f 10 :: f 11 :: f 12 :: f 13 :: f 14 :: f 15 :: f 16 :: f 17 :: 0 :: 0 :: 0 :: 0 :: 0 :: 0 :: f 24 :: 0 :: 0 :: 0 :: 0 :: 0 :: 0 :: 0 :: f 32 :: f 33 :: 0 :: 0 :: f 36 :: 0 :: 0 :: 0 :: 0 :: 0 :: 0 :: []) : List Int).getD j 0) (s := s) (cn := cn) (go := go) (ch := ch) (gt := gt) (gd := gd) (sd := sd) (by omega) (by omega) (by omega) (q5 _ (by omega) (by omega)) (q4 _ (by omega) (by omega)).2 (q4 _ (by omega) (by omega)).1 (by omega) (q6 _ (by omega) (by omega)) h66 h67 n67 h68 n68 h69 n69 h77 n77 h78 n78 hl) ?_
              rintro _ h_33 ⟨gt'_33, gd'_33, rfl, e_33_66, e_33_77, m_33_77, e_33_78, m_33_78, F_33⟩
              have k_33 : cL h_33 := F_33.1.trans hl
              have fr_33 := hfr_cb (hfr_refl [66, 71, 77, 78] h) F_33 rfl
              have g_33_67 := (hfr_g F_33 67 rfl).trans h67
              have g_33_68 := (hfr_g F_33 68 rfl).trans h68
              have g_33_69 := (hfr_g F_33 69 rfl).trans h69
              have g_33_70 := (hfr_g F_33 70 rfl).trans h70
              have g_33_71 := (hfr_g F_33 71 rfl).trans h71
              have g_33_66 : cE h_33 66 (.inr (10, (fI pl :: .ref 67 :: .ref 68 :: .ref 69 :: fI ((s : Nat) : Int) :: .ref 70 :: .ref 71 :: fI mi :: fI (mx_d sd) :: .ref 72 :: fI (f 10) :: fI (f 11) :: fI (f 12) :: fJ (f 13) :: fI (f 14) :: fI (f 15) :: fI (f 16) :: fI (f 17) :: .ref 73 :: .ref 74 :: .ref 75 :: .ref 76 :: .ref 77 :: .ref 78 :: fI ((mx_w cn go ch s xa).length : Int) :: .ref 79 :: .ref 80 :: .ref 81 :: .ref 82 :: .ref 83 :: .ref 84 :: .ref 85 :: fJ (f 32) :: fJ (f 33) :: .ref 86 :: .ref 87 :: fI (f 36) :: .ref 88 :: .ref 89 :: .ref 90 :: .ref 91 :: .ref 92 :: .ref 93 :: []))) := e_33_66
              have g_33_77 : cE h_33 77 (.inl (.int, fA gt'_33)) := e_33_77
              have g_33_78 : cE h_33 78 (.inl (.int, fA gd'_33)) := e_33_78
              refine ik_Wk 0 (pc_q := 131) (loc_q := [some (.ref 66), some (fI 0), some (fI fa), some (fI 1), some (fI 0)]) (st_q := [fI (mx_pk (mx_w cn go ch s xa) (mx_v sd) xa), fI 0, .ref 71]) (h_q := h_33) (cl_q := 0) (sl_q := 0) rfl ?_
              have hp33 := mx_pk_in (f := xa) (q6 xa (by omega) (by omega)) (mx_v_b sd).1 (mx_v_b sd).2
              have hz33 := mx_d_b sd
              refine fx_ias (z := 0) rfl g_33_71 (by decide +kernel) (Nat.le_of_ble_eq_true rfl) (by decide +kernel) ?_
              intro h_34 e_34 f_34 l_34
              have k_34 : cL h_34 := l_34.trans k_33
              have fr_34 := hfr_wb fr_33 f_34 l_34 rfl
              clear l_34
              have g_34_66 := (f_34 66 (Nat.ne_of_beq_eq_false rfl)).trans g_33_66
              have g_34_67 := (f_34 67 (Nat.ne_of_beq_eq_false rfl)).trans g_33_67
              have g_34_68 := (f_34 68 (Nat.ne_of_beq_eq_false rfl)).trans g_33_68
              have g_34_69 := (f_34 69 (Nat.ne_of_beq_eq_false rfl)).trans g_33_69
              have g_34_70 := (f_34 70 (Nat.ne_of_beq_eq_false rfl)).trans g_33_70
              have g_34_77 := (f_34 77 (Nat.ne_of_beq_eq_false rfl)).trans g_33_77
              have g_34_78 := (f_34 78 (Nat.ne_of_beq_eq_false rfl)).trans g_33_78
              have g_34_71 : cE h_34 71 (.inl (.int, fA [mx_pk (mx_w cn go ch s xa) (mx_v sd) xa, xb])) := e_34
              refine fw_inc (a := 0) (loc_q := [some (.ref 66), some (fI 0), some (fI fa), some (fI 1), some (fI 1)]) rfl rfl (Nat.le_of_ble_eq_true rfl) rfl ?_
              refine ik_Wk 3 (pc_q := 100) (loc_q := [some (.ref 66), some (fI 0), some (fI fa), some (fI 1), some (fI 1)]) (st_q := [fI 1, fI 1]) (h_q := h_34) (cl_q := 0) (sl_q := 0) rfl ?_
              refine fw_ic_ge rfl rfl (by decide +kernel) (by decide +kernel) (by decide +kernel) (by decide +kernel) (fun hc16 => ?_) (fun hc16 => absurd hc16 (by decide +kernel))
              have et : mx_tm ka (mi - fa) = 1 := by unfold mx_tm; (repeat' split) <;> omega
              have ez : (mx_sd (fun x => mx_w cn go ch s x) (pl - 1) ka pa fa mi xa sd) = (mx_pk (mx_w cn go ch s xa) (mx_v sd) xa, mx_d sd) := by
                unfold mx_sd
                rw [if_neg (by omega), if_pos (by omega)]
                rw [et]
                rw [mx_go_n (by omega)]
                rfl
              rw [ez]
              exact ik_Wret rfl rfl ⟨_, _, rfl, rfl, rfl, rfl, ⟨((mx_w cn go ch s xa).length : Int), gt'_33, gd'_33, rfl, g_34_66, g_34_71, g_34_77, m_33_77, g_34_78, m_33_78, fr_34⟩⟩
          · refine ik_Wk 6 (pc_q := 100) (loc_q := [some (.ref 66), some (fI 0), some (fI fa), some (fI 0), some (fI 0)]) (st_q := [fI 0, fI 0]) (h_q := h) (cl_q := 0) (sl_q := 0) rfl ?_
            refine fw_ic_ge rfl rfl (by decide +kernel) (by decide +kernel) (by decide +kernel) (by decide +kernel) (fun hc17 => ?_) (fun hc17 => absurd hc17 (by decide +kernel))
            have et : mx_tm ka (mi - fa) = 0 := by unfold mx_tm; (repeat' split) <;> omega
            have ez : (mx_sd (fun x => mx_w cn go ch s x) (pl - 1) ka pa fa mi xa sd) = (xa, sd) := by
              unfold mx_sd
              rw [if_neg (by omega), if_pos (by omega)]
              rw [et]
              rfl
            rw [ez]
            exact ik_Wret rfl rfl ⟨_, _, rfl, rfl, rfl, rfl, ⟨(f 24), gt, gd, rfl, h66, h71, h77, n77, h78, n78, (hfr_refl [66, 71, 77, 78] h)⟩⟩

theorem cr_side1 {h : List ik_E} {pl : Int} {mi : Int} {sd : Int} {ka : Int} {pa : Int} {fa : Int} {kb : Int} {pb : Int} {fb : Int} {xa : Int} {xb : Int} {s : Nat} {cn : List Int} {go : List Int} {ch : List Int} {f : Nat → Int} {gt : List Int} {gd : List Int} (q0 : 2 ≤ pl ∧ pl ≤ 12) (q1 : s < 4096) (q2 : 0 ≤ sd ∧ sd < 2147483648) (q3 : 0 ≤ mi ∧ mi < 2000000000) (q4 : ∀ x : Int, (0 : Int) ≤ x → x < pl - 1 → 1 ≤ cn.getD x.toNat 0 ∧ ∀ j : Int, 4 * x ≤ j → j < 4 * x + cn.getD x.toNat 0 → 0 ≤ ch.getD j.toNat 0 ∧ ch.getD j.toNat 0 ≤ 100) (q5 : ∀ x : Int, (0 : Int) ≤ x → x < pl → 0 ≤ cn.getD x.toNat 0 ∧ cn.getD x.toNat 0 ≤ 4) (q6 : ∀ x : Int, (0 : Int) ≤ x → x < pl - 1 → mx_ok pl (mx_w cn go ch s x)) (q7 : (0 : Int) ≤ kb ∧ kb ≤ (2 : Int)) (q8 : (0 : Int) ≤ fb ∧ fb ≤ (30 : Int)) (q9 : fb < mi → (0 : Int) ≤ xb ∧ xb < pl) (h66 : cE h 66 (.inr (10, (fI pl :: .ref 67 :: .ref 68 :: .ref 69 :: fI ((s : Nat) : Int) :: .ref 70 :: .ref 71 :: fI mi :: fI sd :: .ref 72 :: fI (f 10) :: fI (f 11) :: fI (f 12) :: fJ (f 13) :: fI (f 14) :: fI (f 15) :: fI (f 16) :: fI (f 17) :: .ref 73 :: .ref 74 :: .ref 75 :: .ref 76 :: .ref 77 :: .ref 78 :: fI (f 24) :: .ref 79 :: .ref 80 :: .ref 81 :: .ref 82 :: .ref 83 :: .ref 84 :: .ref 85 :: fJ (f 32) :: fJ (f 33) :: .ref 86 :: .ref 87 :: fI (f 36) :: .ref 88 :: .ref 89 :: .ref 90 :: .ref 91 :: .ref 92 :: .ref 93 :: [])))) (h67 : cE h 67 (.inl (.int, fA cn))) (n67 : cn.length = (12 : Nat)) (h68 : cE h 68 (.inl (.int, fA go))) (n68 : go.length = (48 : Nat)) (h69 : cE h 69 (.inl (.int, fA ch))) (n69 : ch.length = (48 : Nat)) (h70 : cE h 70 (.inl (.int, fA [ka, pa, fa, kb, pb, fb]))) (h71 : cE h 71 (.inl (.int, fA [xa, xb]))) (h77 : cE h 77 (.inl (.int, fA gt))) (n77 : gt.length = (5 : Nat)) (h78 : cE h 78 (.inl (.int, fA gd))) (n78 : gd.length = (5 : Nat)) (hl : h.length = (94 : Nat)) : ik_F 196 [.ref 66, fI 1] h (fun rv h_q => ∃ (w' : Int) (gt' : List Int) (gd' : List Int), rv = [] ∧ cE h_q 66 (.inr (10, (fI pl :: .ref 67 :: .ref 68 :: .ref 69 :: fI ((s : Nat) : Int) :: .ref 70 :: .ref 71 :: fI mi :: fI ((mx_sd (fun x => mx_w cn go ch s x) (pl - 1) kb pb fb mi xb sd).2) :: .ref 72 :: fI (f 10) :: fI (f 11) :: fI (f 12) :: fJ (f 13) :: fI (f 14) :: fI (f 15) :: fI (f 16) :: fI (f 17) :: .ref 73 :: .ref 74 :: .ref 75 :: .ref 76 :: .ref 77 :: .ref 78 :: fI w' :: .ref 79 :: .ref 80 :: .ref 81 :: .ref 82 :: .ref 83 :: .ref 84 :: .ref 85 :: fJ (f 32) :: fJ (f 33) :: .ref 86 :: .ref 87 :: fI (f 36) :: .ref 88 :: .ref 89 :: .ref 90 :: .ref 91 :: .ref 92 :: .ref 93 :: []))) ∧ cE h_q 71 (.inl (.int, fA [xa, (mx_sd (fun x => mx_w cn go ch s x) (pl - 1) kb pb fb mi xb sd).1])) ∧ cE h_q 77 (.inl (.int, fA gt')) ∧ gt'.length = (5 : Nat) ∧ cE h_q 78 (.inl (.int, fA gd')) ∧ gd'.length = (5 : Nat) ∧ hfr [66, 71, 77, 78] h h_q) := by
  refine ik_Wk 1 (pc_q := 1) (loc_q := [some (.ref 66), some (fI 1), none, none, none]) (st_q := [.ref 66]) (h_q := h) (cl_q := 0) (sl_q := 0) rfl ?_
  refine fw_gf rfl rfl h66 rfl ?_
  refine ik_Wk 2 (pc_q := 6) (loc_q := [some (.ref 66), some (fI 1), none, none, none]) (st_q := [fI 1, fI 3, .ref 70]) (h_q := h) (cl_q := 0) (sl_q := 0) rfl ?_
  refine fw_mul rfl ?_
  refine ik_Wk 1 (pc_q := 8) (loc_q := [some (.ref 66), some (fI 1), none, none, none]) (st_q := [fI 2, fI 3, .ref 70]) (h_q := h) (cl_q := 0) (sl_q := 0) rfl ?_
  refine fw_add rfl ?_
  refine fw_ial (z := 5) rfl h70 (by decide +kernel) (Nat.le_of_ble_eq_true rfl) (by decide +kernel) ?_
  refine ik_Wk 0 (pc_q := 10) (loc_q := [some (.ref 66), some (fI 1), none, none, none]) (st_q := [fI fb]) (h_q := h) (cl_q := 0) (sl_q := 0) rfl ?_
  refine ik_Wk 2 (pc_q := 12) (loc_q := [some (.ref 66), some (fI 1), some (fI fb), none, none]) (st_q := [.ref 66]) (h_q := h) (cl_q := 0) (sl_q := 0) rfl ?_
  refine fw_gf rfl rfl h66 rfl ?_
  refine ik_Wk 1 (pc_q := 16) (loc_q := [some (.ref 66), some (fI 1), some (fI fb), none, none]) (st_q := [fI fb, fI mi]) (h_q := h) (cl_q := 0) (sl_q := 0) rfl ?_
  refine fw_ic_ne rfl rfl (by omega) (by omega) (by omega) (by omega) (fun hc1 => ?_) (fun hc1 => ?_)
  · refine ik_Wk 1 (pc_q := 20) (loc_q := [some (.ref 66), some (fI 1), some (fI fb), none, none]) (st_q := [.ref 66]) (h_q := h) (cl_q := 0) (sl_q := 0) rfl ?_
    refine fw_gf rfl rfl h66 rfl ?_
    refine ik_Wk 2 (pc_q := 25) (loc_q := [some (.ref 66), some (fI 1), some (fI fb), none, none]) (st_q := [.ref 66, fI 1, .ref 71]) (h_q := h) (cl_q := 0) (sl_q := 0) rfl ?_
    refine fw_gf rfl rfl h66 rfl ?_
    refine ik_Wk 2 (pc_q := 30) (loc_q := [some (.ref 66), some (fI 1), some (fI fb), none, none]) (st_q := [fI 1, fI 3, .ref 70, fI 1, .ref 71]) (h_q := h) (cl_q := 0) (sl_q := 0) rfl ?_
    refine fw_mul rfl ?_
    refine ik_Wk 1 (pc_q := 32) (loc_q := [some (.ref 66), some (fI 1), some (fI fb), none, none]) (st_q := [fI 1, fI 3, .ref 70, fI 1, .ref 71]) (h_q := h) (cl_q := 0) (sl_q := 0) rfl ?_
    refine fw_add rfl ?_
    refine fw_ial (z := 4) rfl h70 (by decide +kernel) (Nat.le_of_ble_eq_true rfl) (by decide +kernel) ?_
    refine ik_Wk 0 (pc_q := 34) (loc_q := [some (.ref 66), some (fI 1), some (fI fb), none, none]) (st_q := [fI pb, fI 1, .ref 71]) (h_q := h) (cl_q := 0) (sl_q := 0) rfl ?_
    refine fx_ias (z := 1) rfl h71 (by decide +kernel) (Nat.le_of_ble_eq_true rfl) (by decide +kernel) ?_
    intro h_35 e_35 f_35 l_35
    have k_35 : cL h_35 := l_35.trans hl
    have fr_35 := hfr_wb (hfr_refl [66, 71, 77, 78] h) f_35 l_35 rfl
    clear l_35
    have g_35_66 := (f_35 66 (Nat.ne_of_beq_eq_false rfl)).trans h66
    have g_35_67 := (f_35 67 (Nat.ne_of_beq_eq_false rfl)).trans h67
    have g_35_68 := (f_35 68 (Nat.ne_of_beq_eq_false rfl)).trans h68
    have g_35_69 := (f_35 69 (Nat.ne_of_beq_eq_false rfl)).trans h69
    have g_35_70 := (f_35 70 (Nat.ne_of_beq_eq_false rfl)).trans h70
    have g_35_77 := (f_35 77 (Nat.ne_of_beq_eq_false rfl)).trans h77
    have g_35_78 := (f_35 78 (Nat.ne_of_beq_eq_false rfl)).trans h78
    have g_35_71 : cE h_35 71 (.inl (.int, fA [xa, pb])) := e_35
    refine ik_Wk 1 (pc_q := 138) (loc_q := [some (.ref 66), some (fI 1), some (fI fb), none, none]) (st_q := []) (h_q := h_35) (cl_q := 0) (sl_q := 0) rfl ?_
    have ez : (mx_sd (fun x => mx_w cn go ch s x) (pl - 1) kb pb fb mi xb sd) = (pb, sd) := by
      unfold mx_sd
      rw [if_pos (by omega)]
    rw [ez]
    exact ik_Wret rfl rfl ⟨_, _, rfl, rfl, rfl, rfl, ⟨(f 24), gt, gd, rfl, g_35_66, g_35_71, g_35_77, n77, g_35_78, n78, fr_35⟩⟩
  · refine ik_Wk 1 (pc_q := 39) (loc_q := [some (.ref 66), some (fI 1), some (fI fb), none, none]) (st_q := [.ref 66]) (h_q := h) (cl_q := 0) (sl_q := 0) rfl ?_
    refine fw_gf rfl rfl h66 rfl ?_
    refine ik_Wk 1 (pc_q := 43) (loc_q := [some (.ref 66), some (fI 1), some (fI fb), none, none]) (st_q := [fI fb, fI mi]) (h_q := h) (cl_q := 0) (sl_q := 0) rfl ?_
    refine fw_ic_le rfl rfl (by omega) (by omega) (by omega) (by omega) (fun hc2 => ?_) (fun hc2 => ?_)
    · have ez : (mx_sd (fun x => mx_w cn go ch s x) (pl - 1) kb pb fb mi xb sd) = (xb, sd) := by
        unfold mx_sd
        rw [if_neg (by omega), if_neg (by omega)]
      rw [ez]
      exact ik_Wret rfl rfl ⟨_, _, rfl, rfl, rfl, rfl, ⟨(f 24), gt, gd, rfl, h66, h71, h77, n77, h78, n78, (hfr_refl [66, 71, 77, 78] h)⟩⟩
    · refine ik_Wk 1 (pc_q := 47) (loc_q := [some (.ref 66), some (fI 1), some (fI fb), none, none]) (st_q := [.ref 66]) (h_q := h) (cl_q := 0) (sl_q := 0) rfl ?_
      refine fw_gf rfl rfl h66 rfl ?_
      refine ik_Wk 2 (pc_q := 52) (loc_q := [some (.ref 66), some (fI 1), some (fI fb), none, none]) (st_q := [fI 1, fI 3, .ref 70]) (h_q := h) (cl_q := 0) (sl_q := 0) rfl ?_
      refine fw_mul rfl ?_
      refine fw_ial (z := 3) rfl h70 (by decide +kernel) (Nat.le_of_ble_eq_true rfl) (by decide +kernel) ?_
      refine ik_Wk 0 (pc_q := 54) (loc_q := [some (.ref 66), some (fI 1), some (fI fb), none, none]) (st_q := [fI kb]) (h_q := h) (cl_q := 0) (sl_q := 0) rfl ?_
      refine fw_if_ne rfl rfl (by omega) (by omega) (fun hc3 => ?_) (fun hc3 => ?_)
      · refine ik_Wk 7 (pc_q := 100) (loc_q := [some (.ref 66), some (fI 1), some (fI fb), some (fI 1), some (fI 0)]) (st_q := [fI 1, fI 0]) (h_q := h) (cl_q := 0) (sl_q := 0) rfl ?_
        refine fw_ic_ge rfl rfl (by decide +kernel) (by decide +kernel) (by decide +kernel) (by decide +kernel) (fun hc4 => absurd hc4 (by decide +kernel)) (fun hc4 => ?_)
        refine ik_Wk 1 (pc_q := 104) (loc_q := [some (.ref 66), some (fI 1), some (fI fb), some (fI 1), some (fI 0)]) (st_q := [.ref 66]) (h_q := h) (cl_q := 0) (sl_q := 0) rfl ?_
        refine fw_gf rfl rfl h66 rfl ?_
        refine ik_Wk 1 (pc_q := 108) (loc_q := [some (.ref 66), some (fI 1), some (fI fb), some (fI 1), some (fI 0)]) (st_q := [fI 1, .ref 71]) (h_q := h) (cl_q := 0) (sl_q := 0) rfl ?_
        refine fw_ial (z := 1) rfl h71 (by decide +kernel) (Nat.le_of_ble_eq_true rfl) (by decide +kernel) ?_
        refine ik_Wk 0 (pc_q := 109) (loc_q := [some (.ref 66), some (fI 1), some (fI fb), some (fI 1), some (fI 0)]) (st_q := [fI xb]) (h_q := h) (cl_q := 0) (sl_q := 0) rfl ?_
        refine ik_Wk 1 (pc_q := 110) (loc_q := [some (.ref 66), some (fI 1), some (fI fb), some (fI 1), some (fI 0)]) (st_q := [.ref 66, fI xb]) (h_q := h) (cl_q := 0) (sl_q := 0) rfl ?_
        refine ik_Wc 130 1 0 [.ref 66] [fI xb] rfl rfl rfl (by decide +kernel) rfl rfl (fw_rec hl rfl h66 rfl (Nat.le_of_ble_eq_true rfl)) ?_
        refine ik_Wk 0 (pc_q := 0) (loc_q := [some (.ref 66)]) (st_q := []) (h_q := h) (cl_q := 0) (sl_q := 0) rfl ?_
        refine ik_Wk 1 (pc_q := 1) (loc_q := [some (.ref 66)]) (st_q := [.ref 66]) (h_q := h) (cl_q := 0) (sl_q := 0) rfl ?_
        refine fw_gf rfl rfl h66 rfl ?_
        refine ik_Wk 1 (pc_q := 5) (loc_q := [some (.ref 66)]) (st_q := [fI 1, fI pl]) (h_q := h) (cl_q := 0) (sl_q := 0) rfl ?_
        refine fw_sub rfl ?_
        refine ik_Wret rfl rfl ⟨_, _, rfl, rfl, ?_⟩
        refine ik_Wk 0 (pc_q := 113) (loc_q := [some (.ref 66), some (fI 1), some (fI fb), some (fI 1), some (fI 0)]) (st_q := [fI (pl - 1), fI xb]) (h_q := h) (cl_q := 0) (sl_q := 0) rfl ?_
        refine fw_ic_eq rfl rfl (by omega) (by omega) (by omega) (by omega) (fun hc5 => ?_) (fun hc5 => ?_)
        · have et : mx_tm kb (mi - fb) = 1 := by unfold mx_tm; (repeat' split) <;> omega
          have ez : (mx_sd (fun x => mx_w cn go ch s x) (pl - 1) kb pb fb mi xb sd) = (xb, sd) := by
            unfold mx_sd
            rw [if_neg (by omega), if_pos (by omega)]
            rw [et]
            exact mx_go_b (by omega)
          rw [ez]
          exact ik_Wret rfl rfl ⟨_, _, rfl, rfl, rfl, rfl, ⟨(f 24), gt, gd, rfl, h66, h71, h77, n77, h78, n78, (hfr_refl [66, 71, 77, 78] h)⟩⟩
        · refine ik_Wk 1 (pc_q := 117) (loc_q := [some (.ref 66), some (fI 1), some (fI fb), some (fI 1), some (fI 0)]) (st_q := [.ref 66]) (h_q := h) (cl_q := 0) (sl_q := 0) rfl ?_
          refine fw_gf rfl rfl h66 rfl ?_
          refine ik_Wk 3 (pc_q := 123) (loc_q := [some (.ref 66), some (fI 1), some (fI fb), some (fI 1), some (fI 0)]) (st_q := [.ref 66, .ref 66, fI 1, .ref 71]) (h_q := h) (cl_q := 0) (sl_q := 0) rfl ?_
          refine fw_gf rfl rfl h66 rfl ?_
          refine ik_Wk 1 (pc_q := 127) (loc_q := [some (.ref 66), some (fI 1), some (fI fb), some (fI 1), some (fI 0)]) (st_q := [fI 1, .ref 71, .ref 66, fI 1, .ref 71]) (h_q := h) (cl_q := 0) (sl_q := 0) rfl ?_
          refine fw_ial (z := 1) rfl h71 (by decide +kernel) (Nat.le_of_ble_eq_true rfl) (by decide +kernel) ?_
          refine ik_Wk 0 (pc_q := 128) (loc_q := [some (.ref 66), some (fI 1), some (fI fb), some (fI 1), some (fI 0)]) (st_q := [fI xb, .ref 66, fI 1, .ref 71]) (h_q := h) (cl_q := 0) (sl_q := 0) rfl ?_
          refine fw_call 195 2 0 [.ref 66, fI xb] [fI 1, .ref 71] rfl rfl rfl (Nat.le_of_ble_eq_true rfl) rfl rfl (fw_rec hl rfl h66 rfl (Nat.le_of_ble_eq_true rfl)) (cr_gone (p := xb) (f := fun j => ((pl :: 0 :: 0 :: 0 :: 0 :: 0 :: 0 :: mi :: 0 :: 0 :: f 10 :: f 11 :: f 12 :: f 13 :: f 14 :: f 15 :: f 16 :: f 17 :: 0 :: 0 :: 0 :: 0 :: 0 :: 0 :: f 24 :: 0 :: 0 :: 0 :: 0 :: 0 :: 0 :: 0 :: f 32 :: f 33 :: 0 :: 0 :: f 36 :: 0 :: 0 :: 0 :: 0 :: 0 :: 0 :: []) : List Int).getD j 0) (s := s) (cn := cn) (go := go) (ch := ch) (gt := gt) (gd := gd) (sd := sd) (by omega) (by omega) (by omega) (q5 _ (by omega) (by omega)) (q4 _ (by omega) (by omega)).2 (q4 _ (by omega) (by omega)).1 (by omega) (q6 _ (by omega) (by omega)) h66 h67 n67 h68 n68 h69 n69 h77 n77 h78 n78 hl) ?_
          rintro _ h_36 ⟨gt'_36, gd'_36, rfl, e_36_66, e_36_77, m_36_77, e_36_78, m_36_78, F_36⟩
          have k_36 : cL h_36 := F_36.1.trans hl
          have fr_36 := hfr_cb (hfr_refl [66, 71, 77, 78] h) F_36 rfl
          have g_36_67 := (hfr_g F_36 67 rfl).trans h67
          have g_36_68 := (hfr_g F_36 68 rfl).trans h68
          have g_36_69 := (hfr_g F_36 69 rfl).trans h69
          have g_36_70 := (hfr_g F_36 70 rfl).trans h70
          have g_36_71 := (hfr_g F_36 71 rfl).trans h71
          have g_36_66 : cE h_36 66 (.inr (10, (fI pl :: .ref 67 :: .ref 68 :: .ref 69 :: fI ((s : Nat) : Int) :: .ref 70 :: .ref 71 :: fI mi :: fI (mx_d sd) :: .ref 72 :: fI (f 10) :: fI (f 11) :: fI (f 12) :: fJ (f 13) :: fI (f 14) :: fI (f 15) :: fI (f 16) :: fI (f 17) :: .ref 73 :: .ref 74 :: .ref 75 :: .ref 76 :: .ref 77 :: .ref 78 :: fI ((mx_w cn go ch s xb).length : Int) :: .ref 79 :: .ref 80 :: .ref 81 :: .ref 82 :: .ref 83 :: .ref 84 :: .ref 85 :: fJ (f 32) :: fJ (f 33) :: .ref 86 :: .ref 87 :: fI (f 36) :: .ref 88 :: .ref 89 :: .ref 90 :: .ref 91 :: .ref 92 :: .ref 93 :: []))) := e_36_66
          have g_36_77 : cE h_36 77 (.inl (.int, fA gt'_36)) := e_36_77
          have g_36_78 : cE h_36 78 (.inl (.int, fA gd'_36)) := e_36_78
          refine ik_Wk 0 (pc_q := 131) (loc_q := [some (.ref 66), some (fI 1), some (fI fb), some (fI 1), some (fI 0)]) (st_q := [fI (mx_pk (mx_w cn go ch s xb) (mx_v sd) xb), fI 1, .ref 71]) (h_q := h_36) (cl_q := 0) (sl_q := 0) rfl ?_
          have hp36 := mx_pk_in (f := xb) (q6 xb (by omega) (by omega)) (mx_v_b sd).1 (mx_v_b sd).2
          have hz36 := mx_d_b sd
          refine fx_ias (z := 1) rfl g_36_71 (by decide +kernel) (Nat.le_of_ble_eq_true rfl) (by decide +kernel) ?_
          intro h_37 e_37 f_37 l_37
          have k_37 : cL h_37 := l_37.trans k_36
          have fr_37 := hfr_wb fr_36 f_37 l_37 rfl
          clear l_37
          have g_37_66 := (f_37 66 (Nat.ne_of_beq_eq_false rfl)).trans g_36_66
          have g_37_67 := (f_37 67 (Nat.ne_of_beq_eq_false rfl)).trans g_36_67
          have g_37_68 := (f_37 68 (Nat.ne_of_beq_eq_false rfl)).trans g_36_68
          have g_37_69 := (f_37 69 (Nat.ne_of_beq_eq_false rfl)).trans g_36_69
          have g_37_70 := (f_37 70 (Nat.ne_of_beq_eq_false rfl)).trans g_36_70
          have g_37_77 := (f_37 77 (Nat.ne_of_beq_eq_false rfl)).trans g_36_77
          have g_37_78 := (f_37 78 (Nat.ne_of_beq_eq_false rfl)).trans g_36_78
          have g_37_71 : cE h_37 71 (.inl (.int, fA [xa, mx_pk (mx_w cn go ch s xb) (mx_v sd) xb])) := e_37
          refine fw_inc (a := 0) (loc_q := [some (.ref 66), some (fI 1), some (fI fb), some (fI 1), some (fI 1)]) rfl rfl (Nat.le_of_ble_eq_true rfl) rfl ?_
          refine ik_Wk 3 (pc_q := 100) (loc_q := [some (.ref 66), some (fI 1), some (fI fb), some (fI 1), some (fI 1)]) (st_q := [fI 1, fI 1]) (h_q := h_37) (cl_q := 0) (sl_q := 0) rfl ?_
          refine fw_ic_ge rfl rfl (by decide +kernel) (by decide +kernel) (by decide +kernel) (by decide +kernel) (fun hc6 => ?_) (fun hc6 => absurd hc6 (by decide +kernel))
          have et : mx_tm kb (mi - fb) = 1 := by unfold mx_tm; (repeat' split) <;> omega
          have ez : (mx_sd (fun x => mx_w cn go ch s x) (pl - 1) kb pb fb mi xb sd) = (mx_pk (mx_w cn go ch s xb) (mx_v sd) xb, mx_d sd) := by
            unfold mx_sd
            rw [if_neg (by omega), if_pos (by omega)]
            rw [et]
            rw [mx_go_n (by omega)]
            rfl
          rw [ez]
          exact ik_Wret rfl rfl ⟨_, _, rfl, rfl, rfl, rfl, ⟨((mx_w cn go ch s xb).length : Int), gt'_36, gd'_36, rfl, g_37_66, g_37_71, g_37_77, m_36_77, g_37_78, m_36_78, fr_37⟩⟩
      · refine ik_Wk 1 (pc_q := 62) (loc_q := [some (.ref 66), some (fI 1), some (fI fb), none, none]) (st_q := [.ref 66]) (h_q := h) (cl_q := 0) (sl_q := 0) rfl ?_
        refine fw_gf rfl rfl h66 rfl ?_
        refine ik_Wk 2 (pc_q := 67) (loc_q := [some (.ref 66), some (fI 1), some (fI fb), none, none]) (st_q := [fI 1, fI 3, .ref 70]) (h_q := h) (cl_q := 0) (sl_q := 0) rfl ?_
        refine fw_mul rfl ?_
        refine fw_ial (z := 3) rfl h70 (by decide +kernel) (Nat.le_of_ble_eq_true rfl) (by decide +kernel) ?_
        refine ik_Wk 0 (pc_q := 69) (loc_q := [some (.ref 66), some (fI 1), some (fI fb), none, none]) (st_q := [fI kb]) (h_q := h) (cl_q := 0) (sl_q := 0) rfl ?_
        refine ik_Wk 1 (pc_q := 70) (loc_q := [some (.ref 66), some (fI 1), some (fI fb), none, none]) (st_q := [fI 1, fI kb]) (h_q := h) (cl_q := 0) (sl_q := 0) rfl ?_
        refine fw_ic_ne rfl rfl (by omega) (by omega) (by omega) (by omega) (fun hc7 => ?_) (fun hc7 => ?_)
        · refine ik_Wk 7 (pc_q := 100) (loc_q := [some (.ref 66), some (fI 1), some (fI fb), some (fI 2), some (fI 0)]) (st_q := [fI 2, fI 0]) (h_q := h) (cl_q := 0) (sl_q := 0) rfl ?_
          refine fw_ic_ge rfl rfl (by decide +kernel) (by decide +kernel) (by decide +kernel) (by decide +kernel) (fun hc8 => absurd hc8 (by decide +kernel)) (fun hc8 => ?_)
          refine ik_Wk 1 (pc_q := 104) (loc_q := [some (.ref 66), some (fI 1), some (fI fb), some (fI 2), some (fI 0)]) (st_q := [.ref 66]) (h_q := h) (cl_q := 0) (sl_q := 0) rfl ?_
          refine fw_gf rfl rfl h66 rfl ?_
          refine ik_Wk 1 (pc_q := 108) (loc_q := [some (.ref 66), some (fI 1), some (fI fb), some (fI 2), some (fI 0)]) (st_q := [fI 1, .ref 71]) (h_q := h) (cl_q := 0) (sl_q := 0) rfl ?_
          refine fw_ial (z := 1) rfl h71 (by decide +kernel) (Nat.le_of_ble_eq_true rfl) (by decide +kernel) ?_
          refine ik_Wk 0 (pc_q := 109) (loc_q := [some (.ref 66), some (fI 1), some (fI fb), some (fI 2), some (fI 0)]) (st_q := [fI xb]) (h_q := h) (cl_q := 0) (sl_q := 0) rfl ?_
          refine ik_Wk 1 (pc_q := 110) (loc_q := [some (.ref 66), some (fI 1), some (fI fb), some (fI 2), some (fI 0)]) (st_q := [.ref 66, fI xb]) (h_q := h) (cl_q := 0) (sl_q := 0) rfl ?_
          refine ik_Wc 130 1 0 [.ref 66] [fI xb] rfl rfl rfl (by decide +kernel) rfl rfl (fw_rec hl rfl h66 rfl (Nat.le_of_ble_eq_true rfl)) ?_
          refine ik_Wk 0 (pc_q := 0) (loc_q := [some (.ref 66)]) (st_q := []) (h_q := h) (cl_q := 0) (sl_q := 0) rfl ?_
          refine ik_Wk 1 (pc_q := 1) (loc_q := [some (.ref 66)]) (st_q := [.ref 66]) (h_q := h) (cl_q := 0) (sl_q := 0) rfl ?_
          refine fw_gf rfl rfl h66 rfl ?_
          refine ik_Wk 1 (pc_q := 5) (loc_q := [some (.ref 66)]) (st_q := [fI 1, fI pl]) (h_q := h) (cl_q := 0) (sl_q := 0) rfl ?_
          refine fw_sub rfl ?_
          refine ik_Wret rfl rfl ⟨_, _, rfl, rfl, ?_⟩
          refine ik_Wk 0 (pc_q := 113) (loc_q := [some (.ref 66), some (fI 1), some (fI fb), some (fI 2), some (fI 0)]) (st_q := [fI (pl - 1), fI xb]) (h_q := h) (cl_q := 0) (sl_q := 0) rfl ?_
          refine fw_ic_eq rfl rfl (by omega) (by omega) (by omega) (by omega) (fun hc9 => ?_) (fun hc9 => ?_)
          · have et : mx_tm kb (mi - fb) = 2 := by unfold mx_tm; (repeat' split) <;> omega
            have ez : (mx_sd (fun x => mx_w cn go ch s x) (pl - 1) kb pb fb mi xb sd) = (xb, sd) := by
              unfold mx_sd
              rw [if_neg (by omega), if_pos (by omega)]
              rw [et]
              exact mx_go_b (by omega)
            rw [ez]
            exact ik_Wret rfl rfl ⟨_, _, rfl, rfl, rfl, rfl, ⟨(f 24), gt, gd, rfl, h66, h71, h77, n77, h78, n78, (hfr_refl [66, 71, 77, 78] h)⟩⟩
          · refine ik_Wk 1 (pc_q := 117) (loc_q := [some (.ref 66), some (fI 1), some (fI fb), some (fI 2), some (fI 0)]) (st_q := [.ref 66]) (h_q := h) (cl_q := 0) (sl_q := 0) rfl ?_
            refine fw_gf rfl rfl h66 rfl ?_
            refine ik_Wk 3 (pc_q := 123) (loc_q := [some (.ref 66), some (fI 1), some (fI fb), some (fI 2), some (fI 0)]) (st_q := [.ref 66, .ref 66, fI 1, .ref 71]) (h_q := h) (cl_q := 0) (sl_q := 0) rfl ?_
            refine fw_gf rfl rfl h66 rfl ?_
            refine ik_Wk 1 (pc_q := 127) (loc_q := [some (.ref 66), some (fI 1), some (fI fb), some (fI 2), some (fI 0)]) (st_q := [fI 1, .ref 71, .ref 66, fI 1, .ref 71]) (h_q := h) (cl_q := 0) (sl_q := 0) rfl ?_
            refine fw_ial (z := 1) rfl h71 (by decide +kernel) (Nat.le_of_ble_eq_true rfl) (by decide +kernel) ?_
            refine ik_Wk 0 (pc_q := 128) (loc_q := [some (.ref 66), some (fI 1), some (fI fb), some (fI 2), some (fI 0)]) (st_q := [fI xb, .ref 66, fI 1, .ref 71]) (h_q := h) (cl_q := 0) (sl_q := 0) rfl ?_
            refine fw_call 195 2 0 [.ref 66, fI xb] [fI 1, .ref 71] rfl rfl rfl (Nat.le_of_ble_eq_true rfl) rfl rfl (fw_rec hl rfl h66 rfl (Nat.le_of_ble_eq_true rfl)) (cr_gone (p := xb) (f := fun j => ((pl :: 0 :: 0 :: 0 :: 0 :: 0 :: 0 :: mi :: 0 :: 0 :: f 10 :: f 11 :: f 12 :: f 13 :: f 14 :: f 15 :: f 16 :: f 17 :: 0 :: 0 :: 0 :: 0 :: 0 :: 0 :: f 24 :: 0 :: 0 :: 0 :: 0 :: 0 :: 0 :: 0 :: f 32 :: f 33 :: 0 :: 0 :: f 36 :: 0 :: 0 :: 0 :: 0 :: 0 :: 0 :: []) : List Int).getD j 0) (s := s) (cn := cn) (go := go) (ch := ch) (gt := gt) (gd := gd) (sd := sd) (by omega) (by omega) (by omega) (q5 _ (by omega) (by omega)) (q4 _ (by omega) (by omega)).2 (q4 _ (by omega) (by omega)).1 (by omega) (q6 _ (by omega) (by omega)) h66 h67 n67 h68 n68 h69 n69 h77 n77 h78 n78 hl) ?_
            rintro _ h_38 ⟨gt'_38, gd'_38, rfl, e_38_66, e_38_77, m_38_77, e_38_78, m_38_78, F_38⟩
            have k_38 : cL h_38 := F_38.1.trans hl
            have fr_38 := hfr_cb (hfr_refl [66, 71, 77, 78] h) F_38 rfl
            have g_38_67 := (hfr_g F_38 67 rfl).trans h67
            have g_38_68 := (hfr_g F_38 68 rfl).trans h68
            have g_38_69 := (hfr_g F_38 69 rfl).trans h69
            have g_38_70 := (hfr_g F_38 70 rfl).trans h70
            have g_38_71 := (hfr_g F_38 71 rfl).trans h71
            have g_38_66 : cE h_38 66 (.inr (10, (fI pl :: .ref 67 :: .ref 68 :: .ref 69 :: fI ((s : Nat) : Int) :: .ref 70 :: .ref 71 :: fI mi :: fI (mx_d sd) :: .ref 72 :: fI (f 10) :: fI (f 11) :: fI (f 12) :: fJ (f 13) :: fI (f 14) :: fI (f 15) :: fI (f 16) :: fI (f 17) :: .ref 73 :: .ref 74 :: .ref 75 :: .ref 76 :: .ref 77 :: .ref 78 :: fI ((mx_w cn go ch s xb).length : Int) :: .ref 79 :: .ref 80 :: .ref 81 :: .ref 82 :: .ref 83 :: .ref 84 :: .ref 85 :: fJ (f 32) :: fJ (f 33) :: .ref 86 :: .ref 87 :: fI (f 36) :: .ref 88 :: .ref 89 :: .ref 90 :: .ref 91 :: .ref 92 :: .ref 93 :: []))) := e_38_66
            have g_38_77 : cE h_38 77 (.inl (.int, fA gt'_38)) := e_38_77
            have g_38_78 : cE h_38 78 (.inl (.int, fA gd'_38)) := e_38_78
            refine ik_Wk 0 (pc_q := 131) (loc_q := [some (.ref 66), some (fI 1), some (fI fb), some (fI 2), some (fI 0)]) (st_q := [fI (mx_pk (mx_w cn go ch s xb) (mx_v sd) xb), fI 1, .ref 71]) (h_q := h_38) (cl_q := 0) (sl_q := 0) rfl ?_
            have hp38 := mx_pk_in (f := xb) (q6 xb (by omega) (by omega)) (mx_v_b sd).1 (mx_v_b sd).2
            have hz38 := mx_d_b sd
            refine fx_ias (z := 1) rfl g_38_71 (by decide +kernel) (Nat.le_of_ble_eq_true rfl) (by decide +kernel) ?_
            intro h_39 e_39 f_39 l_39
            have k_39 : cL h_39 := l_39.trans k_38
            have fr_39 := hfr_wb fr_38 f_39 l_39 rfl
            clear l_39
            have g_39_66 := (f_39 66 (Nat.ne_of_beq_eq_false rfl)).trans g_38_66
            have g_39_67 := (f_39 67 (Nat.ne_of_beq_eq_false rfl)).trans g_38_67
            have g_39_68 := (f_39 68 (Nat.ne_of_beq_eq_false rfl)).trans g_38_68
            have g_39_69 := (f_39 69 (Nat.ne_of_beq_eq_false rfl)).trans g_38_69
            have g_39_70 := (f_39 70 (Nat.ne_of_beq_eq_false rfl)).trans g_38_70
            have g_39_77 := (f_39 77 (Nat.ne_of_beq_eq_false rfl)).trans g_38_77
            have g_39_78 := (f_39 78 (Nat.ne_of_beq_eq_false rfl)).trans g_38_78
            have g_39_71 : cE h_39 71 (.inl (.int, fA [xa, mx_pk (mx_w cn go ch s xb) (mx_v sd) xb])) := e_39
            refine fw_inc (a := 0) (loc_q := [some (.ref 66), some (fI 1), some (fI fb), some (fI 2), some (fI 1)]) rfl rfl (Nat.le_of_ble_eq_true rfl) rfl ?_
            refine ik_Wk 3 (pc_q := 100) (loc_q := [some (.ref 66), some (fI 1), some (fI fb), some (fI 2), some (fI 1)]) (st_q := [fI 2, fI 1]) (h_q := h_39) (cl_q := 0) (sl_q := 0) rfl ?_
            refine fw_ic_ge rfl rfl (by decide +kernel) (by decide +kernel) (by decide +kernel) (by decide +kernel) (fun hc10 => absurd hc10 (by decide +kernel)) (fun hc10 => ?_)
            refine ik_Wk 1 (pc_q := 104) (loc_q := [some (.ref 66), some (fI 1), some (fI fb), some (fI 2), some (fI 1)]) (st_q := [.ref 66]) (h_q := h_39) (cl_q := 0) (sl_q := 0) rfl ?_
            refine fw_gf rfl rfl g_39_66 rfl ?_
            refine ik_Wk 1 (pc_q := 108) (loc_q := [some (.ref 66), some (fI 1), some (fI fb), some (fI 2), some (fI 1)]) (st_q := [fI 1, .ref 71]) (h_q := h_39) (cl_q := 0) (sl_q := 0) rfl ?_
            refine fw_ial (z := 1) rfl g_39_71 (by decide +kernel) (Nat.le_of_ble_eq_true rfl) (by decide +kernel) ?_
            refine ik_Wk 0 (pc_q := 109) (loc_q := [some (.ref 66), some (fI 1), some (fI fb), some (fI 2), some (fI 1)]) (st_q := [fI (mx_pk (mx_w cn go ch s xb) (mx_v sd) xb)]) (h_q := h_39) (cl_q := 0) (sl_q := 0) rfl ?_
            refine ik_Wk 1 (pc_q := 110) (loc_q := [some (.ref 66), some (fI 1), some (fI fb), some (fI 2), some (fI 1)]) (st_q := [.ref 66, fI (mx_pk (mx_w cn go ch s xb) (mx_v sd) xb)]) (h_q := h_39) (cl_q := 0) (sl_q := 0) rfl ?_
            refine ik_Wc 130 1 0 [.ref 66] [fI (mx_pk (mx_w cn go ch s xb) (mx_v sd) xb)] rfl rfl rfl (by decide +kernel) rfl rfl (fw_rec k_39 rfl g_39_66 rfl (Nat.le_of_ble_eq_true rfl)) ?_
            refine ik_Wk 0 (pc_q := 0) (loc_q := [some (.ref 66)]) (st_q := []) (h_q := h_39) (cl_q := 0) (sl_q := 0) rfl ?_
            refine ik_Wk 1 (pc_q := 1) (loc_q := [some (.ref 66)]) (st_q := [.ref 66]) (h_q := h_39) (cl_q := 0) (sl_q := 0) rfl ?_
            refine fw_gf rfl rfl g_39_66 rfl ?_
            refine ik_Wk 1 (pc_q := 5) (loc_q := [some (.ref 66)]) (st_q := [fI 1, fI pl]) (h_q := h_39) (cl_q := 0) (sl_q := 0) rfl ?_
            refine fw_sub rfl ?_
            refine ik_Wret rfl rfl ⟨_, _, rfl, rfl, ?_⟩
            refine ik_Wk 0 (pc_q := 113) (loc_q := [some (.ref 66), some (fI 1), some (fI fb), some (fI 2), some (fI 1)]) (st_q := [fI (pl - 1), fI (mx_pk (mx_w cn go ch s xb) (mx_v sd) xb)]) (h_q := h_39) (cl_q := 0) (sl_q := 0) rfl ?_
            refine fw_ic_eq rfl rfl (by omega) (by omega) (by omega) (by omega) (fun hc11 => ?_) (fun hc11 => ?_)
            · have et : mx_tm kb (mi - fb) = 2 := by unfold mx_tm; (repeat' split) <;> omega
              have ez : (mx_sd (fun x => mx_w cn go ch s x) (pl - 1) kb pb fb mi xb sd) = (mx_pk (mx_w cn go ch s xb) (mx_v sd) xb, mx_d sd) := by
                unfold mx_sd
                rw [if_neg (by omega), if_pos (by omega)]
                rw [et]
                rw [mx_go_n (by omega)]
                exact mx_go_b (by omega)
              rw [ez]
              exact ik_Wret rfl rfl ⟨_, _, rfl, rfl, rfl, rfl, ⟨((mx_w cn go ch s xb).length : Int), gt'_38, gd'_38, rfl, g_39_66, g_39_71, g_39_77, m_38_77, g_39_78, m_38_78, fr_39⟩⟩
            · refine ik_Wk 1 (pc_q := 117) (loc_q := [some (.ref 66), some (fI 1), some (fI fb), some (fI 2), some (fI 1)]) (st_q := [.ref 66]) (h_q := h_39) (cl_q := 0) (sl_q := 0) rfl ?_
              refine fw_gf rfl rfl g_39_66 rfl ?_
              refine ik_Wk 3 (pc_q := 123) (loc_q := [some (.ref 66), some (fI 1), some (fI fb), some (fI 2), some (fI 1)]) (st_q := [.ref 66, .ref 66, fI 1, .ref 71]) (h_q := h_39) (cl_q := 0) (sl_q := 0) rfl ?_
              refine fw_gf rfl rfl g_39_66 rfl ?_
              refine ik_Wk 1 (pc_q := 127) (loc_q := [some (.ref 66), some (fI 1), some (fI fb), some (fI 2), some (fI 1)]) (st_q := [fI 1, .ref 71, .ref 66, fI 1, .ref 71]) (h_q := h_39) (cl_q := 0) (sl_q := 0) rfl ?_
              refine fw_ial (z := 1) rfl g_39_71 (by decide +kernel) (Nat.le_of_ble_eq_true rfl) (by decide +kernel) ?_
              refine ik_Wk 0 (pc_q := 128) (loc_q := [some (.ref 66), some (fI 1), some (fI fb), some (fI 2), some (fI 1)]) (st_q := [fI (mx_pk (mx_w cn go ch s xb) (mx_v sd) xb), .ref 66, fI 1, .ref 71]) (h_q := h_39) (cl_q := 0) (sl_q := 0) rfl ?_
              refine fw_call 195 2 0 [.ref 66, fI (mx_pk (mx_w cn go ch s xb) (mx_v sd) xb)] [fI 1, .ref 71] rfl rfl rfl (Nat.le_of_ble_eq_true rfl) rfl rfl (fw_rec k_39 rfl g_39_66 rfl (Nat.le_of_ble_eq_true rfl)) (cr_gone (p := mx_pk (mx_w cn go ch s xb) (mx_v sd) xb) (f := fun j => ((pl :: 0 :: 0 :: 0 :: 0 :: 0 :: 0 :: mi :: 0 :: 0 :: ((f 10)) :: ((f 11)) :: ((f 12)) :: ((f 13)) :: ((f 14)) :: ((f 15)) :: ((f 16)) :: ((f 17)) :: 0 :: 0 :: 0 :: 0 :: 0 :: 0 :: (((mx_w cn go ch s xb).length : Int)) :: 0 :: 0 :: 0 :: 0 :: 0 :: 0 :: 0 :: ((f 32)) :: ((f 33)) :: 0 :: 0 :: ((f 36)) :: 0 :: 0 :: 0 :: 0 :: 0 :: 0 :: []) : List Int).getD j 0) (s := s) (cn := cn) (go := go) (ch := ch) (gt := gt'_38) (gd := gd'_38) (sd := mx_d sd) (by omega) (by omega) (by omega) (q5 _ (by omega) (by omega)) (q4 _ (by omega) (by omega)).2 (q4 _ (by omega) (by omega)).1 (by omega) (q6 _ (by omega) (by omega)) g_39_66 g_39_67 n67 g_39_68 n68 g_39_69 n69 g_39_77 m_38_77 g_39_78 m_38_78 k_39) ?_
              rintro _ h_40 ⟨gt'_40, gd'_40, rfl, e_40_66, e_40_77, m_40_77, e_40_78, m_40_78, F_40⟩
              have k_40 : cL h_40 := F_40.1.trans k_39
              have fr_40 := hfr_cb fr_39 F_40 rfl
              have g_40_67 := (hfr_g F_40 67 rfl).trans g_39_67
              have g_40_68 := (hfr_g F_40 68 rfl).trans g_39_68
              have g_40_69 := (hfr_g F_40 69 rfl).trans g_39_69
              have g_40_70 := (hfr_g F_40 70 rfl).trans g_39_70
              have g_40_71 := (hfr_g F_40 71 rfl).trans g_39_71
              have g_40_66 : cE h_40 66 (.inr (10, (fI pl :: .ref 67 :: .ref 68 :: .ref 69 :: fI ((s : Nat) : Int) :: .ref 70 :: .ref 71 :: fI mi :: fI (mx_d (mx_d sd)) :: .ref 72 :: fI (f 10) :: fI (f 11) :: fI (f 12) :: fJ (f 13) :: fI (f 14) :: fI (f 15) :: fI (f 16) :: fI (f 17) :: .ref 73 :: .ref 74 :: .ref 75 :: .ref 76 :: .ref 77 :: .ref 78 :: (fI ((mx_w cn go ch s (mx_pk (mx_w cn go ch s xb) (mx_v sd) xb)).length : Int)) :: .ref 79 :: .ref 80 :: .ref 81 :: .ref 82 :: .ref 83 :: .ref 84 :: .ref 85 :: fJ (f 32) :: fJ (f 33) :: .ref 86 :: .ref 87 :: fI (f 36) :: .ref 88 :: .ref 89 :: .ref 90 :: .ref 91 :: .ref 92 :: .ref 93 :: []))) := e_40_66
              have g_40_77 : cE h_40 77 (.inl (.int, fA gt'_40)) := e_40_77
              have g_40_78 : cE h_40 78 (.inl (.int, fA gd'_40)) := e_40_78
              refine ik_Wk 0 (pc_q := 131) (loc_q := [some (.ref 66), some (fI 1), some (fI fb), some (fI 2), some (fI 1)]) (st_q := [fI (mx_pk (mx_w cn go ch s (mx_pk (mx_w cn go ch s xb) (mx_v sd) xb)) (mx_v (mx_d sd)) (mx_pk (mx_w cn go ch s xb) (mx_v sd) xb)), fI 1, .ref 71]) (h_q := h_40) (cl_q := 0) (sl_q := 0) rfl ?_
              have hp40 := mx_pk_in (f := mx_pk (mx_w cn go ch s xb) (mx_v sd) xb) (q6 (mx_pk (mx_w cn go ch s xb) (mx_v sd) xb) (by omega) (by omega)) (mx_v_b (mx_d sd)).1 (mx_v_b (mx_d sd)).2
              have hz40 := mx_d_b (mx_d sd)
              refine fx_ias (z := 1) rfl g_40_71 (by decide +kernel) (Nat.le_of_ble_eq_true rfl) (by decide +kernel) ?_
              intro h_41 e_41 f_41 l_41
              have k_41 : cL h_41 := l_41.trans k_40
              have fr_41 := hfr_wb fr_40 f_41 l_41 rfl
              clear l_41
              have g_41_66 := (f_41 66 (Nat.ne_of_beq_eq_false rfl)).trans g_40_66
              have g_41_67 := (f_41 67 (Nat.ne_of_beq_eq_false rfl)).trans g_40_67
              have g_41_68 := (f_41 68 (Nat.ne_of_beq_eq_false rfl)).trans g_40_68
              have g_41_69 := (f_41 69 (Nat.ne_of_beq_eq_false rfl)).trans g_40_69
              have g_41_70 := (f_41 70 (Nat.ne_of_beq_eq_false rfl)).trans g_40_70
              have g_41_77 := (f_41 77 (Nat.ne_of_beq_eq_false rfl)).trans g_40_77
              have g_41_78 := (f_41 78 (Nat.ne_of_beq_eq_false rfl)).trans g_40_78
              have g_41_71 : cE h_41 71 (.inl (.int, fA [xa, mx_pk (mx_w cn go ch s (mx_pk (mx_w cn go ch s xb) (mx_v sd) xb)) (mx_v (mx_d sd)) (mx_pk (mx_w cn go ch s xb) (mx_v sd) xb)])) := e_41
              refine fw_inc (a := 1) (loc_q := [some (.ref 66), some (fI 1), some (fI fb), some (fI 2), some (fI 2)]) rfl rfl (Nat.le_of_ble_eq_true rfl) rfl ?_
              refine ik_Wk 3 (pc_q := 100) (loc_q := [some (.ref 66), some (fI 1), some (fI fb), some (fI 2), some (fI 2)]) (st_q := [fI 2, fI 2]) (h_q := h_41) (cl_q := 0) (sl_q := 0) rfl ?_
              refine fw_ic_ge rfl rfl (by decide +kernel) (by decide +kernel) (by decide +kernel) (by decide +kernel) (fun hc12 => ?_) (fun hc12 => absurd hc12 (by decide +kernel))
              have et : mx_tm kb (mi - fb) = 2 := by unfold mx_tm; (repeat' split) <;> omega
              have ez : (mx_sd (fun x => mx_w cn go ch s x) (pl - 1) kb pb fb mi xb sd) = (mx_pk (mx_w cn go ch s (mx_pk (mx_w cn go ch s xb) (mx_v sd) xb)) (mx_v (mx_d sd)) (mx_pk (mx_w cn go ch s xb) (mx_v sd) xb), mx_d (mx_d sd)) := by
                unfold mx_sd
                rw [if_neg (by omega), if_pos (by omega)]
                rw [et]
                rw [mx_go_n (by omega)]
                rw [mx_go_n (by omega)]
                rfl
              rw [ez]
              exact ik_Wret rfl rfl ⟨_, _, rfl, rfl, rfl, rfl, ⟨((mx_w cn go ch s (mx_pk (mx_w cn go ch s xb) (mx_v sd) xb)).length : Int), gt'_40, gd'_40, rfl, g_41_66, g_41_71, g_41_77, m_40_77, g_41_78, m_40_78, fr_41⟩⟩
        · refine ik_Wk 1 (pc_q := 78) (loc_q := [some (.ref 66), some (fI 1), some (fI fb), none, none]) (st_q := [.ref 66]) (h_q := h) (cl_q := 0) (sl_q := 0) rfl ?_
          refine fw_gf rfl rfl h66 rfl ?_
          refine ik_Wk 1 (pc_q := 82) (loc_q := [some (.ref 66), some (fI 1), some (fI fb), none, none]) (st_q := [fI fb, fI mi]) (h_q := h) (cl_q := 0) (sl_q := 0) rfl ?_
          refine fw_sub rfl ?_
          refine ik_Wk 1 (pc_q := 84) (loc_q := [some (.ref 66), some (fI 1), some (fI fb), none, none]) (st_q := [fI 2, fI (mi - fb)]) (h_q := h) (cl_q := 0) (sl_q := 0) rfl ?_
          refine fx_irem rfl (by omega) (by omega) (by omega) (by omega) ?_
          refine fw_if_ne rfl rfl (by omega) (by omega) (fun hc13 => ?_) (fun hc13 => ?_)
          · refine ik_Wk 7 (pc_q := 100) (loc_q := [some (.ref 66), some (fI 1), some (fI fb), some (fI 1), some (fI 0)]) (st_q := [fI 1, fI 0]) (h_q := h) (cl_q := 0) (sl_q := 0) rfl ?_
            refine fw_ic_ge rfl rfl (by decide +kernel) (by decide +kernel) (by decide +kernel) (by decide +kernel) (fun hc14 => absurd hc14 (by decide +kernel)) (fun hc14 => ?_)
            refine ik_Wk 1 (pc_q := 104) (loc_q := [some (.ref 66), some (fI 1), some (fI fb), some (fI 1), some (fI 0)]) (st_q := [.ref 66]) (h_q := h) (cl_q := 0) (sl_q := 0) rfl ?_
            refine fw_gf rfl rfl h66 rfl ?_
            refine ik_Wk 1 (pc_q := 108) (loc_q := [some (.ref 66), some (fI 1), some (fI fb), some (fI 1), some (fI 0)]) (st_q := [fI 1, .ref 71]) (h_q := h) (cl_q := 0) (sl_q := 0) rfl ?_
            refine fw_ial (z := 1) rfl h71 (by decide +kernel) (Nat.le_of_ble_eq_true rfl) (by decide +kernel) ?_
            refine ik_Wk 0 (pc_q := 109) (loc_q := [some (.ref 66), some (fI 1), some (fI fb), some (fI 1), some (fI 0)]) (st_q := [fI xb]) (h_q := h) (cl_q := 0) (sl_q := 0) rfl ?_
            refine ik_Wk 1 (pc_q := 110) (loc_q := [some (.ref 66), some (fI 1), some (fI fb), some (fI 1), some (fI 0)]) (st_q := [.ref 66, fI xb]) (h_q := h) (cl_q := 0) (sl_q := 0) rfl ?_
            refine ik_Wc 130 1 0 [.ref 66] [fI xb] rfl rfl rfl (by decide +kernel) rfl rfl (fw_rec hl rfl h66 rfl (Nat.le_of_ble_eq_true rfl)) ?_
            refine ik_Wk 0 (pc_q := 0) (loc_q := [some (.ref 66)]) (st_q := []) (h_q := h) (cl_q := 0) (sl_q := 0) rfl ?_
            refine ik_Wk 1 (pc_q := 1) (loc_q := [some (.ref 66)]) (st_q := [.ref 66]) (h_q := h) (cl_q := 0) (sl_q := 0) rfl ?_
            refine fw_gf rfl rfl h66 rfl ?_
            refine ik_Wk 1 (pc_q := 5) (loc_q := [some (.ref 66)]) (st_q := [fI 1, fI pl]) (h_q := h) (cl_q := 0) (sl_q := 0) rfl ?_
            refine fw_sub rfl ?_
            refine ik_Wret rfl rfl ⟨_, _, rfl, rfl, ?_⟩
            refine ik_Wk 0 (pc_q := 113) (loc_q := [some (.ref 66), some (fI 1), some (fI fb), some (fI 1), some (fI 0)]) (st_q := [fI (pl - 1), fI xb]) (h_q := h) (cl_q := 0) (sl_q := 0) rfl ?_
            refine fw_ic_eq rfl rfl (by omega) (by omega) (by omega) (by omega) (fun hc15 => ?_) (fun hc15 => ?_)
            · have et : mx_tm kb (mi - fb) = 1 := by unfold mx_tm; (repeat' split) <;> omega
              have ez : (mx_sd (fun x => mx_w cn go ch s x) (pl - 1) kb pb fb mi xb sd) = (xb, sd) := by
                unfold mx_sd
                rw [if_neg (by omega), if_pos (by omega)]
                rw [et]
                exact mx_go_b (by omega)
              rw [ez]
              exact ik_Wret rfl rfl ⟨_, _, rfl, rfl, rfl, rfl, ⟨(f 24), gt, gd, rfl, h66, h71, h77, n77, h78, n78, (hfr_refl [66, 71, 77, 78] h)⟩⟩
            · refine ik_Wk 1 (pc_q := 117) (loc_q := [some (.ref 66), some (fI 1), some (fI fb), some (fI 1), some (fI 0)]) (st_q := [.ref 66]) (h_q := h) (cl_q := 0) (sl_q := 0) rfl ?_
              refine fw_gf rfl rfl h66 rfl ?_
              refine ik_Wk 3 (pc_q := 123) (loc_q := [some (.ref 66), some (fI 1), some (fI fb), some (fI 1), some (fI 0)]) (st_q := [.ref 66, .ref 66, fI 1, .ref 71]) (h_q := h) (cl_q := 0) (sl_q := 0) rfl ?_
              refine fw_gf rfl rfl h66 rfl ?_
              refine ik_Wk 1 (pc_q := 127) (loc_q := [some (.ref 66), some (fI 1), some (fI fb), some (fI 1), some (fI 0)]) (st_q := [fI 1, .ref 71, .ref 66, fI 1, .ref 71]) (h_q := h) (cl_q := 0) (sl_q := 0) rfl ?_
              refine fw_ial (z := 1) rfl h71 (by decide +kernel) (Nat.le_of_ble_eq_true rfl) (by decide +kernel) ?_
              refine ik_Wk 0 (pc_q := 128) (loc_q := [some (.ref 66), some (fI 1), some (fI fb), some (fI 1), some (fI 0)]) (st_q := [fI xb, .ref 66, fI 1, .ref 71]) (h_q := h) (cl_q := 0) (sl_q := 0) rfl ?_
              refine fw_call 195 2 0 [.ref 66, fI xb] [fI 1, .ref 71] rfl rfl rfl (Nat.le_of_ble_eq_true rfl) rfl rfl (fw_rec hl rfl h66 rfl (Nat.le_of_ble_eq_true rfl)) (cr_gone (p := xb) (f := fun j => ((pl :: 0 :: 0 :: 0 :: 0 :: 0 :: 0 :: mi :: 0 :: 0 :: f 10 :: f 11 :: f 12 :: f 13 :: f 14 :: f 15 :: f 16 :: f 17 :: 0 :: 0 :: 0 :: 0 :: 0 :: 0 :: f 24 :: 0 :: 0 :: 0 :: 0 :: 0 :: 0 :: 0 :: f 32 :: f 33 :: 0 :: 0 :: f 36 :: 0 :: 0 :: 0 :: 0 :: 0 :: 0 :: []) : List Int).getD j 0) (s := s) (cn := cn) (go := go) (ch := ch) (gt := gt) (gd := gd) (sd := sd) (by omega) (by omega) (by omega) (q5 _ (by omega) (by omega)) (q4 _ (by omega) (by omega)).2 (q4 _ (by omega) (by omega)).1 (by omega) (q6 _ (by omega) (by omega)) h66 h67 n67 h68 n68 h69 n69 h77 n77 h78 n78 hl) ?_
              rintro _ h_42 ⟨gt'_42, gd'_42, rfl, e_42_66, e_42_77, m_42_77, e_42_78, m_42_78, F_42⟩
              have k_42 : cL h_42 := F_42.1.trans hl
              have fr_42 := hfr_cb (hfr_refl [66, 71, 77, 78] h) F_42 rfl
              have g_42_67 := (hfr_g F_42 67 rfl).trans h67
              have g_42_68 := (hfr_g F_42 68 rfl).trans h68
              have g_42_69 := (hfr_g F_42 69 rfl).trans h69
              have g_42_70 := (hfr_g F_42 70 rfl).trans h70
              have g_42_71 := (hfr_g F_42 71 rfl).trans h71
              have g_42_66 : cE h_42 66 (.inr (10, (fI pl :: .ref 67 :: .ref 68 :: .ref 69 :: fI ((s : Nat) : Int) :: .ref 70 :: .ref 71 :: fI mi :: fI (mx_d sd) :: .ref 72 :: fI (f 10) :: fI (f 11) :: fI (f 12) :: fJ (f 13) :: fI (f 14) :: fI (f 15) :: fI (f 16) :: fI (f 17) :: .ref 73 :: .ref 74 :: .ref 75 :: .ref 76 :: .ref 77 :: .ref 78 :: fI ((mx_w cn go ch s xb).length : Int) :: .ref 79 :: .ref 80 :: .ref 81 :: .ref 82 :: .ref 83 :: .ref 84 :: .ref 85 :: fJ (f 32) :: fJ (f 33) :: .ref 86 :: .ref 87 :: fI (f 36) :: .ref 88 :: .ref 89 :: .ref 90 :: .ref 91 :: .ref 92 :: .ref 93 :: []))) := e_42_66
              have g_42_77 : cE h_42 77 (.inl (.int, fA gt'_42)) := e_42_77
              have g_42_78 : cE h_42 78 (.inl (.int, fA gd'_42)) := e_42_78
              refine ik_Wk 0 (pc_q := 131) (loc_q := [some (.ref 66), some (fI 1), some (fI fb), some (fI 1), some (fI 0)]) (st_q := [fI (mx_pk (mx_w cn go ch s xb) (mx_v sd) xb), fI 1, .ref 71]) (h_q := h_42) (cl_q := 0) (sl_q := 0) rfl ?_
              have hp42 := mx_pk_in (f := xb) (q6 xb (by omega) (by omega)) (mx_v_b sd).1 (mx_v_b sd).2
              have hz42 := mx_d_b sd
              refine fx_ias (z := 1) rfl g_42_71 (by decide +kernel) (Nat.le_of_ble_eq_true rfl) (by decide +kernel) ?_
              intro h_43 e_43 f_43 l_43
              have k_43 : cL h_43 := l_43.trans k_42
              have fr_43 := hfr_wb fr_42 f_43 l_43 rfl
              clear l_43
              have g_43_66 := (f_43 66 (Nat.ne_of_beq_eq_false rfl)).trans g_42_66
              have g_43_67 := (f_43 67 (Nat.ne_of_beq_eq_false rfl)).trans g_42_67
              have g_43_68 := (f_43 68 (Nat.ne_of_beq_eq_false rfl)).trans g_42_68
              have g_43_69 := (f_43 69 (Nat.ne_of_beq_eq_false rfl)).trans g_42_69
              have g_43_70 := (f_43 70 (Nat.ne_of_beq_eq_false rfl)).trans g_42_70
              have g_43_77 := (f_43 77 (Nat.ne_of_beq_eq_false rfl)).trans g_42_77
              have g_43_78 := (f_43 78 (Nat.ne_of_beq_eq_false rfl)).trans g_42_78
              have g_43_71 : cE h_43 71 (.inl (.int, fA [xa, mx_pk (mx_w cn go ch s xb) (mx_v sd) xb])) := e_43
              refine fw_inc (a := 0) (loc_q := [some (.ref 66), some (fI 1), some (fI fb), some (fI 1), some (fI 1)]) rfl rfl (Nat.le_of_ble_eq_true rfl) rfl ?_
              refine ik_Wk 3 (pc_q := 100) (loc_q := [some (.ref 66), some (fI 1), some (fI fb), some (fI 1), some (fI 1)]) (st_q := [fI 1, fI 1]) (h_q := h_43) (cl_q := 0) (sl_q := 0) rfl ?_
              refine fw_ic_ge rfl rfl (by decide +kernel) (by decide +kernel) (by decide +kernel) (by decide +kernel) (fun hc16 => ?_) (fun hc16 => absurd hc16 (by decide +kernel))
              have et : mx_tm kb (mi - fb) = 1 := by unfold mx_tm; (repeat' split) <;> omega
              have ez : (mx_sd (fun x => mx_w cn go ch s x) (pl - 1) kb pb fb mi xb sd) = (mx_pk (mx_w cn go ch s xb) (mx_v sd) xb, mx_d sd) := by
                unfold mx_sd
                rw [if_neg (by omega), if_pos (by omega)]
                rw [et]
                rw [mx_go_n (by omega)]
                rfl
              rw [ez]
              exact ik_Wret rfl rfl ⟨_, _, rfl, rfl, rfl, rfl, ⟨((mx_w cn go ch s xb).length : Int), gt'_42, gd'_42, rfl, g_43_66, g_43_71, g_43_77, m_42_77, g_43_78, m_42_78, fr_43⟩⟩
          · refine ik_Wk 6 (pc_q := 100) (loc_q := [some (.ref 66), some (fI 1), some (fI fb), some (fI 0), some (fI 0)]) (st_q := [fI 0, fI 0]) (h_q := h) (cl_q := 0) (sl_q := 0) rfl ?_
            refine fw_ic_ge rfl rfl (by decide +kernel) (by decide +kernel) (by decide +kernel) (by decide +kernel) (fun hc17 => ?_) (fun hc17 => absurd hc17 (by decide +kernel))
            have et : mx_tm kb (mi - fb) = 0 := by unfold mx_tm; (repeat' split) <;> omega
            have ez : (mx_sd (fun x => mx_w cn go ch s x) (pl - 1) kb pb fb mi xb sd) = (xb, sd) := by
              unfold mx_sd
              rw [if_neg (by omega), if_pos (by omega)]
              rw [et]
              rfl
            rw [ez]
            exact ik_Wret rfl rfl ⟨_, _, rfl, rfl, rfl, rfl, ⟨(f 24), gt, gd, rfl, h66, h71, h77, n77, h78, n78, (hfr_refl [66, 71, 77, 78] h)⟩⟩

theorem cs_pass0 {h : List ik_E} {pl : Int} {mi : Int} {sd : Int} {ka : Int} {pa : Int} {fa : Int} {kb : Int} {pb : Int} {fb : Int} {xa : Int} {xb : Int} {s : Nat} {cn : List Int} {go : List Int} {ch : List Int} {lo : Int} {wg : List Int} {wc : List Int} {we : List Int} (q0 : 2 ≤ pl ∧ pl ≤ 12) (q1 : s < 4096) (q2 : 0 ≤ sd ∧ sd < 2147483648) (q3 : 0 ≤ mi ∧ mi < 2000000000) (q4 : ∀ x : Int, (0 : Int) ≤ x → x < pl - 1 → mx_wy wg wc we x (mx_w cn go ch s x)) (q5 : ∀ x : Int, (0 : Int) ≤ x → x < pl - 1 → mx_ok pl (mx_w cn go ch s x)) (q6 : (0 : Int) ≤ ka ∧ ka ≤ (2 : Int)) (q7 : (0 : Int) ≤ fa ∧ fa ≤ (30 : Int)) (q8 : fa < mi → (0 : Int) ≤ xa ∧ xa < pl) (h7 : cE h 7 (.inr (0, [fI pl, fI ((s : Nat) : Int), fI lo, .ref 8, .ref 9, .ref 10, .ref 11, .ref 12, .ref 13]))) (h11 : cE h 11 (.inl (.int, fA wg))) (n11 : wg.length = (60 : Nat)) (h12 : cE h 12 (.inl (.int, fA wc))) (n12 : wc.length = (60 : Nat)) (h13 : cE h 13 (.inl (.int, fA we))) (n13 : we.length = (12 : Nat)) (h14 : cE h 14 (.inr (1, [.ref 7, .ref 15, .ref 16, fI mi, fJ sd]))) (h15 : cE h 15 (.inl (.int, fA [ka, pa, fa, kb, pb, fb]))) (h16 : cE h 16 (.inl (.int, fA [xa, xb]))) (hl : h.length = (94 : Nat)) : ik_F 26 [.ref 14, fI 0] h (fun rv h_q => rv = [] ∧ cE h_q 14 (.inr (1, [.ref 7, .ref 15, .ref 16, fI mi, fJ ((mx_sd (fun x => mx_w cn go ch s x) (pl - 1) ka pa fa mi xa sd).2)])) ∧ cE h_q 16 (.inl (.int, fA [(mx_sd (fun x => mx_w cn go ch s x) (pl - 1) ka pa fa mi xa sd).1, xb])) ∧ hfr [14, 16] h h_q) := by
  refine ik_Wk 1 (pc_q := 1) (loc_q := [some (.ref 14), some (fI 0), none, none, none]) (st_q := [.ref 14]) (h_q := h) (cl_q := 0) (sl_q := 0) rfl ?_
  refine fw_gf rfl rfl h14 rfl ?_
  refine ik_Wk 1 (pc_q := 5) (loc_q := [some (.ref 14), some (fI 0), none, none, none]) (st_q := [.ref 14, fI mi]) (h_q := h) (cl_q := 0) (sl_q := 0) rfl ?_
  refine fw_gf rfl rfl h14 rfl ?_
  refine ik_Wk 2 (pc_q := 10) (loc_q := [some (.ref 14), some (fI 0), none, none, none]) (st_q := [fI 3, fI 0, .ref 15, fI mi]) (h_q := h) (cl_q := 0) (sl_q := 0) rfl ?_
  refine fw_mul rfl ?_
  refine ik_Wk 1 (pc_q := 12) (loc_q := [some (.ref 14), some (fI 0), none, none, none]) (st_q := [fI 2, fI 0, .ref 15, fI mi]) (h_q := h) (cl_q := 0) (sl_q := 0) rfl ?_
  refine fw_add rfl ?_
  refine fw_ial (z := 2) rfl h15 (by decide +kernel) (Nat.le_of_ble_eq_true rfl) (by decide +kernel) ?_
  refine ik_Wk 0 (pc_q := 14) (loc_q := [some (.ref 14), some (fI 0), none, none, none]) (st_q := [fI fa, fI mi]) (h_q := h) (cl_q := 0) (sl_q := 0) rfl ?_
  refine fw_sub rfl ?_
  refine ik_Wk 2 (pc_q := 17) (loc_q := [some (.ref 14), some (fI 0), some (fI (mi - fa)), none, none]) (st_q := [fI (mi - fa)]) (h_q := h) (cl_q := 0) (sl_q := 0) rfl ?_
  refine fw_if_ne rfl rfl (by omega) (by omega) (fun hc1 => ?_) (fun hc1 => ?_)
  · refine ik_Wk 1 (pc_q := 21) (loc_q := [some (.ref 14), some (fI 0), some (fI (mi - fa)), none, none]) (st_q := [.ref 14]) (h_q := h) (cl_q := 0) (sl_q := 0) rfl ?_
    refine fw_gf rfl rfl h14 rfl ?_
    refine ik_Wk 2 (pc_q := 26) (loc_q := [some (.ref 14), some (fI 0), some (fI (mi - fa)), none, none]) (st_q := [.ref 14, fI 0, .ref 16]) (h_q := h) (cl_q := 0) (sl_q := 0) rfl ?_
    refine fw_gf rfl rfl h14 rfl ?_
    refine ik_Wk 2 (pc_q := 31) (loc_q := [some (.ref 14), some (fI 0), some (fI (mi - fa)), none, none]) (st_q := [fI 3, fI 0, .ref 15, fI 0, .ref 16]) (h_q := h) (cl_q := 0) (sl_q := 0) rfl ?_
    refine fw_mul rfl ?_
    refine ik_Wk 1 (pc_q := 33) (loc_q := [some (.ref 14), some (fI 0), some (fI (mi - fa)), none, none]) (st_q := [fI 1, fI 0, .ref 15, fI 0, .ref 16]) (h_q := h) (cl_q := 0) (sl_q := 0) rfl ?_
    refine fw_add rfl ?_
    refine fw_ial (z := 1) rfl h15 (by decide +kernel) (Nat.le_of_ble_eq_true rfl) (by decide +kernel) ?_
    refine ik_Wk 0 (pc_q := 35) (loc_q := [some (.ref 14), some (fI 0), some (fI (mi - fa)), none, none]) (st_q := [fI pa, fI 0, .ref 16]) (h_q := h) (cl_q := 0) (sl_q := 0) rfl ?_
    refine fx_ias (z := 0) rfl h16 (by decide +kernel) (Nat.le_of_ble_eq_true rfl) (by decide +kernel) ?_
    intro h_44 e_44 f_44 l_44
    have k_44 : cL h_44 := l_44.trans hl
    have fr_44 := hfr_wb (hfr_refl [14, 16] h) f_44 l_44 rfl
    clear l_44
    have g_44_7 := (f_44 7 (Nat.ne_of_beq_eq_false rfl)).trans h7
    have g_44_11 := (f_44 11 (Nat.ne_of_beq_eq_false rfl)).trans h11
    have g_44_12 := (f_44 12 (Nat.ne_of_beq_eq_false rfl)).trans h12
    have g_44_13 := (f_44 13 (Nat.ne_of_beq_eq_false rfl)).trans h13
    have g_44_14 := (f_44 14 (Nat.ne_of_beq_eq_false rfl)).trans h14
    have g_44_15 := (f_44 15 (Nat.ne_of_beq_eq_false rfl)).trans h15
    have g_44_16 : cE h_44 16 (.inl (.int, fA [pa, xb])) := e_44
    refine ik_Wk 1 (pc_q := 37) (loc_q := [some (.ref 14), some (fI 0), some (fI (mi - fa)), none, none]) (st_q := [fI (mi - fa)]) (h_q := h_44) (cl_q := 0) (sl_q := 0) rfl ?_
    refine fw_if_gt rfl rfl (by omega) (by omega) (fun hc2 => absurd hc2 (by omega)) (fun hc2 => ?_)
    have ez : (mx_sd (fun x => mx_w cn go ch s x) (pl - 1) ka pa fa mi xa sd) = (pa, sd) := by
      unfold mx_sd
      rw [if_pos (by omega)]
    rw [ez]
    exact ik_Wret rfl rfl ⟨_, _, rfl, rfl, rfl, rfl, ⟨rfl, g_44_14, g_44_16, fr_44⟩⟩
  · refine ik_Wk 1 (pc_q := 37) (loc_q := [some (.ref 14), some (fI 0), some (fI (mi - fa)), none, none]) (st_q := [fI (mi - fa)]) (h_q := h) (cl_q := 0) (sl_q := 0) rfl ?_
    refine fw_if_gt rfl rfl (by omega) (by omega) (fun hc3 => ?_) (fun hc3 => ?_)
    · refine ik_Wk 1 (pc_q := 42) (loc_q := [some (.ref 14), some (fI 0), some (fI (mi - fa)), none, none]) (st_q := [.ref 14]) (h_q := h) (cl_q := 0) (sl_q := 0) rfl ?_
      refine fw_gf rfl rfl h14 rfl ?_
      refine ik_Wk 2 (pc_q := 47) (loc_q := [some (.ref 14), some (fI 0), some (fI (mi - fa)), none, none]) (st_q := [fI 3, fI 0, .ref 15]) (h_q := h) (cl_q := 0) (sl_q := 0) rfl ?_
      refine fw_mul rfl ?_
      refine ik_Wk 1 (pc_q := 49) (loc_q := [some (.ref 14), some (fI 0), some (fI (mi - fa)), none, none]) (st_q := [fI 0, fI 0, .ref 15]) (h_q := h) (cl_q := 0) (sl_q := 0) rfl ?_
      refine fw_add rfl ?_
      refine fw_ial (z := 0) rfl h15 (by decide +kernel) (Nat.le_of_ble_eq_true rfl) (by decide +kernel) ?_
      refine ik_Wk 0 (pc_q := 51) (loc_q := [some (.ref 14), some (fI 0), some (fI (mi - fa)), none, none]) (st_q := [fI ka]) (h_q := h) (cl_q := 0) (sl_q := 0) rfl ?_
      refine ik_Wk 1 (pc_q := 52) (loc_q := [some (.ref 14), some (fI 0), some (fI (mi - fa)), none, none]) (st_q := [fI (mi - fa), fI ka]) (h_q := h) (cl_q := 0) (sl_q := 0) rfl ?_
      refine ik_Wc 125 2 4 [fI ka, fI (mi - fa)] [] rfl rfl rfl (by decide +kernel) rfl rfl (fw_sta hl rfl (by decide +kernel)) ?_
      refine ik_Wk 0 (pc_q := 0) (loc_q := [some (fI ka), some (fI (mi - fa))]) (st_q := []) (h_q := h) (cl_q := 0) (sl_q := 0) rfl ?_
      refine ik_Wk 2 (pc_q := 2) (loc_q := [some (fI ka), some (fI (mi - fa))]) (st_q := [fI 1, fI ka]) (h_q := h) (cl_q := 0) (sl_q := 0) rfl ?_
      refine fw_ic_ne rfl rfl (by omega) (by omega) (by omega) (by omega) (fun hc4 => ?_) (fun hc4 => ?_)
      · refine ik_Wk 1 (pc_q := 6) (loc_q := [some (fI ka), some (fI (mi - fa))]) (st_q := [fI 2]) (h_q := h) (cl_q := 0) (sl_q := 0) rfl ?_
        refine ik_Wret rfl rfl ⟨_, _, rfl, rfl, ?_⟩
        refine ik_Wk 0 (pc_q := 55) (loc_q := [some (.ref 14), some (fI 0), some (fI (mi - fa)), none, none]) (st_q := [fI 2]) (h_q := h) (cl_q := 0) (sl_q := 0) rfl ?_
        refine ik_Wk 5 (pc_q := 62) (loc_q := [some (.ref 14), some (fI 0), some (fI (mi - fa)), some (fI 2), some (fI 0)]) (st_q := [fI 2, fI 0]) (h_q := h) (cl_q := 0) (sl_q := 0) rfl ?_
        refine fw_ic_ge rfl rfl (by decide +kernel) (by decide +kernel) (by decide +kernel) (by decide +kernel) (fun hc5 => absurd hc5 (by decide +kernel)) (fun hc5 => ?_)
        refine ik_Wk 1 (pc_q := 66) (loc_q := [some (.ref 14), some (fI 0), some (fI (mi - fa)), some (fI 2), some (fI 0)]) (st_q := [.ref 14]) (h_q := h) (cl_q := 0) (sl_q := 0) rfl ?_
        refine fw_gf rfl rfl h14 rfl ?_
        refine ik_Wk 1 (pc_q := 70) (loc_q := [some (.ref 14), some (fI 0), some (fI (mi - fa)), some (fI 2), some (fI 0)]) (st_q := [.ref 14, .ref 7]) (h_q := h) (cl_q := 0) (sl_q := 0) rfl ?_
        refine fw_gf rfl rfl h14 rfl ?_
        refine ik_Wk 1 (pc_q := 74) (loc_q := [some (.ref 14), some (fI 0), some (fI (mi - fa)), some (fI 2), some (fI 0)]) (st_q := [fI 0, .ref 16, .ref 7]) (h_q := h) (cl_q := 0) (sl_q := 0) rfl ?_
        refine fw_ial (z := 0) rfl h16 (by decide +kernel) (Nat.le_of_ble_eq_true rfl) (by decide +kernel) ?_
        refine ik_Wk 0 (pc_q := 75) (loc_q := [some (.ref 14), some (fI 0), some (fI (mi - fa)), some (fI 2), some (fI 0)]) (st_q := [fI xa, .ref 7]) (h_q := h) (cl_q := 0) (sl_q := 0) rfl ?_
        refine ik_Wc 4 2 0 [.ref 7, fI xa] [] rfl rfl rfl (by decide +kernel) rfl rfl (fw_rec hl rfl h7 rfl (Nat.le_of_ble_eq_true rfl)) ?_
        refine ik_Wk 0 (pc_q := 0) (loc_q := [some (.ref 7), some (fI xa)]) (st_q := []) (h_q := h) (cl_q := 0) (sl_q := 0) rfl ?_
        refine ik_Wk 1 (pc_q := 1) (loc_q := [some (.ref 7), some (fI xa)]) (st_q := [fI xa]) (h_q := h) (cl_q := 0) (sl_q := 0) rfl ?_
        refine fw_if_lt rfl rfl (by omega) (by omega) (fun hc6 => ?_) (fun hc6 => ?_)
        · refine ik_Wk 1 (pc_q := 19) (loc_q := [some (.ref 7), some (fI xa)]) (st_q := [fI 0]) (h_q := h) (cl_q := 0) (sl_q := 0) rfl ?_
          refine ik_Wret rfl rfl ⟨_, _, rfl, rfl, ?_⟩
          refine ik_Wk 0 (pc_q := 78) (loc_q := [some (.ref 14), some (fI 0), some (fI (mi - fa)), some (fI 2), some (fI 0)]) (st_q := [fI 0]) (h_q := h) (cl_q := 0) (sl_q := 0) rfl ?_
          refine fw_if_eq rfl rfl (by decide +kernel) (by decide +kernel) (fun hc7 => ?_) (fun hc7 => absurd hc7 (by decide +kernel))
          have et : mx_tm ka (mi - fa) = 2 := by unfold mx_tm; (repeat' split) <;> omega
          have ez : (mx_sd (fun x => mx_w cn go ch s x) (pl - 1) ka pa fa mi xa sd) = (xa, sd) := by
            unfold mx_sd
            rw [if_neg (by omega), if_pos (by omega)]
            rw [et]
            exact mx_go_b (by omega)
          rw [ez]
          exact ik_Wret rfl rfl ⟨_, _, rfl, rfl, rfl, rfl, ⟨rfl, h14, h16, (hfr_refl [14, 16] h)⟩⟩
        · refine ik_Wk 2 (pc_q := 6) (loc_q := [some (.ref 7), some (fI xa)]) (st_q := [.ref 7, fI xa]) (h_q := h) (cl_q := 0) (sl_q := 0) rfl ?_
          refine fw_gf rfl rfl h7 rfl ?_
          refine ik_Wk 1 (pc_q := 10) (loc_q := [some (.ref 7), some (fI xa)]) (st_q := [fI 1, fI pl, fI xa]) (h_q := h) (cl_q := 0) (sl_q := 0) rfl ?_
          refine fw_sub rfl ?_
          refine fw_ic_ge rfl rfl (by omega) (by omega) (by omega) (by omega) (fun hc8 => ?_) (fun hc8 => ?_)
          · refine ik_Wk 1 (pc_q := 19) (loc_q := [some (.ref 7), some (fI xa)]) (st_q := [fI 0]) (h_q := h) (cl_q := 0) (sl_q := 0) rfl ?_
            refine ik_Wret rfl rfl ⟨_, _, rfl, rfl, ?_⟩
            refine ik_Wk 0 (pc_q := 78) (loc_q := [some (.ref 14), some (fI 0), some (fI (mi - fa)), some (fI 2), some (fI 0)]) (st_q := [fI 0]) (h_q := h) (cl_q := 0) (sl_q := 0) rfl ?_
            refine fw_if_eq rfl rfl (by decide +kernel) (by decide +kernel) (fun hc9 => ?_) (fun hc9 => absurd hc9 (by decide +kernel))
            have et : mx_tm ka (mi - fa) = 2 := by unfold mx_tm; (repeat' split) <;> omega
            have ez : (mx_sd (fun x => mx_w cn go ch s x) (pl - 1) ka pa fa mi xa sd) = (xa, sd) := by
              unfold mx_sd
              rw [if_neg (by omega), if_pos (by omega)]
              rw [et]
              exact mx_go_b (by omega)
            rw [ez]
            exact ik_Wret rfl rfl ⟨_, _, rfl, rfl, rfl, rfl, ⟨rfl, h14, h16, (hfr_refl [14, 16] h)⟩⟩
          · refine ik_Wk 2 (pc_q := 19) (loc_q := [some (.ref 7), some (fI xa)]) (st_q := [fI 1]) (h_q := h) (cl_q := 0) (sl_q := 0) rfl ?_
            refine ik_Wret rfl rfl ⟨_, _, rfl, rfl, ?_⟩
            refine ik_Wk 0 (pc_q := 78) (loc_q := [some (.ref 14), some (fI 0), some (fI (mi - fa)), some (fI 2), some (fI 0)]) (st_q := [fI 1]) (h_q := h) (cl_q := 0) (sl_q := 0) rfl ?_
            refine fw_if_eq rfl rfl (by decide +kernel) (by decide +kernel) (fun hc10 => absurd hc10 (by decide +kernel)) (fun hc10 => ?_)
            refine ik_Wk 1 (pc_q := 82) (loc_q := [some (.ref 14), some (fI 0), some (fI (mi - fa)), some (fI 2), some (fI 0)]) (st_q := [.ref 14]) (h_q := h) (cl_q := 0) (sl_q := 0) rfl ?_
            refine fw_gf rfl rfl h14 rfl ?_
            refine ik_Wk 2 (pc_q := 87) (loc_q := [some (.ref 14), some (fI 0), some (fI (mi - fa)), some (fI 2), some (fI 0)]) (st_q := [.ref 14, fI 0, .ref 16]) (h_q := h) (cl_q := 0) (sl_q := 0) rfl ?_
            refine fw_gf rfl rfl h14 rfl ?_
            refine ik_Wk 1 (pc_q := 91) (loc_q := [some (.ref 14), some (fI 0), some (fI (mi - fa)), some (fI 2), some (fI 0)]) (st_q := [.ref 14, .ref 7, fI 0, .ref 16]) (h_q := h) (cl_q := 0) (sl_q := 0) rfl ?_
            refine fw_gf rfl rfl h14 rfl ?_
            refine ik_Wk 1 (pc_q := 95) (loc_q := [some (.ref 14), some (fI 0), some (fI (mi - fa)), some (fI 2), some (fI 0)]) (st_q := [fI 0, .ref 16, .ref 7, fI 0, .ref 16]) (h_q := h) (cl_q := 0) (sl_q := 0) rfl ?_
            refine fw_ial (z := 0) rfl h16 (by decide +kernel) (Nat.le_of_ble_eq_true rfl) (by decide +kernel) ?_
            refine ik_Wk 0 (pc_q := 96) (loc_q := [some (.ref 14), some (fI 0), some (fI (mi - fa)), some (fI 2), some (fI 0)]) (st_q := [fI xa, .ref 7, fI 0, .ref 16]) (h_q := h) (cl_q := 0) (sl_q := 0) rfl ?_
            refine ik_Wk 1 (pc_q := 97) (loc_q := [some (.ref 14), some (fI 0), some (fI (mi - fa)), some (fI 2), some (fI 0)]) (st_q := [.ref 14, fI xa, .ref 7, fI 0, .ref 16]) (h_q := h) (cl_q := 0) (sl_q := 0) rfl ?_
            refine fw_call 27 1 0 [.ref 14] [fI xa, .ref 7, fI 0, .ref 16] rfl rfl rfl (Nat.le_of_ble_eq_true rfl) rfl rfl (fw_rec hl rfl h14 rfl (Nat.le_of_ble_eq_true rfl)) (cs_draw (mi := mi) (sd := sd) (by omega) h14 hl) ?_
            rintro _ h_45 ⟨rfl, e_45_14, F_45⟩
            have k_45 : cL h_45 := F_45.1.trans hl
            have fr_45 := hfr_cb (hfr_refl [14, 16] h) F_45 rfl
            have g_45_7 := (hfr_g F_45 7 rfl).trans h7
            have g_45_11 := (hfr_g F_45 11 rfl).trans h11
            have g_45_12 := (hfr_g F_45 12 rfl).trans h12
            have g_45_13 := (hfr_g F_45 13 rfl).trans h13
            have g_45_15 := (hfr_g F_45 15 rfl).trans h15
            have g_45_16 := (hfr_g F_45 16 rfl).trans h16
            have g_45_14 : cE h_45 14 (.inr (1, [.ref 7, .ref 15, .ref 16, fI mi, fJ (mx_d sd)])) := e_45_14
            refine ik_Wk 0 (pc_q := 100) (loc_q := [some (.ref 14), some (fI 0), some (fI (mi - fa)), some (fI 2), some (fI 0)]) (st_q := [fI (mx_v sd), fI xa, .ref 7, fI 0, .ref 16]) (h_q := h_45) (cl_q := 0) (sl_q := 0) rfl ?_
            refine fw_call 18 3 0 [.ref 7, fI xa, fI (mx_v sd)] [fI 0, .ref 16] rfl rfl rfl (Nat.le_of_ble_eq_true rfl) rfl rfl (fw_rec k_45 rfl g_45_7 rfl (Nat.le_of_ble_eq_true rfl)) (cs_goalBy (p := xa) (d := mx_v sd) (pl := pl) (lo := lo) (s := s) (wg := wg) (wc := wc) (we := we) (L := (mx_w cn go ch s xa)) (by omega) (by omega) (mx_v_b _).1 (mx_v_b _).2 (q4 _ (by omega) (by omega)) (q5 _ (by omega) (by omega)) g_45_7 g_45_11 n11 g_45_12 n12 g_45_13 n13 k_45) ?_
            rintro _ h_46 ⟨rfl, F_46⟩
            have k_46 : cL h_46 := F_46.1.trans k_45
            have fr_46 := hfr_cb fr_45 F_46 rfl
            have g_46_7 := (hfr_g F_46 7 rfl).trans g_45_7
            have g_46_11 := (hfr_g F_46 11 rfl).trans g_45_11
            have g_46_12 := (hfr_g F_46 12 rfl).trans g_45_12
            have g_46_13 := (hfr_g F_46 13 rfl).trans g_45_13
            have g_46_14 := (hfr_g F_46 14 rfl).trans g_45_14
            have g_46_15 := (hfr_g F_46 15 rfl).trans g_45_15
            have g_46_16 := (hfr_g F_46 16 rfl).trans g_45_16
            refine ik_Wk 0 (pc_q := 103) (loc_q := [some (.ref 14), some (fI 0), some (fI (mi - fa)), some (fI 2), some (fI 0)]) (st_q := [fI (mx_pk (mx_w cn go ch s xa) (mx_v sd) xa), fI 0, .ref 16]) (h_q := h_46) (cl_q := 0) (sl_q := 0) rfl ?_
            have hp46 := mx_pk_in (f := xa) (q5 xa (by omega) (by omega)) (mx_v_b sd).1 (mx_v_b sd).2
            have hz46 := mx_d_b sd
            refine fx_ias (z := 0) rfl g_46_16 (by decide +kernel) (Nat.le_of_ble_eq_true rfl) (by decide +kernel) ?_
            intro h_47 e_47 f_47 l_47
            have k_47 : cL h_47 := l_47.trans k_46
            have fr_47 := hfr_wb fr_46 f_47 l_47 rfl
            clear l_47
            have g_47_7 := (f_47 7 (Nat.ne_of_beq_eq_false rfl)).trans g_46_7
            have g_47_11 := (f_47 11 (Nat.ne_of_beq_eq_false rfl)).trans g_46_11
            have g_47_12 := (f_47 12 (Nat.ne_of_beq_eq_false rfl)).trans g_46_12
            have g_47_13 := (f_47 13 (Nat.ne_of_beq_eq_false rfl)).trans g_46_13
            have g_47_14 := (f_47 14 (Nat.ne_of_beq_eq_false rfl)).trans g_46_14
            have g_47_15 := (f_47 15 (Nat.ne_of_beq_eq_false rfl)).trans g_46_15
            have g_47_16 : cE h_47 16 (.inl (.int, fA [mx_pk (mx_w cn go ch s xa) (mx_v sd) xa, xb])) := e_47
            refine fw_inc (a := 0) (loc_q := [some (.ref 14), some (fI 0), some (fI (mi - fa)), some (fI 2), some (fI 1)]) rfl rfl (Nat.le_of_ble_eq_true rfl) rfl ?_
            refine ik_Wk 3 (pc_q := 62) (loc_q := [some (.ref 14), some (fI 0), some (fI (mi - fa)), some (fI 2), some (fI 1)]) (st_q := [fI 2, fI 1]) (h_q := h_47) (cl_q := 0) (sl_q := 0) rfl ?_
            refine fw_ic_ge rfl rfl (by decide +kernel) (by decide +kernel) (by decide +kernel) (by decide +kernel) (fun hc11 => absurd hc11 (by decide +kernel)) (fun hc11 => ?_)
            refine ik_Wk 1 (pc_q := 66) (loc_q := [some (.ref 14), some (fI 0), some (fI (mi - fa)), some (fI 2), some (fI 1)]) (st_q := [.ref 14]) (h_q := h_47) (cl_q := 0) (sl_q := 0) rfl ?_
            refine fw_gf rfl rfl g_47_14 rfl ?_
            refine ik_Wk 1 (pc_q := 70) (loc_q := [some (.ref 14), some (fI 0), some (fI (mi - fa)), some (fI 2), some (fI 1)]) (st_q := [.ref 14, .ref 7]) (h_q := h_47) (cl_q := 0) (sl_q := 0) rfl ?_
            refine fw_gf rfl rfl g_47_14 rfl ?_
            refine ik_Wk 1 (pc_q := 74) (loc_q := [some (.ref 14), some (fI 0), some (fI (mi - fa)), some (fI 2), some (fI 1)]) (st_q := [fI 0, .ref 16, .ref 7]) (h_q := h_47) (cl_q := 0) (sl_q := 0) rfl ?_
            refine fw_ial (z := 0) rfl g_47_16 (by decide +kernel) (Nat.le_of_ble_eq_true rfl) (by decide +kernel) ?_
            refine ik_Wk 0 (pc_q := 75) (loc_q := [some (.ref 14), some (fI 0), some (fI (mi - fa)), some (fI 2), some (fI 1)]) (st_q := [fI (mx_pk (mx_w cn go ch s xa) (mx_v sd) xa), .ref 7]) (h_q := h_47) (cl_q := 0) (sl_q := 0) rfl ?_
            refine ik_Wc 4 2 0 [.ref 7, fI (mx_pk (mx_w cn go ch s xa) (mx_v sd) xa)] [] rfl rfl rfl (by decide +kernel) rfl rfl (fw_rec k_47 rfl g_47_7 rfl (Nat.le_of_ble_eq_true rfl)) ?_
            refine ik_Wk 0 (pc_q := 0) (loc_q := [some (.ref 7), some (fI (mx_pk (mx_w cn go ch s xa) (mx_v sd) xa))]) (st_q := []) (h_q := h_47) (cl_q := 0) (sl_q := 0) rfl ?_
            refine ik_Wk 1 (pc_q := 1) (loc_q := [some (.ref 7), some (fI (mx_pk (mx_w cn go ch s xa) (mx_v sd) xa))]) (st_q := [fI (mx_pk (mx_w cn go ch s xa) (mx_v sd) xa)]) (h_q := h_47) (cl_q := 0) (sl_q := 0) rfl ?_
            refine fw_if_lt rfl rfl (by omega) (by omega) (fun hc12 => ?_) (fun hc12 => ?_)
            · refine ik_Wk 1 (pc_q := 19) (loc_q := [some (.ref 7), some (fI (mx_pk (mx_w cn go ch s xa) (mx_v sd) xa))]) (st_q := [fI 0]) (h_q := h_47) (cl_q := 0) (sl_q := 0) rfl ?_
              refine ik_Wret rfl rfl ⟨_, _, rfl, rfl, ?_⟩
              refine ik_Wk 0 (pc_q := 78) (loc_q := [some (.ref 14), some (fI 0), some (fI (mi - fa)), some (fI 2), some (fI 1)]) (st_q := [fI 0]) (h_q := h_47) (cl_q := 0) (sl_q := 0) rfl ?_
              refine fw_if_eq rfl rfl (by decide +kernel) (by decide +kernel) (fun hc13 => ?_) (fun hc13 => absurd hc13 (by decide +kernel))
              have et : mx_tm ka (mi - fa) = 2 := by unfold mx_tm; (repeat' split) <;> omega
              have ez : (mx_sd (fun x => mx_w cn go ch s x) (pl - 1) ka pa fa mi xa sd) = (mx_pk (mx_w cn go ch s xa) (mx_v sd) xa, mx_d sd) := by
                unfold mx_sd
                rw [if_neg (by omega), if_pos (by omega)]
                rw [et]
                rw [mx_go_n (by omega)]
                exact mx_go_b (by omega)
              rw [ez]
              exact ik_Wret rfl rfl ⟨_, _, rfl, rfl, rfl, rfl, ⟨rfl, g_47_14, g_47_16, fr_47⟩⟩
            · refine ik_Wk 2 (pc_q := 6) (loc_q := [some (.ref 7), some (fI (mx_pk (mx_w cn go ch s xa) (mx_v sd) xa))]) (st_q := [.ref 7, fI (mx_pk (mx_w cn go ch s xa) (mx_v sd) xa)]) (h_q := h_47) (cl_q := 0) (sl_q := 0) rfl ?_
              refine fw_gf rfl rfl g_47_7 rfl ?_
              refine ik_Wk 1 (pc_q := 10) (loc_q := [some (.ref 7), some (fI (mx_pk (mx_w cn go ch s xa) (mx_v sd) xa))]) (st_q := [fI 1, fI pl, fI (mx_pk (mx_w cn go ch s xa) (mx_v sd) xa)]) (h_q := h_47) (cl_q := 0) (sl_q := 0) rfl ?_
              refine fw_sub rfl ?_
              refine fw_ic_ge rfl rfl (by omega) (by omega) (by omega) (by omega) (fun hc14 => ?_) (fun hc14 => ?_)
              · refine ik_Wk 1 (pc_q := 19) (loc_q := [some (.ref 7), some (fI (mx_pk (mx_w cn go ch s xa) (mx_v sd) xa))]) (st_q := [fI 0]) (h_q := h_47) (cl_q := 0) (sl_q := 0) rfl ?_
                refine ik_Wret rfl rfl ⟨_, _, rfl, rfl, ?_⟩
                refine ik_Wk 0 (pc_q := 78) (loc_q := [some (.ref 14), some (fI 0), some (fI (mi - fa)), some (fI 2), some (fI 1)]) (st_q := [fI 0]) (h_q := h_47) (cl_q := 0) (sl_q := 0) rfl ?_
                refine fw_if_eq rfl rfl (by decide +kernel) (by decide +kernel) (fun hc15 => ?_) (fun hc15 => absurd hc15 (by decide +kernel))
                have et : mx_tm ka (mi - fa) = 2 := by unfold mx_tm; (repeat' split) <;> omega
                have ez : (mx_sd (fun x => mx_w cn go ch s x) (pl - 1) ka pa fa mi xa sd) = (mx_pk (mx_w cn go ch s xa) (mx_v sd) xa, mx_d sd) := by
                  unfold mx_sd
                  rw [if_neg (by omega), if_pos (by omega)]
                  rw [et]
                  rw [mx_go_n (by omega)]
                  exact mx_go_b (by omega)
                rw [ez]
                exact ik_Wret rfl rfl ⟨_, _, rfl, rfl, rfl, rfl, ⟨rfl, g_47_14, g_47_16, fr_47⟩⟩
              · refine ik_Wk 2 (pc_q := 19) (loc_q := [some (.ref 7), some (fI (mx_pk (mx_w cn go ch s xa) (mx_v sd) xa))]) (st_q := [fI 1]) (h_q := h_47) (cl_q := 0) (sl_q := 0) rfl ?_
                refine ik_Wret rfl rfl ⟨_, _, rfl, rfl, ?_⟩
                refine ik_Wk 0 (pc_q := 78) (loc_q := [some (.ref 14), some (fI 0), some (fI (mi - fa)), some (fI 2), some (fI 1)]) (st_q := [fI 1]) (h_q := h_47) (cl_q := 0) (sl_q := 0) rfl ?_
                refine fw_if_eq rfl rfl (by decide +kernel) (by decide +kernel) (fun hc16 => absurd hc16 (by decide +kernel)) (fun hc16 => ?_)
                refine ik_Wk 1 (pc_q := 82) (loc_q := [some (.ref 14), some (fI 0), some (fI (mi - fa)), some (fI 2), some (fI 1)]) (st_q := [.ref 14]) (h_q := h_47) (cl_q := 0) (sl_q := 0) rfl ?_
                refine fw_gf rfl rfl g_47_14 rfl ?_
                refine ik_Wk 2 (pc_q := 87) (loc_q := [some (.ref 14), some (fI 0), some (fI (mi - fa)), some (fI 2), some (fI 1)]) (st_q := [.ref 14, fI 0, .ref 16]) (h_q := h_47) (cl_q := 0) (sl_q := 0) rfl ?_
                refine fw_gf rfl rfl g_47_14 rfl ?_
                refine ik_Wk 1 (pc_q := 91) (loc_q := [some (.ref 14), some (fI 0), some (fI (mi - fa)), some (fI 2), some (fI 1)]) (st_q := [.ref 14, .ref 7, fI 0, .ref 16]) (h_q := h_47) (cl_q := 0) (sl_q := 0) rfl ?_
                refine fw_gf rfl rfl g_47_14 rfl ?_
                refine ik_Wk 1 (pc_q := 95) (loc_q := [some (.ref 14), some (fI 0), some (fI (mi - fa)), some (fI 2), some (fI 1)]) (st_q := [fI 0, .ref 16, .ref 7, fI 0, .ref 16]) (h_q := h_47) (cl_q := 0) (sl_q := 0) rfl ?_
                refine fw_ial (z := 0) rfl g_47_16 (by decide +kernel) (Nat.le_of_ble_eq_true rfl) (by decide +kernel) ?_
                refine ik_Wk 0 (pc_q := 96) (loc_q := [some (.ref 14), some (fI 0), some (fI (mi - fa)), some (fI 2), some (fI 1)]) (st_q := [fI (mx_pk (mx_w cn go ch s xa) (mx_v sd) xa), .ref 7, fI 0, .ref 16]) (h_q := h_47) (cl_q := 0) (sl_q := 0) rfl ?_
                refine ik_Wk 1 (pc_q := 97) (loc_q := [some (.ref 14), some (fI 0), some (fI (mi - fa)), some (fI 2), some (fI 1)]) (st_q := [.ref 14, fI (mx_pk (mx_w cn go ch s xa) (mx_v sd) xa), .ref 7, fI 0, .ref 16]) (h_q := h_47) (cl_q := 0) (sl_q := 0) rfl ?_
                refine fw_call 27 1 0 [.ref 14] [fI (mx_pk (mx_w cn go ch s xa) (mx_v sd) xa), .ref 7, fI 0, .ref 16] rfl rfl rfl (Nat.le_of_ble_eq_true rfl) rfl rfl (fw_rec k_47 rfl g_47_14 rfl (Nat.le_of_ble_eq_true rfl)) (cs_draw (mi := mi) (sd := mx_d sd) (by omega) g_47_14 k_47) ?_
                rintro _ h_48 ⟨rfl, e_48_14, F_48⟩
                have k_48 : cL h_48 := F_48.1.trans k_47
                have fr_48 := hfr_cb fr_47 F_48 rfl
                have g_48_7 := (hfr_g F_48 7 rfl).trans g_47_7
                have g_48_11 := (hfr_g F_48 11 rfl).trans g_47_11
                have g_48_12 := (hfr_g F_48 12 rfl).trans g_47_12
                have g_48_13 := (hfr_g F_48 13 rfl).trans g_47_13
                have g_48_15 := (hfr_g F_48 15 rfl).trans g_47_15
                have g_48_16 := (hfr_g F_48 16 rfl).trans g_47_16
                have g_48_14 : cE h_48 14 (.inr (1, [.ref 7, .ref 15, .ref 16, fI mi, fJ (mx_d (mx_d sd))])) := e_48_14
                refine ik_Wk 0 (pc_q := 100) (loc_q := [some (.ref 14), some (fI 0), some (fI (mi - fa)), some (fI 2), some (fI 1)]) (st_q := [fI (mx_v (mx_d sd)), fI (mx_pk (mx_w cn go ch s xa) (mx_v sd) xa), .ref 7, fI 0, .ref 16]) (h_q := h_48) (cl_q := 0) (sl_q := 0) rfl ?_
                refine fw_call 18 3 0 [.ref 7, fI (mx_pk (mx_w cn go ch s xa) (mx_v sd) xa), fI (mx_v (mx_d sd))] [fI 0, .ref 16] rfl rfl rfl (Nat.le_of_ble_eq_true rfl) rfl rfl (fw_rec k_48 rfl g_48_7 rfl (Nat.le_of_ble_eq_true rfl)) (cs_goalBy (p := mx_pk (mx_w cn go ch s xa) (mx_v sd) xa) (d := mx_v (mx_d sd)) (pl := pl) (lo := lo) (s := s) (wg := wg) (wc := wc) (we := we) (L := (mx_w cn go ch s (mx_pk (mx_w cn go ch s xa) (mx_v sd) xa))) (by omega) (by omega) (mx_v_b _).1 (mx_v_b _).2 (q4 _ (by omega) (by omega)) (q5 _ (by omega) (by omega)) g_48_7 g_48_11 n11 g_48_12 n12 g_48_13 n13 k_48) ?_
                rintro _ h_49 ⟨rfl, F_49⟩
                have k_49 : cL h_49 := F_49.1.trans k_48
                have fr_49 := hfr_cb fr_48 F_49 rfl
                have g_49_7 := (hfr_g F_49 7 rfl).trans g_48_7
                have g_49_11 := (hfr_g F_49 11 rfl).trans g_48_11
                have g_49_12 := (hfr_g F_49 12 rfl).trans g_48_12
                have g_49_13 := (hfr_g F_49 13 rfl).trans g_48_13
                have g_49_14 := (hfr_g F_49 14 rfl).trans g_48_14
                have g_49_15 := (hfr_g F_49 15 rfl).trans g_48_15
                have g_49_16 := (hfr_g F_49 16 rfl).trans g_48_16
                refine ik_Wk 0 (pc_q := 103) (loc_q := [some (.ref 14), some (fI 0), some (fI (mi - fa)), some (fI 2), some (fI 1)]) (st_q := [fI (mx_pk (mx_w cn go ch s (mx_pk (mx_w cn go ch s xa) (mx_v sd) xa)) (mx_v (mx_d sd)) (mx_pk (mx_w cn go ch s xa) (mx_v sd) xa)), fI 0, .ref 16]) (h_q := h_49) (cl_q := 0) (sl_q := 0) rfl ?_
                have hp49 := mx_pk_in (f := mx_pk (mx_w cn go ch s xa) (mx_v sd) xa) (q5 (mx_pk (mx_w cn go ch s xa) (mx_v sd) xa) (by omega) (by omega)) (mx_v_b (mx_d sd)).1 (mx_v_b (mx_d sd)).2
                have hz49 := mx_d_b (mx_d sd)
                refine fx_ias (z := 0) rfl g_49_16 (by decide +kernel) (Nat.le_of_ble_eq_true rfl) (by decide +kernel) ?_
                intro h_50 e_50 f_50 l_50
                have k_50 : cL h_50 := l_50.trans k_49
                have fr_50 := hfr_wb fr_49 f_50 l_50 rfl
                clear l_50
                have g_50_7 := (f_50 7 (Nat.ne_of_beq_eq_false rfl)).trans g_49_7
                have g_50_11 := (f_50 11 (Nat.ne_of_beq_eq_false rfl)).trans g_49_11
                have g_50_12 := (f_50 12 (Nat.ne_of_beq_eq_false rfl)).trans g_49_12
                have g_50_13 := (f_50 13 (Nat.ne_of_beq_eq_false rfl)).trans g_49_13
                have g_50_14 := (f_50 14 (Nat.ne_of_beq_eq_false rfl)).trans g_49_14
                have g_50_15 := (f_50 15 (Nat.ne_of_beq_eq_false rfl)).trans g_49_15
                have g_50_16 : cE h_50 16 (.inl (.int, fA [mx_pk (mx_w cn go ch s (mx_pk (mx_w cn go ch s xa) (mx_v sd) xa)) (mx_v (mx_d sd)) (mx_pk (mx_w cn go ch s xa) (mx_v sd) xa), xb])) := e_50
                refine fw_inc (a := 1) (loc_q := [some (.ref 14), some (fI 0), some (fI (mi - fa)), some (fI 2), some (fI 2)]) rfl rfl (Nat.le_of_ble_eq_true rfl) rfl ?_
                refine ik_Wk 3 (pc_q := 62) (loc_q := [some (.ref 14), some (fI 0), some (fI (mi - fa)), some (fI 2), some (fI 2)]) (st_q := [fI 2, fI 2]) (h_q := h_50) (cl_q := 0) (sl_q := 0) rfl ?_
                refine fw_ic_ge rfl rfl (by decide +kernel) (by decide +kernel) (by decide +kernel) (by decide +kernel) (fun hc17 => ?_) (fun hc17 => absurd hc17 (by decide +kernel))
                have et : mx_tm ka (mi - fa) = 2 := by unfold mx_tm; (repeat' split) <;> omega
                have ez : (mx_sd (fun x => mx_w cn go ch s x) (pl - 1) ka pa fa mi xa sd) = (mx_pk (mx_w cn go ch s (mx_pk (mx_w cn go ch s xa) (mx_v sd) xa)) (mx_v (mx_d sd)) (mx_pk (mx_w cn go ch s xa) (mx_v sd) xa), mx_d (mx_d sd)) := by
                  unfold mx_sd
                  rw [if_neg (by omega), if_pos (by omega)]
                  rw [et]
                  rw [mx_go_n (by omega)]
                  rw [mx_go_n (by omega)]
                  rfl
                rw [ez]
                exact ik_Wret rfl rfl ⟨_, _, rfl, rfl, rfl, rfl, ⟨rfl, g_50_14, g_50_16, fr_50⟩⟩
      · refine ik_Wk 2 (pc_q := 9) (loc_q := [some (fI ka), some (fI (mi - fa))]) (st_q := [fI 2, fI ka]) (h_q := h) (cl_q := 0) (sl_q := 0) rfl ?_
        refine fw_ic_ne rfl rfl (by omega) (by omega) (by omega) (by omega) (fun hc18 => ?_) (fun hc18 => ?_)
        · refine ik_Wk 2 (pc_q := 14) (loc_q := [some (fI ka), some (fI (mi - fa))]) (st_q := [fI 2, fI (mi - fa)]) (h_q := h) (cl_q := 0) (sl_q := 0) rfl ?_
          refine fx_irem rfl (by omega) (by omega) (by omega) (by omega) ?_
          refine fw_if_eq rfl rfl (by omega) (by omega) (fun hc19 => ?_) (fun hc19 => ?_)
          · refine ik_Wk 1 (pc_q := 23) (loc_q := [some (fI ka), some (fI (mi - fa))]) (st_q := [fI 1]) (h_q := h) (cl_q := 0) (sl_q := 0) rfl ?_
            refine ik_Wret rfl rfl ⟨_, _, rfl, rfl, ?_⟩
            refine ik_Wk 0 (pc_q := 55) (loc_q := [some (.ref 14), some (fI 0), some (fI (mi - fa)), none, none]) (st_q := [fI 1]) (h_q := h) (cl_q := 0) (sl_q := 0) rfl ?_
            refine ik_Wk 5 (pc_q := 62) (loc_q := [some (.ref 14), some (fI 0), some (fI (mi - fa)), some (fI 1), some (fI 0)]) (st_q := [fI 1, fI 0]) (h_q := h) (cl_q := 0) (sl_q := 0) rfl ?_
            refine fw_ic_ge rfl rfl (by decide +kernel) (by decide +kernel) (by decide +kernel) (by decide +kernel) (fun hc20 => absurd hc20 (by decide +kernel)) (fun hc20 => ?_)
            refine ik_Wk 1 (pc_q := 66) (loc_q := [some (.ref 14), some (fI 0), some (fI (mi - fa)), some (fI 1), some (fI 0)]) (st_q := [.ref 14]) (h_q := h) (cl_q := 0) (sl_q := 0) rfl ?_
            refine fw_gf rfl rfl h14 rfl ?_
            refine ik_Wk 1 (pc_q := 70) (loc_q := [some (.ref 14), some (fI 0), some (fI (mi - fa)), some (fI 1), some (fI 0)]) (st_q := [.ref 14, .ref 7]) (h_q := h) (cl_q := 0) (sl_q := 0) rfl ?_
            refine fw_gf rfl rfl h14 rfl ?_
            refine ik_Wk 1 (pc_q := 74) (loc_q := [some (.ref 14), some (fI 0), some (fI (mi - fa)), some (fI 1), some (fI 0)]) (st_q := [fI 0, .ref 16, .ref 7]) (h_q := h) (cl_q := 0) (sl_q := 0) rfl ?_
            refine fw_ial (z := 0) rfl h16 (by decide +kernel) (Nat.le_of_ble_eq_true rfl) (by decide +kernel) ?_
            refine ik_Wk 0 (pc_q := 75) (loc_q := [some (.ref 14), some (fI 0), some (fI (mi - fa)), some (fI 1), some (fI 0)]) (st_q := [fI xa, .ref 7]) (h_q := h) (cl_q := 0) (sl_q := 0) rfl ?_
            refine ik_Wc 4 2 0 [.ref 7, fI xa] [] rfl rfl rfl (by decide +kernel) rfl rfl (fw_rec hl rfl h7 rfl (Nat.le_of_ble_eq_true rfl)) ?_
            refine ik_Wk 0 (pc_q := 0) (loc_q := [some (.ref 7), some (fI xa)]) (st_q := []) (h_q := h) (cl_q := 0) (sl_q := 0) rfl ?_
            refine ik_Wk 1 (pc_q := 1) (loc_q := [some (.ref 7), some (fI xa)]) (st_q := [fI xa]) (h_q := h) (cl_q := 0) (sl_q := 0) rfl ?_
            refine fw_if_lt rfl rfl (by omega) (by omega) (fun hc21 => ?_) (fun hc21 => ?_)
            · refine ik_Wk 1 (pc_q := 19) (loc_q := [some (.ref 7), some (fI xa)]) (st_q := [fI 0]) (h_q := h) (cl_q := 0) (sl_q := 0) rfl ?_
              refine ik_Wret rfl rfl ⟨_, _, rfl, rfl, ?_⟩
              refine ik_Wk 0 (pc_q := 78) (loc_q := [some (.ref 14), some (fI 0), some (fI (mi - fa)), some (fI 1), some (fI 0)]) (st_q := [fI 0]) (h_q := h) (cl_q := 0) (sl_q := 0) rfl ?_
              refine fw_if_eq rfl rfl (by decide +kernel) (by decide +kernel) (fun hc22 => ?_) (fun hc22 => absurd hc22 (by decide +kernel))
              have et : mx_tm ka (mi - fa) = 1 := by unfold mx_tm; (repeat' split) <;> omega
              have ez : (mx_sd (fun x => mx_w cn go ch s x) (pl - 1) ka pa fa mi xa sd) = (xa, sd) := by
                unfold mx_sd
                rw [if_neg (by omega), if_pos (by omega)]
                rw [et]
                exact mx_go_b (by omega)
              rw [ez]
              exact ik_Wret rfl rfl ⟨_, _, rfl, rfl, rfl, rfl, ⟨rfl, h14, h16, (hfr_refl [14, 16] h)⟩⟩
            · refine ik_Wk 2 (pc_q := 6) (loc_q := [some (.ref 7), some (fI xa)]) (st_q := [.ref 7, fI xa]) (h_q := h) (cl_q := 0) (sl_q := 0) rfl ?_
              refine fw_gf rfl rfl h7 rfl ?_
              refine ik_Wk 1 (pc_q := 10) (loc_q := [some (.ref 7), some (fI xa)]) (st_q := [fI 1, fI pl, fI xa]) (h_q := h) (cl_q := 0) (sl_q := 0) rfl ?_
              refine fw_sub rfl ?_
              refine fw_ic_ge rfl rfl (by omega) (by omega) (by omega) (by omega) (fun hc23 => ?_) (fun hc23 => ?_)
              · refine ik_Wk 1 (pc_q := 19) (loc_q := [some (.ref 7), some (fI xa)]) (st_q := [fI 0]) (h_q := h) (cl_q := 0) (sl_q := 0) rfl ?_
                refine ik_Wret rfl rfl ⟨_, _, rfl, rfl, ?_⟩
                refine ik_Wk 0 (pc_q := 78) (loc_q := [some (.ref 14), some (fI 0), some (fI (mi - fa)), some (fI 1), some (fI 0)]) (st_q := [fI 0]) (h_q := h) (cl_q := 0) (sl_q := 0) rfl ?_
                refine fw_if_eq rfl rfl (by decide +kernel) (by decide +kernel) (fun hc24 => ?_) (fun hc24 => absurd hc24 (by decide +kernel))
                have et : mx_tm ka (mi - fa) = 1 := by unfold mx_tm; (repeat' split) <;> omega
                have ez : (mx_sd (fun x => mx_w cn go ch s x) (pl - 1) ka pa fa mi xa sd) = (xa, sd) := by
                  unfold mx_sd
                  rw [if_neg (by omega), if_pos (by omega)]
                  rw [et]
                  exact mx_go_b (by omega)
                rw [ez]
                exact ik_Wret rfl rfl ⟨_, _, rfl, rfl, rfl, rfl, ⟨rfl, h14, h16, (hfr_refl [14, 16] h)⟩⟩
              · refine ik_Wk 2 (pc_q := 19) (loc_q := [some (.ref 7), some (fI xa)]) (st_q := [fI 1]) (h_q := h) (cl_q := 0) (sl_q := 0) rfl ?_
                refine ik_Wret rfl rfl ⟨_, _, rfl, rfl, ?_⟩
                refine ik_Wk 0 (pc_q := 78) (loc_q := [some (.ref 14), some (fI 0), some (fI (mi - fa)), some (fI 1), some (fI 0)]) (st_q := [fI 1]) (h_q := h) (cl_q := 0) (sl_q := 0) rfl ?_
                refine fw_if_eq rfl rfl (by decide +kernel) (by decide +kernel) (fun hc25 => absurd hc25 (by decide +kernel)) (fun hc25 => ?_)
                refine ik_Wk 1 (pc_q := 82) (loc_q := [some (.ref 14), some (fI 0), some (fI (mi - fa)), some (fI 1), some (fI 0)]) (st_q := [.ref 14]) (h_q := h) (cl_q := 0) (sl_q := 0) rfl ?_
                refine fw_gf rfl rfl h14 rfl ?_
                refine ik_Wk 2 (pc_q := 87) (loc_q := [some (.ref 14), some (fI 0), some (fI (mi - fa)), some (fI 1), some (fI 0)]) (st_q := [.ref 14, fI 0, .ref 16]) (h_q := h) (cl_q := 0) (sl_q := 0) rfl ?_
                refine fw_gf rfl rfl h14 rfl ?_
                refine ik_Wk 1 (pc_q := 91) (loc_q := [some (.ref 14), some (fI 0), some (fI (mi - fa)), some (fI 1), some (fI 0)]) (st_q := [.ref 14, .ref 7, fI 0, .ref 16]) (h_q := h) (cl_q := 0) (sl_q := 0) rfl ?_
                refine fw_gf rfl rfl h14 rfl ?_
                refine ik_Wk 1 (pc_q := 95) (loc_q := [some (.ref 14), some (fI 0), some (fI (mi - fa)), some (fI 1), some (fI 0)]) (st_q := [fI 0, .ref 16, .ref 7, fI 0, .ref 16]) (h_q := h) (cl_q := 0) (sl_q := 0) rfl ?_
                refine fw_ial (z := 0) rfl h16 (by decide +kernel) (Nat.le_of_ble_eq_true rfl) (by decide +kernel) ?_
                refine ik_Wk 0 (pc_q := 96) (loc_q := [some (.ref 14), some (fI 0), some (fI (mi - fa)), some (fI 1), some (fI 0)]) (st_q := [fI xa, .ref 7, fI 0, .ref 16]) (h_q := h) (cl_q := 0) (sl_q := 0) rfl ?_
                refine ik_Wk 1 (pc_q := 97) (loc_q := [some (.ref 14), some (fI 0), some (fI (mi - fa)), some (fI 1), some (fI 0)]) (st_q := [.ref 14, fI xa, .ref 7, fI 0, .ref 16]) (h_q := h) (cl_q := 0) (sl_q := 0) rfl ?_
                refine fw_call 27 1 0 [.ref 14] [fI xa, .ref 7, fI 0, .ref 16] rfl rfl rfl (Nat.le_of_ble_eq_true rfl) rfl rfl (fw_rec hl rfl h14 rfl (Nat.le_of_ble_eq_true rfl)) (cs_draw (mi := mi) (sd := sd) (by omega) h14 hl) ?_
                rintro _ h_51 ⟨rfl, e_51_14, F_51⟩
                have k_51 : cL h_51 := F_51.1.trans hl
                have fr_51 := hfr_cb (hfr_refl [14, 16] h) F_51 rfl
                have g_51_7 := (hfr_g F_51 7 rfl).trans h7
                have g_51_11 := (hfr_g F_51 11 rfl).trans h11
                have g_51_12 := (hfr_g F_51 12 rfl).trans h12
                have g_51_13 := (hfr_g F_51 13 rfl).trans h13
                have g_51_15 := (hfr_g F_51 15 rfl).trans h15
                have g_51_16 := (hfr_g F_51 16 rfl).trans h16
                have g_51_14 : cE h_51 14 (.inr (1, [.ref 7, .ref 15, .ref 16, fI mi, fJ (mx_d sd)])) := e_51_14
                refine ik_Wk 0 (pc_q := 100) (loc_q := [some (.ref 14), some (fI 0), some (fI (mi - fa)), some (fI 1), some (fI 0)]) (st_q := [fI (mx_v sd), fI xa, .ref 7, fI 0, .ref 16]) (h_q := h_51) (cl_q := 0) (sl_q := 0) rfl ?_
                refine fw_call 18 3 0 [.ref 7, fI xa, fI (mx_v sd)] [fI 0, .ref 16] rfl rfl rfl (Nat.le_of_ble_eq_true rfl) rfl rfl (fw_rec k_51 rfl g_51_7 rfl (Nat.le_of_ble_eq_true rfl)) (cs_goalBy (p := xa) (d := mx_v sd) (pl := pl) (lo := lo) (s := s) (wg := wg) (wc := wc) (we := we) (L := (mx_w cn go ch s xa)) (by omega) (by omega) (mx_v_b _).1 (mx_v_b _).2 (q4 _ (by omega) (by omega)) (q5 _ (by omega) (by omega)) g_51_7 g_51_11 n11 g_51_12 n12 g_51_13 n13 k_51) ?_
                rintro _ h_52 ⟨rfl, F_52⟩
                have k_52 : cL h_52 := F_52.1.trans k_51
                have fr_52 := hfr_cb fr_51 F_52 rfl
                have g_52_7 := (hfr_g F_52 7 rfl).trans g_51_7
                have g_52_11 := (hfr_g F_52 11 rfl).trans g_51_11
                have g_52_12 := (hfr_g F_52 12 rfl).trans g_51_12
                have g_52_13 := (hfr_g F_52 13 rfl).trans g_51_13
                have g_52_14 := (hfr_g F_52 14 rfl).trans g_51_14
                have g_52_15 := (hfr_g F_52 15 rfl).trans g_51_15
                have g_52_16 := (hfr_g F_52 16 rfl).trans g_51_16
                refine ik_Wk 0 (pc_q := 103) (loc_q := [some (.ref 14), some (fI 0), some (fI (mi - fa)), some (fI 1), some (fI 0)]) (st_q := [fI (mx_pk (mx_w cn go ch s xa) (mx_v sd) xa), fI 0, .ref 16]) (h_q := h_52) (cl_q := 0) (sl_q := 0) rfl ?_
                have hp52 := mx_pk_in (f := xa) (q5 xa (by omega) (by omega)) (mx_v_b sd).1 (mx_v_b sd).2
                have hz52 := mx_d_b sd
                refine fx_ias (z := 0) rfl g_52_16 (by decide +kernel) (Nat.le_of_ble_eq_true rfl) (by decide +kernel) ?_
                intro h_53 e_53 f_53 l_53
                have k_53 : cL h_53 := l_53.trans k_52
                have fr_53 := hfr_wb fr_52 f_53 l_53 rfl
                clear l_53
                have g_53_7 := (f_53 7 (Nat.ne_of_beq_eq_false rfl)).trans g_52_7
                have g_53_11 := (f_53 11 (Nat.ne_of_beq_eq_false rfl)).trans g_52_11
                have g_53_12 := (f_53 12 (Nat.ne_of_beq_eq_false rfl)).trans g_52_12
                have g_53_13 := (f_53 13 (Nat.ne_of_beq_eq_false rfl)).trans g_52_13
                have g_53_14 := (f_53 14 (Nat.ne_of_beq_eq_false rfl)).trans g_52_14
                have g_53_15 := (f_53 15 (Nat.ne_of_beq_eq_false rfl)).trans g_52_15
                have g_53_16 : cE h_53 16 (.inl (.int, fA [mx_pk (mx_w cn go ch s xa) (mx_v sd) xa, xb])) := e_53
                refine fw_inc (a := 0) (loc_q := [some (.ref 14), some (fI 0), some (fI (mi - fa)), some (fI 1), some (fI 1)]) rfl rfl (Nat.le_of_ble_eq_true rfl) rfl ?_
                refine ik_Wk 3 (pc_q := 62) (loc_q := [some (.ref 14), some (fI 0), some (fI (mi - fa)), some (fI 1), some (fI 1)]) (st_q := [fI 1, fI 1]) (h_q := h_53) (cl_q := 0) (sl_q := 0) rfl ?_
                refine fw_ic_ge rfl rfl (by decide +kernel) (by decide +kernel) (by decide +kernel) (by decide +kernel) (fun hc26 => ?_) (fun hc26 => absurd hc26 (by decide +kernel))
                have et : mx_tm ka (mi - fa) = 1 := by unfold mx_tm; (repeat' split) <;> omega
                have ez : (mx_sd (fun x => mx_w cn go ch s x) (pl - 1) ka pa fa mi xa sd) = (mx_pk (mx_w cn go ch s xa) (mx_v sd) xa, mx_d sd) := by
                  unfold mx_sd
                  rw [if_neg (by omega), if_pos (by omega)]
                  rw [et]
                  rw [mx_go_n (by omega)]
                  rfl
                rw [ez]
                exact ik_Wret rfl rfl ⟨_, _, rfl, rfl, rfl, rfl, ⟨rfl, g_53_14, g_53_16, fr_53⟩⟩
          · refine ik_Wk 2 (pc_q := 23) (loc_q := [some (fI ka), some (fI (mi - fa))]) (st_q := [fI 0]) (h_q := h) (cl_q := 0) (sl_q := 0) rfl ?_
            refine ik_Wret rfl rfl ⟨_, _, rfl, rfl, ?_⟩
            refine ik_Wk 0 (pc_q := 55) (loc_q := [some (.ref 14), some (fI 0), some (fI (mi - fa)), none, none]) (st_q := [fI 0]) (h_q := h) (cl_q := 0) (sl_q := 0) rfl ?_
            refine ik_Wk 5 (pc_q := 62) (loc_q := [some (.ref 14), some (fI 0), some (fI (mi - fa)), some (fI 0), some (fI 0)]) (st_q := [fI 0, fI 0]) (h_q := h) (cl_q := 0) (sl_q := 0) rfl ?_
            refine fw_ic_ge rfl rfl (by decide +kernel) (by decide +kernel) (by decide +kernel) (by decide +kernel) (fun hc27 => ?_) (fun hc27 => absurd hc27 (by decide +kernel))
            have et : mx_tm ka (mi - fa) = 0 := by unfold mx_tm; (repeat' split) <;> omega
            have ez : (mx_sd (fun x => mx_w cn go ch s x) (pl - 1) ka pa fa mi xa sd) = (xa, sd) := by
              unfold mx_sd
              rw [if_neg (by omega), if_pos (by omega)]
              rw [et]
              rfl
            rw [ez]
            exact ik_Wret rfl rfl ⟨_, _, rfl, rfl, rfl, rfl, ⟨rfl, h14, h16, (hfr_refl [14, 16] h)⟩⟩
        · refine ik_Wk 1 (pc_q := 23) (loc_q := [some (fI ka), some (fI (mi - fa))]) (st_q := [fI 1]) (h_q := h) (cl_q := 0) (sl_q := 0) rfl ?_
          refine ik_Wret rfl rfl ⟨_, _, rfl, rfl, ?_⟩
          refine ik_Wk 0 (pc_q := 55) (loc_q := [some (.ref 14), some (fI 0), some (fI (mi - fa)), none, none]) (st_q := [fI 1]) (h_q := h) (cl_q := 0) (sl_q := 0) rfl ?_
          refine ik_Wk 5 (pc_q := 62) (loc_q := [some (.ref 14), some (fI 0), some (fI (mi - fa)), some (fI 1), some (fI 0)]) (st_q := [fI 1, fI 0]) (h_q := h) (cl_q := 0) (sl_q := 0) rfl ?_
          refine fw_ic_ge rfl rfl (by decide +kernel) (by decide +kernel) (by decide +kernel) (by decide +kernel) (fun hc28 => absurd hc28 (by decide +kernel)) (fun hc28 => ?_)
          refine ik_Wk 1 (pc_q := 66) (loc_q := [some (.ref 14), some (fI 0), some (fI (mi - fa)), some (fI 1), some (fI 0)]) (st_q := [.ref 14]) (h_q := h) (cl_q := 0) (sl_q := 0) rfl ?_
          refine fw_gf rfl rfl h14 rfl ?_
          refine ik_Wk 1 (pc_q := 70) (loc_q := [some (.ref 14), some (fI 0), some (fI (mi - fa)), some (fI 1), some (fI 0)]) (st_q := [.ref 14, .ref 7]) (h_q := h) (cl_q := 0) (sl_q := 0) rfl ?_
          refine fw_gf rfl rfl h14 rfl ?_
          refine ik_Wk 1 (pc_q := 74) (loc_q := [some (.ref 14), some (fI 0), some (fI (mi - fa)), some (fI 1), some (fI 0)]) (st_q := [fI 0, .ref 16, .ref 7]) (h_q := h) (cl_q := 0) (sl_q := 0) rfl ?_
          refine fw_ial (z := 0) rfl h16 (by decide +kernel) (Nat.le_of_ble_eq_true rfl) (by decide +kernel) ?_
          refine ik_Wk 0 (pc_q := 75) (loc_q := [some (.ref 14), some (fI 0), some (fI (mi - fa)), some (fI 1), some (fI 0)]) (st_q := [fI xa, .ref 7]) (h_q := h) (cl_q := 0) (sl_q := 0) rfl ?_
          refine ik_Wc 4 2 0 [.ref 7, fI xa] [] rfl rfl rfl (by decide +kernel) rfl rfl (fw_rec hl rfl h7 rfl (Nat.le_of_ble_eq_true rfl)) ?_
          refine ik_Wk 0 (pc_q := 0) (loc_q := [some (.ref 7), some (fI xa)]) (st_q := []) (h_q := h) (cl_q := 0) (sl_q := 0) rfl ?_
          refine ik_Wk 1 (pc_q := 1) (loc_q := [some (.ref 7), some (fI xa)]) (st_q := [fI xa]) (h_q := h) (cl_q := 0) (sl_q := 0) rfl ?_
          refine fw_if_lt rfl rfl (by omega) (by omega) (fun hc29 => ?_) (fun hc29 => ?_)
          · refine ik_Wk 1 (pc_q := 19) (loc_q := [some (.ref 7), some (fI xa)]) (st_q := [fI 0]) (h_q := h) (cl_q := 0) (sl_q := 0) rfl ?_
            refine ik_Wret rfl rfl ⟨_, _, rfl, rfl, ?_⟩
            refine ik_Wk 0 (pc_q := 78) (loc_q := [some (.ref 14), some (fI 0), some (fI (mi - fa)), some (fI 1), some (fI 0)]) (st_q := [fI 0]) (h_q := h) (cl_q := 0) (sl_q := 0) rfl ?_
            refine fw_if_eq rfl rfl (by decide +kernel) (by decide +kernel) (fun hc30 => ?_) (fun hc30 => absurd hc30 (by decide +kernel))
            have et : mx_tm ka (mi - fa) = 1 := by unfold mx_tm; (repeat' split) <;> omega
            have ez : (mx_sd (fun x => mx_w cn go ch s x) (pl - 1) ka pa fa mi xa sd) = (xa, sd) := by
              unfold mx_sd
              rw [if_neg (by omega), if_pos (by omega)]
              rw [et]
              exact mx_go_b (by omega)
            rw [ez]
            exact ik_Wret rfl rfl ⟨_, _, rfl, rfl, rfl, rfl, ⟨rfl, h14, h16, (hfr_refl [14, 16] h)⟩⟩
          · refine ik_Wk 2 (pc_q := 6) (loc_q := [some (.ref 7), some (fI xa)]) (st_q := [.ref 7, fI xa]) (h_q := h) (cl_q := 0) (sl_q := 0) rfl ?_
            refine fw_gf rfl rfl h7 rfl ?_
            refine ik_Wk 1 (pc_q := 10) (loc_q := [some (.ref 7), some (fI xa)]) (st_q := [fI 1, fI pl, fI xa]) (h_q := h) (cl_q := 0) (sl_q := 0) rfl ?_
            refine fw_sub rfl ?_
            refine fw_ic_ge rfl rfl (by omega) (by omega) (by omega) (by omega) (fun hc31 => ?_) (fun hc31 => ?_)
            · refine ik_Wk 1 (pc_q := 19) (loc_q := [some (.ref 7), some (fI xa)]) (st_q := [fI 0]) (h_q := h) (cl_q := 0) (sl_q := 0) rfl ?_
              refine ik_Wret rfl rfl ⟨_, _, rfl, rfl, ?_⟩
              refine ik_Wk 0 (pc_q := 78) (loc_q := [some (.ref 14), some (fI 0), some (fI (mi - fa)), some (fI 1), some (fI 0)]) (st_q := [fI 0]) (h_q := h) (cl_q := 0) (sl_q := 0) rfl ?_
              refine fw_if_eq rfl rfl (by decide +kernel) (by decide +kernel) (fun hc32 => ?_) (fun hc32 => absurd hc32 (by decide +kernel))
              have et : mx_tm ka (mi - fa) = 1 := by unfold mx_tm; (repeat' split) <;> omega
              have ez : (mx_sd (fun x => mx_w cn go ch s x) (pl - 1) ka pa fa mi xa sd) = (xa, sd) := by
                unfold mx_sd
                rw [if_neg (by omega), if_pos (by omega)]
                rw [et]
                exact mx_go_b (by omega)
              rw [ez]
              exact ik_Wret rfl rfl ⟨_, _, rfl, rfl, rfl, rfl, ⟨rfl, h14, h16, (hfr_refl [14, 16] h)⟩⟩
            · refine ik_Wk 2 (pc_q := 19) (loc_q := [some (.ref 7), some (fI xa)]) (st_q := [fI 1]) (h_q := h) (cl_q := 0) (sl_q := 0) rfl ?_
              refine ik_Wret rfl rfl ⟨_, _, rfl, rfl, ?_⟩
              refine ik_Wk 0 (pc_q := 78) (loc_q := [some (.ref 14), some (fI 0), some (fI (mi - fa)), some (fI 1), some (fI 0)]) (st_q := [fI 1]) (h_q := h) (cl_q := 0) (sl_q := 0) rfl ?_
              refine fw_if_eq rfl rfl (by decide +kernel) (by decide +kernel) (fun hc33 => absurd hc33 (by decide +kernel)) (fun hc33 => ?_)
              refine ik_Wk 1 (pc_q := 82) (loc_q := [some (.ref 14), some (fI 0), some (fI (mi - fa)), some (fI 1), some (fI 0)]) (st_q := [.ref 14]) (h_q := h) (cl_q := 0) (sl_q := 0) rfl ?_
              refine fw_gf rfl rfl h14 rfl ?_
              refine ik_Wk 2 (pc_q := 87) (loc_q := [some (.ref 14), some (fI 0), some (fI (mi - fa)), some (fI 1), some (fI 0)]) (st_q := [.ref 14, fI 0, .ref 16]) (h_q := h) (cl_q := 0) (sl_q := 0) rfl ?_
              refine fw_gf rfl rfl h14 rfl ?_
              refine ik_Wk 1 (pc_q := 91) (loc_q := [some (.ref 14), some (fI 0), some (fI (mi - fa)), some (fI 1), some (fI 0)]) (st_q := [.ref 14, .ref 7, fI 0, .ref 16]) (h_q := h) (cl_q := 0) (sl_q := 0) rfl ?_
              refine fw_gf rfl rfl h14 rfl ?_
              refine ik_Wk 1 (pc_q := 95) (loc_q := [some (.ref 14), some (fI 0), some (fI (mi - fa)), some (fI 1), some (fI 0)]) (st_q := [fI 0, .ref 16, .ref 7, fI 0, .ref 16]) (h_q := h) (cl_q := 0) (sl_q := 0) rfl ?_
              refine fw_ial (z := 0) rfl h16 (by decide +kernel) (Nat.le_of_ble_eq_true rfl) (by decide +kernel) ?_
              refine ik_Wk 0 (pc_q := 96) (loc_q := [some (.ref 14), some (fI 0), some (fI (mi - fa)), some (fI 1), some (fI 0)]) (st_q := [fI xa, .ref 7, fI 0, .ref 16]) (h_q := h) (cl_q := 0) (sl_q := 0) rfl ?_
              refine ik_Wk 1 (pc_q := 97) (loc_q := [some (.ref 14), some (fI 0), some (fI (mi - fa)), some (fI 1), some (fI 0)]) (st_q := [.ref 14, fI xa, .ref 7, fI 0, .ref 16]) (h_q := h) (cl_q := 0) (sl_q := 0) rfl ?_
              refine fw_call 27 1 0 [.ref 14] [fI xa, .ref 7, fI 0, .ref 16] rfl rfl rfl (Nat.le_of_ble_eq_true rfl) rfl rfl (fw_rec hl rfl h14 rfl (Nat.le_of_ble_eq_true rfl)) (cs_draw (mi := mi) (sd := sd) (by omega) h14 hl) ?_
              rintro _ h_54 ⟨rfl, e_54_14, F_54⟩
              have k_54 : cL h_54 := F_54.1.trans hl
              have fr_54 := hfr_cb (hfr_refl [14, 16] h) F_54 rfl
              have g_54_7 := (hfr_g F_54 7 rfl).trans h7
              have g_54_11 := (hfr_g F_54 11 rfl).trans h11
              have g_54_12 := (hfr_g F_54 12 rfl).trans h12
              have g_54_13 := (hfr_g F_54 13 rfl).trans h13
              have g_54_15 := (hfr_g F_54 15 rfl).trans h15
              have g_54_16 := (hfr_g F_54 16 rfl).trans h16
              have g_54_14 : cE h_54 14 (.inr (1, [.ref 7, .ref 15, .ref 16, fI mi, fJ (mx_d sd)])) := e_54_14
              refine ik_Wk 0 (pc_q := 100) (loc_q := [some (.ref 14), some (fI 0), some (fI (mi - fa)), some (fI 1), some (fI 0)]) (st_q := [fI (mx_v sd), fI xa, .ref 7, fI 0, .ref 16]) (h_q := h_54) (cl_q := 0) (sl_q := 0) rfl ?_
              refine fw_call 18 3 0 [.ref 7, fI xa, fI (mx_v sd)] [fI 0, .ref 16] rfl rfl rfl (Nat.le_of_ble_eq_true rfl) rfl rfl (fw_rec k_54 rfl g_54_7 rfl (Nat.le_of_ble_eq_true rfl)) (cs_goalBy (p := xa) (d := mx_v sd) (pl := pl) (lo := lo) (s := s) (wg := wg) (wc := wc) (we := we) (L := (mx_w cn go ch s xa)) (by omega) (by omega) (mx_v_b _).1 (mx_v_b _).2 (q4 _ (by omega) (by omega)) (q5 _ (by omega) (by omega)) g_54_7 g_54_11 n11 g_54_12 n12 g_54_13 n13 k_54) ?_
              rintro _ h_55 ⟨rfl, F_55⟩
              have k_55 : cL h_55 := F_55.1.trans k_54
              have fr_55 := hfr_cb fr_54 F_55 rfl
              have g_55_7 := (hfr_g F_55 7 rfl).trans g_54_7
              have g_55_11 := (hfr_g F_55 11 rfl).trans g_54_11
              have g_55_12 := (hfr_g F_55 12 rfl).trans g_54_12
              have g_55_13 := (hfr_g F_55 13 rfl).trans g_54_13
              have g_55_14 := (hfr_g F_55 14 rfl).trans g_54_14
              have g_55_15 := (hfr_g F_55 15 rfl).trans g_54_15
              have g_55_16 := (hfr_g F_55 16 rfl).trans g_54_16
              refine ik_Wk 0 (pc_q := 103) (loc_q := [some (.ref 14), some (fI 0), some (fI (mi - fa)), some (fI 1), some (fI 0)]) (st_q := [fI (mx_pk (mx_w cn go ch s xa) (mx_v sd) xa), fI 0, .ref 16]) (h_q := h_55) (cl_q := 0) (sl_q := 0) rfl ?_
              have hp55 := mx_pk_in (f := xa) (q5 xa (by omega) (by omega)) (mx_v_b sd).1 (mx_v_b sd).2
              have hz55 := mx_d_b sd
              refine fx_ias (z := 0) rfl g_55_16 (by decide +kernel) (Nat.le_of_ble_eq_true rfl) (by decide +kernel) ?_
              intro h_56 e_56 f_56 l_56
              have k_56 : cL h_56 := l_56.trans k_55
              have fr_56 := hfr_wb fr_55 f_56 l_56 rfl
              clear l_56
              have g_56_7 := (f_56 7 (Nat.ne_of_beq_eq_false rfl)).trans g_55_7
              have g_56_11 := (f_56 11 (Nat.ne_of_beq_eq_false rfl)).trans g_55_11
              have g_56_12 := (f_56 12 (Nat.ne_of_beq_eq_false rfl)).trans g_55_12
              have g_56_13 := (f_56 13 (Nat.ne_of_beq_eq_false rfl)).trans g_55_13
              have g_56_14 := (f_56 14 (Nat.ne_of_beq_eq_false rfl)).trans g_55_14
              have g_56_15 := (f_56 15 (Nat.ne_of_beq_eq_false rfl)).trans g_55_15
              have g_56_16 : cE h_56 16 (.inl (.int, fA [mx_pk (mx_w cn go ch s xa) (mx_v sd) xa, xb])) := e_56
              refine fw_inc (a := 0) (loc_q := [some (.ref 14), some (fI 0), some (fI (mi - fa)), some (fI 1), some (fI 1)]) rfl rfl (Nat.le_of_ble_eq_true rfl) rfl ?_
              refine ik_Wk 3 (pc_q := 62) (loc_q := [some (.ref 14), some (fI 0), some (fI (mi - fa)), some (fI 1), some (fI 1)]) (st_q := [fI 1, fI 1]) (h_q := h_56) (cl_q := 0) (sl_q := 0) rfl ?_
              refine fw_ic_ge rfl rfl (by decide +kernel) (by decide +kernel) (by decide +kernel) (by decide +kernel) (fun hc34 => ?_) (fun hc34 => absurd hc34 (by decide +kernel))
              have et : mx_tm ka (mi - fa) = 1 := by unfold mx_tm; (repeat' split) <;> omega
              have ez : (mx_sd (fun x => mx_w cn go ch s x) (pl - 1) ka pa fa mi xa sd) = (mx_pk (mx_w cn go ch s xa) (mx_v sd) xa, mx_d sd) := by
                unfold mx_sd
                rw [if_neg (by omega), if_pos (by omega)]
                rw [et]
                rw [mx_go_n (by omega)]
                rfl
              rw [ez]
              exact ik_Wret rfl rfl ⟨_, _, rfl, rfl, rfl, rfl, ⟨rfl, g_56_14, g_56_16, fr_56⟩⟩
    · have ez : (mx_sd (fun x => mx_w cn go ch s x) (pl - 1) ka pa fa mi xa sd) = (xa, sd) := by
        unfold mx_sd
        rw [if_neg (by omega), if_neg (by omega)]
      rw [ez]
      exact ik_Wret rfl rfl ⟨_, _, rfl, rfl, rfl, rfl, ⟨rfl, h14, h16, (hfr_refl [14, 16] h)⟩⟩

theorem cs_pass1 {h : List ik_E} {pl : Int} {mi : Int} {sd : Int} {ka : Int} {pa : Int} {fa : Int} {kb : Int} {pb : Int} {fb : Int} {xa : Int} {xb : Int} {s : Nat} {cn : List Int} {go : List Int} {ch : List Int} {lo : Int} {wg : List Int} {wc : List Int} {we : List Int} (q0 : 2 ≤ pl ∧ pl ≤ 12) (q1 : s < 4096) (q2 : 0 ≤ sd ∧ sd < 2147483648) (q3 : 0 ≤ mi ∧ mi < 2000000000) (q4 : ∀ x : Int, (0 : Int) ≤ x → x < pl - 1 → mx_wy wg wc we x (mx_w cn go ch s x)) (q5 : ∀ x : Int, (0 : Int) ≤ x → x < pl - 1 → mx_ok pl (mx_w cn go ch s x)) (q6 : (0 : Int) ≤ kb ∧ kb ≤ (2 : Int)) (q7 : (0 : Int) ≤ fb ∧ fb ≤ (30 : Int)) (q8 : fb < mi → (0 : Int) ≤ xb ∧ xb < pl) (h7 : cE h 7 (.inr (0, [fI pl, fI ((s : Nat) : Int), fI lo, .ref 8, .ref 9, .ref 10, .ref 11, .ref 12, .ref 13]))) (h11 : cE h 11 (.inl (.int, fA wg))) (n11 : wg.length = (60 : Nat)) (h12 : cE h 12 (.inl (.int, fA wc))) (n12 : wc.length = (60 : Nat)) (h13 : cE h 13 (.inl (.int, fA we))) (n13 : we.length = (12 : Nat)) (h14 : cE h 14 (.inr (1, [.ref 7, .ref 15, .ref 16, fI mi, fJ sd]))) (h15 : cE h 15 (.inl (.int, fA [ka, pa, fa, kb, pb, fb]))) (h16 : cE h 16 (.inl (.int, fA [xa, xb]))) (hl : h.length = (94 : Nat)) : ik_F 26 [.ref 14, fI 1] h (fun rv h_q => rv = [] ∧ cE h_q 14 (.inr (1, [.ref 7, .ref 15, .ref 16, fI mi, fJ ((mx_sd (fun x => mx_w cn go ch s x) (pl - 1) kb pb fb mi xb sd).2)])) ∧ cE h_q 16 (.inl (.int, fA [xa, (mx_sd (fun x => mx_w cn go ch s x) (pl - 1) kb pb fb mi xb sd).1])) ∧ hfr [14, 16] h h_q) := by
  refine ik_Wk 1 (pc_q := 1) (loc_q := [some (.ref 14), some (fI 1), none, none, none]) (st_q := [.ref 14]) (h_q := h) (cl_q := 0) (sl_q := 0) rfl ?_
  refine fw_gf rfl rfl h14 rfl ?_
  refine ik_Wk 1 (pc_q := 5) (loc_q := [some (.ref 14), some (fI 1), none, none, none]) (st_q := [.ref 14, fI mi]) (h_q := h) (cl_q := 0) (sl_q := 0) rfl ?_
  refine fw_gf rfl rfl h14 rfl ?_
  refine ik_Wk 2 (pc_q := 10) (loc_q := [some (.ref 14), some (fI 1), none, none, none]) (st_q := [fI 3, fI 1, .ref 15, fI mi]) (h_q := h) (cl_q := 0) (sl_q := 0) rfl ?_
  refine fw_mul rfl ?_
  refine ik_Wk 1 (pc_q := 12) (loc_q := [some (.ref 14), some (fI 1), none, none, none]) (st_q := [fI 2, fI 3, .ref 15, fI mi]) (h_q := h) (cl_q := 0) (sl_q := 0) rfl ?_
  refine fw_add rfl ?_
  refine fw_ial (z := 5) rfl h15 (by decide +kernel) (Nat.le_of_ble_eq_true rfl) (by decide +kernel) ?_
  refine ik_Wk 0 (pc_q := 14) (loc_q := [some (.ref 14), some (fI 1), none, none, none]) (st_q := [fI fb, fI mi]) (h_q := h) (cl_q := 0) (sl_q := 0) rfl ?_
  refine fw_sub rfl ?_
  refine ik_Wk 2 (pc_q := 17) (loc_q := [some (.ref 14), some (fI 1), some (fI (mi - fb)), none, none]) (st_q := [fI (mi - fb)]) (h_q := h) (cl_q := 0) (sl_q := 0) rfl ?_
  refine fw_if_ne rfl rfl (by omega) (by omega) (fun hc1 => ?_) (fun hc1 => ?_)
  · refine ik_Wk 1 (pc_q := 21) (loc_q := [some (.ref 14), some (fI 1), some (fI (mi - fb)), none, none]) (st_q := [.ref 14]) (h_q := h) (cl_q := 0) (sl_q := 0) rfl ?_
    refine fw_gf rfl rfl h14 rfl ?_
    refine ik_Wk 2 (pc_q := 26) (loc_q := [some (.ref 14), some (fI 1), some (fI (mi - fb)), none, none]) (st_q := [.ref 14, fI 1, .ref 16]) (h_q := h) (cl_q := 0) (sl_q := 0) rfl ?_
    refine fw_gf rfl rfl h14 rfl ?_
    refine ik_Wk 2 (pc_q := 31) (loc_q := [some (.ref 14), some (fI 1), some (fI (mi - fb)), none, none]) (st_q := [fI 3, fI 1, .ref 15, fI 1, .ref 16]) (h_q := h) (cl_q := 0) (sl_q := 0) rfl ?_
    refine fw_mul rfl ?_
    refine ik_Wk 1 (pc_q := 33) (loc_q := [some (.ref 14), some (fI 1), some (fI (mi - fb)), none, none]) (st_q := [fI 1, fI 3, .ref 15, fI 1, .ref 16]) (h_q := h) (cl_q := 0) (sl_q := 0) rfl ?_
    refine fw_add rfl ?_
    refine fw_ial (z := 4) rfl h15 (by decide +kernel) (Nat.le_of_ble_eq_true rfl) (by decide +kernel) ?_
    refine ik_Wk 0 (pc_q := 35) (loc_q := [some (.ref 14), some (fI 1), some (fI (mi - fb)), none, none]) (st_q := [fI pb, fI 1, .ref 16]) (h_q := h) (cl_q := 0) (sl_q := 0) rfl ?_
    refine fx_ias (z := 1) rfl h16 (by decide +kernel) (Nat.le_of_ble_eq_true rfl) (by decide +kernel) ?_
    intro h_57 e_57 f_57 l_57
    have k_57 : cL h_57 := l_57.trans hl
    have fr_57 := hfr_wb (hfr_refl [14, 16] h) f_57 l_57 rfl
    clear l_57
    have g_57_7 := (f_57 7 (Nat.ne_of_beq_eq_false rfl)).trans h7
    have g_57_11 := (f_57 11 (Nat.ne_of_beq_eq_false rfl)).trans h11
    have g_57_12 := (f_57 12 (Nat.ne_of_beq_eq_false rfl)).trans h12
    have g_57_13 := (f_57 13 (Nat.ne_of_beq_eq_false rfl)).trans h13
    have g_57_14 := (f_57 14 (Nat.ne_of_beq_eq_false rfl)).trans h14
    have g_57_15 := (f_57 15 (Nat.ne_of_beq_eq_false rfl)).trans h15
    have g_57_16 : cE h_57 16 (.inl (.int, fA [xa, pb])) := e_57
    refine ik_Wk 1 (pc_q := 37) (loc_q := [some (.ref 14), some (fI 1), some (fI (mi - fb)), none, none]) (st_q := [fI (mi - fb)]) (h_q := h_57) (cl_q := 0) (sl_q := 0) rfl ?_
    refine fw_if_gt rfl rfl (by omega) (by omega) (fun hc2 => absurd hc2 (by omega)) (fun hc2 => ?_)
    have ez : (mx_sd (fun x => mx_w cn go ch s x) (pl - 1) kb pb fb mi xb sd) = (pb, sd) := by
      unfold mx_sd
      rw [if_pos (by omega)]
    rw [ez]
    exact ik_Wret rfl rfl ⟨_, _, rfl, rfl, rfl, rfl, ⟨rfl, g_57_14, g_57_16, fr_57⟩⟩
  · refine ik_Wk 1 (pc_q := 37) (loc_q := [some (.ref 14), some (fI 1), some (fI (mi - fb)), none, none]) (st_q := [fI (mi - fb)]) (h_q := h) (cl_q := 0) (sl_q := 0) rfl ?_
    refine fw_if_gt rfl rfl (by omega) (by omega) (fun hc3 => ?_) (fun hc3 => ?_)
    · refine ik_Wk 1 (pc_q := 42) (loc_q := [some (.ref 14), some (fI 1), some (fI (mi - fb)), none, none]) (st_q := [.ref 14]) (h_q := h) (cl_q := 0) (sl_q := 0) rfl ?_
      refine fw_gf rfl rfl h14 rfl ?_
      refine ik_Wk 2 (pc_q := 47) (loc_q := [some (.ref 14), some (fI 1), some (fI (mi - fb)), none, none]) (st_q := [fI 3, fI 1, .ref 15]) (h_q := h) (cl_q := 0) (sl_q := 0) rfl ?_
      refine fw_mul rfl ?_
      refine ik_Wk 1 (pc_q := 49) (loc_q := [some (.ref 14), some (fI 1), some (fI (mi - fb)), none, none]) (st_q := [fI 0, fI 3, .ref 15]) (h_q := h) (cl_q := 0) (sl_q := 0) rfl ?_
      refine fw_add rfl ?_
      refine fw_ial (z := 3) rfl h15 (by decide +kernel) (Nat.le_of_ble_eq_true rfl) (by decide +kernel) ?_
      refine ik_Wk 0 (pc_q := 51) (loc_q := [some (.ref 14), some (fI 1), some (fI (mi - fb)), none, none]) (st_q := [fI kb]) (h_q := h) (cl_q := 0) (sl_q := 0) rfl ?_
      refine ik_Wk 1 (pc_q := 52) (loc_q := [some (.ref 14), some (fI 1), some (fI (mi - fb)), none, none]) (st_q := [fI (mi - fb), fI kb]) (h_q := h) (cl_q := 0) (sl_q := 0) rfl ?_
      refine ik_Wc 125 2 4 [fI kb, fI (mi - fb)] [] rfl rfl rfl (by decide +kernel) rfl rfl (fw_sta hl rfl (by decide +kernel)) ?_
      refine ik_Wk 0 (pc_q := 0) (loc_q := [some (fI kb), some (fI (mi - fb))]) (st_q := []) (h_q := h) (cl_q := 0) (sl_q := 0) rfl ?_
      refine ik_Wk 2 (pc_q := 2) (loc_q := [some (fI kb), some (fI (mi - fb))]) (st_q := [fI 1, fI kb]) (h_q := h) (cl_q := 0) (sl_q := 0) rfl ?_
      refine fw_ic_ne rfl rfl (by omega) (by omega) (by omega) (by omega) (fun hc4 => ?_) (fun hc4 => ?_)
      · refine ik_Wk 1 (pc_q := 6) (loc_q := [some (fI kb), some (fI (mi - fb))]) (st_q := [fI 2]) (h_q := h) (cl_q := 0) (sl_q := 0) rfl ?_
        refine ik_Wret rfl rfl ⟨_, _, rfl, rfl, ?_⟩
        refine ik_Wk 0 (pc_q := 55) (loc_q := [some (.ref 14), some (fI 1), some (fI (mi - fb)), none, none]) (st_q := [fI 2]) (h_q := h) (cl_q := 0) (sl_q := 0) rfl ?_
        refine ik_Wk 5 (pc_q := 62) (loc_q := [some (.ref 14), some (fI 1), some (fI (mi - fb)), some (fI 2), some (fI 0)]) (st_q := [fI 2, fI 0]) (h_q := h) (cl_q := 0) (sl_q := 0) rfl ?_
        refine fw_ic_ge rfl rfl (by decide +kernel) (by decide +kernel) (by decide +kernel) (by decide +kernel) (fun hc5 => absurd hc5 (by decide +kernel)) (fun hc5 => ?_)
        refine ik_Wk 1 (pc_q := 66) (loc_q := [some (.ref 14), some (fI 1), some (fI (mi - fb)), some (fI 2), some (fI 0)]) (st_q := [.ref 14]) (h_q := h) (cl_q := 0) (sl_q := 0) rfl ?_
        refine fw_gf rfl rfl h14 rfl ?_
        refine ik_Wk 1 (pc_q := 70) (loc_q := [some (.ref 14), some (fI 1), some (fI (mi - fb)), some (fI 2), some (fI 0)]) (st_q := [.ref 14, .ref 7]) (h_q := h) (cl_q := 0) (sl_q := 0) rfl ?_
        refine fw_gf rfl rfl h14 rfl ?_
        refine ik_Wk 1 (pc_q := 74) (loc_q := [some (.ref 14), some (fI 1), some (fI (mi - fb)), some (fI 2), some (fI 0)]) (st_q := [fI 1, .ref 16, .ref 7]) (h_q := h) (cl_q := 0) (sl_q := 0) rfl ?_
        refine fw_ial (z := 1) rfl h16 (by decide +kernel) (Nat.le_of_ble_eq_true rfl) (by decide +kernel) ?_
        refine ik_Wk 0 (pc_q := 75) (loc_q := [some (.ref 14), some (fI 1), some (fI (mi - fb)), some (fI 2), some (fI 0)]) (st_q := [fI xb, .ref 7]) (h_q := h) (cl_q := 0) (sl_q := 0) rfl ?_
        refine ik_Wc 4 2 0 [.ref 7, fI xb] [] rfl rfl rfl (by decide +kernel) rfl rfl (fw_rec hl rfl h7 rfl (Nat.le_of_ble_eq_true rfl)) ?_
        refine ik_Wk 0 (pc_q := 0) (loc_q := [some (.ref 7), some (fI xb)]) (st_q := []) (h_q := h) (cl_q := 0) (sl_q := 0) rfl ?_
        refine ik_Wk 1 (pc_q := 1) (loc_q := [some (.ref 7), some (fI xb)]) (st_q := [fI xb]) (h_q := h) (cl_q := 0) (sl_q := 0) rfl ?_
        refine fw_if_lt rfl rfl (by omega) (by omega) (fun hc6 => ?_) (fun hc6 => ?_)
        · refine ik_Wk 1 (pc_q := 19) (loc_q := [some (.ref 7), some (fI xb)]) (st_q := [fI 0]) (h_q := h) (cl_q := 0) (sl_q := 0) rfl ?_
          refine ik_Wret rfl rfl ⟨_, _, rfl, rfl, ?_⟩
          refine ik_Wk 0 (pc_q := 78) (loc_q := [some (.ref 14), some (fI 1), some (fI (mi - fb)), some (fI 2), some (fI 0)]) (st_q := [fI 0]) (h_q := h) (cl_q := 0) (sl_q := 0) rfl ?_
          refine fw_if_eq rfl rfl (by decide +kernel) (by decide +kernel) (fun hc7 => ?_) (fun hc7 => absurd hc7 (by decide +kernel))
          have et : mx_tm kb (mi - fb) = 2 := by unfold mx_tm; (repeat' split) <;> omega
          have ez : (mx_sd (fun x => mx_w cn go ch s x) (pl - 1) kb pb fb mi xb sd) = (xb, sd) := by
            unfold mx_sd
            rw [if_neg (by omega), if_pos (by omega)]
            rw [et]
            exact mx_go_b (by omega)
          rw [ez]
          exact ik_Wret rfl rfl ⟨_, _, rfl, rfl, rfl, rfl, ⟨rfl, h14, h16, (hfr_refl [14, 16] h)⟩⟩
        · refine ik_Wk 2 (pc_q := 6) (loc_q := [some (.ref 7), some (fI xb)]) (st_q := [.ref 7, fI xb]) (h_q := h) (cl_q := 0) (sl_q := 0) rfl ?_
          refine fw_gf rfl rfl h7 rfl ?_
          refine ik_Wk 1 (pc_q := 10) (loc_q := [some (.ref 7), some (fI xb)]) (st_q := [fI 1, fI pl, fI xb]) (h_q := h) (cl_q := 0) (sl_q := 0) rfl ?_
          refine fw_sub rfl ?_
          refine fw_ic_ge rfl rfl (by omega) (by omega) (by omega) (by omega) (fun hc8 => ?_) (fun hc8 => ?_)
          · refine ik_Wk 1 (pc_q := 19) (loc_q := [some (.ref 7), some (fI xb)]) (st_q := [fI 0]) (h_q := h) (cl_q := 0) (sl_q := 0) rfl ?_
            refine ik_Wret rfl rfl ⟨_, _, rfl, rfl, ?_⟩
            refine ik_Wk 0 (pc_q := 78) (loc_q := [some (.ref 14), some (fI 1), some (fI (mi - fb)), some (fI 2), some (fI 0)]) (st_q := [fI 0]) (h_q := h) (cl_q := 0) (sl_q := 0) rfl ?_
            refine fw_if_eq rfl rfl (by decide +kernel) (by decide +kernel) (fun hc9 => ?_) (fun hc9 => absurd hc9 (by decide +kernel))
            have et : mx_tm kb (mi - fb) = 2 := by unfold mx_tm; (repeat' split) <;> omega
            have ez : (mx_sd (fun x => mx_w cn go ch s x) (pl - 1) kb pb fb mi xb sd) = (xb, sd) := by
              unfold mx_sd
              rw [if_neg (by omega), if_pos (by omega)]
              rw [et]
              exact mx_go_b (by omega)
            rw [ez]
            exact ik_Wret rfl rfl ⟨_, _, rfl, rfl, rfl, rfl, ⟨rfl, h14, h16, (hfr_refl [14, 16] h)⟩⟩
          · refine ik_Wk 2 (pc_q := 19) (loc_q := [some (.ref 7), some (fI xb)]) (st_q := [fI 1]) (h_q := h) (cl_q := 0) (sl_q := 0) rfl ?_
            refine ik_Wret rfl rfl ⟨_, _, rfl, rfl, ?_⟩
            refine ik_Wk 0 (pc_q := 78) (loc_q := [some (.ref 14), some (fI 1), some (fI (mi - fb)), some (fI 2), some (fI 0)]) (st_q := [fI 1]) (h_q := h) (cl_q := 0) (sl_q := 0) rfl ?_
            refine fw_if_eq rfl rfl (by decide +kernel) (by decide +kernel) (fun hc10 => absurd hc10 (by decide +kernel)) (fun hc10 => ?_)
            refine ik_Wk 1 (pc_q := 82) (loc_q := [some (.ref 14), some (fI 1), some (fI (mi - fb)), some (fI 2), some (fI 0)]) (st_q := [.ref 14]) (h_q := h) (cl_q := 0) (sl_q := 0) rfl ?_
            refine fw_gf rfl rfl h14 rfl ?_
            refine ik_Wk 2 (pc_q := 87) (loc_q := [some (.ref 14), some (fI 1), some (fI (mi - fb)), some (fI 2), some (fI 0)]) (st_q := [.ref 14, fI 1, .ref 16]) (h_q := h) (cl_q := 0) (sl_q := 0) rfl ?_
            refine fw_gf rfl rfl h14 rfl ?_
            refine ik_Wk 1 (pc_q := 91) (loc_q := [some (.ref 14), some (fI 1), some (fI (mi - fb)), some (fI 2), some (fI 0)]) (st_q := [.ref 14, .ref 7, fI 1, .ref 16]) (h_q := h) (cl_q := 0) (sl_q := 0) rfl ?_
            refine fw_gf rfl rfl h14 rfl ?_
            refine ik_Wk 1 (pc_q := 95) (loc_q := [some (.ref 14), some (fI 1), some (fI (mi - fb)), some (fI 2), some (fI 0)]) (st_q := [fI 1, .ref 16, .ref 7, fI 1, .ref 16]) (h_q := h) (cl_q := 0) (sl_q := 0) rfl ?_
            refine fw_ial (z := 1) rfl h16 (by decide +kernel) (Nat.le_of_ble_eq_true rfl) (by decide +kernel) ?_
            refine ik_Wk 0 (pc_q := 96) (loc_q := [some (.ref 14), some (fI 1), some (fI (mi - fb)), some (fI 2), some (fI 0)]) (st_q := [fI xb, .ref 7, fI 1, .ref 16]) (h_q := h) (cl_q := 0) (sl_q := 0) rfl ?_
            refine ik_Wk 1 (pc_q := 97) (loc_q := [some (.ref 14), some (fI 1), some (fI (mi - fb)), some (fI 2), some (fI 0)]) (st_q := [.ref 14, fI xb, .ref 7, fI 1, .ref 16]) (h_q := h) (cl_q := 0) (sl_q := 0) rfl ?_
            refine fw_call 27 1 0 [.ref 14] [fI xb, .ref 7, fI 1, .ref 16] rfl rfl rfl (Nat.le_of_ble_eq_true rfl) rfl rfl (fw_rec hl rfl h14 rfl (Nat.le_of_ble_eq_true rfl)) (cs_draw (mi := mi) (sd := sd) (by omega) h14 hl) ?_
            rintro _ h_58 ⟨rfl, e_58_14, F_58⟩
            have k_58 : cL h_58 := F_58.1.trans hl
            have fr_58 := hfr_cb (hfr_refl [14, 16] h) F_58 rfl
            have g_58_7 := (hfr_g F_58 7 rfl).trans h7
            have g_58_11 := (hfr_g F_58 11 rfl).trans h11
            have g_58_12 := (hfr_g F_58 12 rfl).trans h12
            have g_58_13 := (hfr_g F_58 13 rfl).trans h13
            have g_58_15 := (hfr_g F_58 15 rfl).trans h15
            have g_58_16 := (hfr_g F_58 16 rfl).trans h16
            have g_58_14 : cE h_58 14 (.inr (1, [.ref 7, .ref 15, .ref 16, fI mi, fJ (mx_d sd)])) := e_58_14
            refine ik_Wk 0 (pc_q := 100) (loc_q := [some (.ref 14), some (fI 1), some (fI (mi - fb)), some (fI 2), some (fI 0)]) (st_q := [fI (mx_v sd), fI xb, .ref 7, fI 1, .ref 16]) (h_q := h_58) (cl_q := 0) (sl_q := 0) rfl ?_
            refine fw_call 18 3 0 [.ref 7, fI xb, fI (mx_v sd)] [fI 1, .ref 16] rfl rfl rfl (Nat.le_of_ble_eq_true rfl) rfl rfl (fw_rec k_58 rfl g_58_7 rfl (Nat.le_of_ble_eq_true rfl)) (cs_goalBy (p := xb) (d := mx_v sd) (pl := pl) (lo := lo) (s := s) (wg := wg) (wc := wc) (we := we) (L := (mx_w cn go ch s xb)) (by omega) (by omega) (mx_v_b _).1 (mx_v_b _).2 (q4 _ (by omega) (by omega)) (q5 _ (by omega) (by omega)) g_58_7 g_58_11 n11 g_58_12 n12 g_58_13 n13 k_58) ?_
            rintro _ h_59 ⟨rfl, F_59⟩
            have k_59 : cL h_59 := F_59.1.trans k_58
            have fr_59 := hfr_cb fr_58 F_59 rfl
            have g_59_7 := (hfr_g F_59 7 rfl).trans g_58_7
            have g_59_11 := (hfr_g F_59 11 rfl).trans g_58_11
            have g_59_12 := (hfr_g F_59 12 rfl).trans g_58_12
            have g_59_13 := (hfr_g F_59 13 rfl).trans g_58_13
            have g_59_14 := (hfr_g F_59 14 rfl).trans g_58_14
            have g_59_15 := (hfr_g F_59 15 rfl).trans g_58_15
            have g_59_16 := (hfr_g F_59 16 rfl).trans g_58_16
            refine ik_Wk 0 (pc_q := 103) (loc_q := [some (.ref 14), some (fI 1), some (fI (mi - fb)), some (fI 2), some (fI 0)]) (st_q := [fI (mx_pk (mx_w cn go ch s xb) (mx_v sd) xb), fI 1, .ref 16]) (h_q := h_59) (cl_q := 0) (sl_q := 0) rfl ?_
            have hp59 := mx_pk_in (f := xb) (q5 xb (by omega) (by omega)) (mx_v_b sd).1 (mx_v_b sd).2
            have hz59 := mx_d_b sd
            refine fx_ias (z := 1) rfl g_59_16 (by decide +kernel) (Nat.le_of_ble_eq_true rfl) (by decide +kernel) ?_
            intro h_60 e_60 f_60 l_60
            have k_60 : cL h_60 := l_60.trans k_59
            have fr_60 := hfr_wb fr_59 f_60 l_60 rfl
            clear l_60
            have g_60_7 := (f_60 7 (Nat.ne_of_beq_eq_false rfl)).trans g_59_7
            have g_60_11 := (f_60 11 (Nat.ne_of_beq_eq_false rfl)).trans g_59_11
            have g_60_12 := (f_60 12 (Nat.ne_of_beq_eq_false rfl)).trans g_59_12
            have g_60_13 := (f_60 13 (Nat.ne_of_beq_eq_false rfl)).trans g_59_13
            have g_60_14 := (f_60 14 (Nat.ne_of_beq_eq_false rfl)).trans g_59_14
            have g_60_15 := (f_60 15 (Nat.ne_of_beq_eq_false rfl)).trans g_59_15
            have g_60_16 : cE h_60 16 (.inl (.int, fA [xa, mx_pk (mx_w cn go ch s xb) (mx_v sd) xb])) := e_60
            refine fw_inc (a := 0) (loc_q := [some (.ref 14), some (fI 1), some (fI (mi - fb)), some (fI 2), some (fI 1)]) rfl rfl (Nat.le_of_ble_eq_true rfl) rfl ?_
            refine ik_Wk 3 (pc_q := 62) (loc_q := [some (.ref 14), some (fI 1), some (fI (mi - fb)), some (fI 2), some (fI 1)]) (st_q := [fI 2, fI 1]) (h_q := h_60) (cl_q := 0) (sl_q := 0) rfl ?_
            refine fw_ic_ge rfl rfl (by decide +kernel) (by decide +kernel) (by decide +kernel) (by decide +kernel) (fun hc11 => absurd hc11 (by decide +kernel)) (fun hc11 => ?_)
            refine ik_Wk 1 (pc_q := 66) (loc_q := [some (.ref 14), some (fI 1), some (fI (mi - fb)), some (fI 2), some (fI 1)]) (st_q := [.ref 14]) (h_q := h_60) (cl_q := 0) (sl_q := 0) rfl ?_
            refine fw_gf rfl rfl g_60_14 rfl ?_
            refine ik_Wk 1 (pc_q := 70) (loc_q := [some (.ref 14), some (fI 1), some (fI (mi - fb)), some (fI 2), some (fI 1)]) (st_q := [.ref 14, .ref 7]) (h_q := h_60) (cl_q := 0) (sl_q := 0) rfl ?_
            refine fw_gf rfl rfl g_60_14 rfl ?_
            refine ik_Wk 1 (pc_q := 74) (loc_q := [some (.ref 14), some (fI 1), some (fI (mi - fb)), some (fI 2), some (fI 1)]) (st_q := [fI 1, .ref 16, .ref 7]) (h_q := h_60) (cl_q := 0) (sl_q := 0) rfl ?_
            refine fw_ial (z := 1) rfl g_60_16 (by decide +kernel) (Nat.le_of_ble_eq_true rfl) (by decide +kernel) ?_
            refine ik_Wk 0 (pc_q := 75) (loc_q := [some (.ref 14), some (fI 1), some (fI (mi - fb)), some (fI 2), some (fI 1)]) (st_q := [fI (mx_pk (mx_w cn go ch s xb) (mx_v sd) xb), .ref 7]) (h_q := h_60) (cl_q := 0) (sl_q := 0) rfl ?_
            refine ik_Wc 4 2 0 [.ref 7, fI (mx_pk (mx_w cn go ch s xb) (mx_v sd) xb)] [] rfl rfl rfl (by decide +kernel) rfl rfl (fw_rec k_60 rfl g_60_7 rfl (Nat.le_of_ble_eq_true rfl)) ?_
            refine ik_Wk 0 (pc_q := 0) (loc_q := [some (.ref 7), some (fI (mx_pk (mx_w cn go ch s xb) (mx_v sd) xb))]) (st_q := []) (h_q := h_60) (cl_q := 0) (sl_q := 0) rfl ?_
            refine ik_Wk 1 (pc_q := 1) (loc_q := [some (.ref 7), some (fI (mx_pk (mx_w cn go ch s xb) (mx_v sd) xb))]) (st_q := [fI (mx_pk (mx_w cn go ch s xb) (mx_v sd) xb)]) (h_q := h_60) (cl_q := 0) (sl_q := 0) rfl ?_
            refine fw_if_lt rfl rfl (by omega) (by omega) (fun hc12 => ?_) (fun hc12 => ?_)
            · refine ik_Wk 1 (pc_q := 19) (loc_q := [some (.ref 7), some (fI (mx_pk (mx_w cn go ch s xb) (mx_v sd) xb))]) (st_q := [fI 0]) (h_q := h_60) (cl_q := 0) (sl_q := 0) rfl ?_
              refine ik_Wret rfl rfl ⟨_, _, rfl, rfl, ?_⟩
              refine ik_Wk 0 (pc_q := 78) (loc_q := [some (.ref 14), some (fI 1), some (fI (mi - fb)), some (fI 2), some (fI 1)]) (st_q := [fI 0]) (h_q := h_60) (cl_q := 0) (sl_q := 0) rfl ?_
              refine fw_if_eq rfl rfl (by decide +kernel) (by decide +kernel) (fun hc13 => ?_) (fun hc13 => absurd hc13 (by decide +kernel))
              have et : mx_tm kb (mi - fb) = 2 := by unfold mx_tm; (repeat' split) <;> omega
              have ez : (mx_sd (fun x => mx_w cn go ch s x) (pl - 1) kb pb fb mi xb sd) = (mx_pk (mx_w cn go ch s xb) (mx_v sd) xb, mx_d sd) := by
                unfold mx_sd
                rw [if_neg (by omega), if_pos (by omega)]
                rw [et]
                rw [mx_go_n (by omega)]
                exact mx_go_b (by omega)
              rw [ez]
              exact ik_Wret rfl rfl ⟨_, _, rfl, rfl, rfl, rfl, ⟨rfl, g_60_14, g_60_16, fr_60⟩⟩
            · refine ik_Wk 2 (pc_q := 6) (loc_q := [some (.ref 7), some (fI (mx_pk (mx_w cn go ch s xb) (mx_v sd) xb))]) (st_q := [.ref 7, fI (mx_pk (mx_w cn go ch s xb) (mx_v sd) xb)]) (h_q := h_60) (cl_q := 0) (sl_q := 0) rfl ?_
              refine fw_gf rfl rfl g_60_7 rfl ?_
              refine ik_Wk 1 (pc_q := 10) (loc_q := [some (.ref 7), some (fI (mx_pk (mx_w cn go ch s xb) (mx_v sd) xb))]) (st_q := [fI 1, fI pl, fI (mx_pk (mx_w cn go ch s xb) (mx_v sd) xb)]) (h_q := h_60) (cl_q := 0) (sl_q := 0) rfl ?_
              refine fw_sub rfl ?_
              refine fw_ic_ge rfl rfl (by omega) (by omega) (by omega) (by omega) (fun hc14 => ?_) (fun hc14 => ?_)
              · refine ik_Wk 1 (pc_q := 19) (loc_q := [some (.ref 7), some (fI (mx_pk (mx_w cn go ch s xb) (mx_v sd) xb))]) (st_q := [fI 0]) (h_q := h_60) (cl_q := 0) (sl_q := 0) rfl ?_
                refine ik_Wret rfl rfl ⟨_, _, rfl, rfl, ?_⟩
                refine ik_Wk 0 (pc_q := 78) (loc_q := [some (.ref 14), some (fI 1), some (fI (mi - fb)), some (fI 2), some (fI 1)]) (st_q := [fI 0]) (h_q := h_60) (cl_q := 0) (sl_q := 0) rfl ?_
                refine fw_if_eq rfl rfl (by decide +kernel) (by decide +kernel) (fun hc15 => ?_) (fun hc15 => absurd hc15 (by decide +kernel))
                have et : mx_tm kb (mi - fb) = 2 := by unfold mx_tm; (repeat' split) <;> omega
                have ez : (mx_sd (fun x => mx_w cn go ch s x) (pl - 1) kb pb fb mi xb sd) = (mx_pk (mx_w cn go ch s xb) (mx_v sd) xb, mx_d sd) := by
                  unfold mx_sd
                  rw [if_neg (by omega), if_pos (by omega)]
                  rw [et]
                  rw [mx_go_n (by omega)]
                  exact mx_go_b (by omega)
                rw [ez]
                exact ik_Wret rfl rfl ⟨_, _, rfl, rfl, rfl, rfl, ⟨rfl, g_60_14, g_60_16, fr_60⟩⟩
              · refine ik_Wk 2 (pc_q := 19) (loc_q := [some (.ref 7), some (fI (mx_pk (mx_w cn go ch s xb) (mx_v sd) xb))]) (st_q := [fI 1]) (h_q := h_60) (cl_q := 0) (sl_q := 0) rfl ?_
                refine ik_Wret rfl rfl ⟨_, _, rfl, rfl, ?_⟩
                refine ik_Wk 0 (pc_q := 78) (loc_q := [some (.ref 14), some (fI 1), some (fI (mi - fb)), some (fI 2), some (fI 1)]) (st_q := [fI 1]) (h_q := h_60) (cl_q := 0) (sl_q := 0) rfl ?_
                refine fw_if_eq rfl rfl (by decide +kernel) (by decide +kernel) (fun hc16 => absurd hc16 (by decide +kernel)) (fun hc16 => ?_)
                refine ik_Wk 1 (pc_q := 82) (loc_q := [some (.ref 14), some (fI 1), some (fI (mi - fb)), some (fI 2), some (fI 1)]) (st_q := [.ref 14]) (h_q := h_60) (cl_q := 0) (sl_q := 0) rfl ?_
                refine fw_gf rfl rfl g_60_14 rfl ?_
                refine ik_Wk 2 (pc_q := 87) (loc_q := [some (.ref 14), some (fI 1), some (fI (mi - fb)), some (fI 2), some (fI 1)]) (st_q := [.ref 14, fI 1, .ref 16]) (h_q := h_60) (cl_q := 0) (sl_q := 0) rfl ?_
                refine fw_gf rfl rfl g_60_14 rfl ?_
                refine ik_Wk 1 (pc_q := 91) (loc_q := [some (.ref 14), some (fI 1), some (fI (mi - fb)), some (fI 2), some (fI 1)]) (st_q := [.ref 14, .ref 7, fI 1, .ref 16]) (h_q := h_60) (cl_q := 0) (sl_q := 0) rfl ?_
                refine fw_gf rfl rfl g_60_14 rfl ?_
                refine ik_Wk 1 (pc_q := 95) (loc_q := [some (.ref 14), some (fI 1), some (fI (mi - fb)), some (fI 2), some (fI 1)]) (st_q := [fI 1, .ref 16, .ref 7, fI 1, .ref 16]) (h_q := h_60) (cl_q := 0) (sl_q := 0) rfl ?_
                refine fw_ial (z := 1) rfl g_60_16 (by decide +kernel) (Nat.le_of_ble_eq_true rfl) (by decide +kernel) ?_
                refine ik_Wk 0 (pc_q := 96) (loc_q := [some (.ref 14), some (fI 1), some (fI (mi - fb)), some (fI 2), some (fI 1)]) (st_q := [fI (mx_pk (mx_w cn go ch s xb) (mx_v sd) xb), .ref 7, fI 1, .ref 16]) (h_q := h_60) (cl_q := 0) (sl_q := 0) rfl ?_
                refine ik_Wk 1 (pc_q := 97) (loc_q := [some (.ref 14), some (fI 1), some (fI (mi - fb)), some (fI 2), some (fI 1)]) (st_q := [.ref 14, fI (mx_pk (mx_w cn go ch s xb) (mx_v sd) xb), .ref 7, fI 1, .ref 16]) (h_q := h_60) (cl_q := 0) (sl_q := 0) rfl ?_
                refine fw_call 27 1 0 [.ref 14] [fI (mx_pk (mx_w cn go ch s xb) (mx_v sd) xb), .ref 7, fI 1, .ref 16] rfl rfl rfl (Nat.le_of_ble_eq_true rfl) rfl rfl (fw_rec k_60 rfl g_60_14 rfl (Nat.le_of_ble_eq_true rfl)) (cs_draw (mi := mi) (sd := mx_d sd) (by omega) g_60_14 k_60) ?_
                rintro _ h_61 ⟨rfl, e_61_14, F_61⟩
                have k_61 : cL h_61 := F_61.1.trans k_60
                have fr_61 := hfr_cb fr_60 F_61 rfl
                have g_61_7 := (hfr_g F_61 7 rfl).trans g_60_7
                have g_61_11 := (hfr_g F_61 11 rfl).trans g_60_11
                have g_61_12 := (hfr_g F_61 12 rfl).trans g_60_12
                have g_61_13 := (hfr_g F_61 13 rfl).trans g_60_13
                have g_61_15 := (hfr_g F_61 15 rfl).trans g_60_15
                have g_61_16 := (hfr_g F_61 16 rfl).trans g_60_16
                have g_61_14 : cE h_61 14 (.inr (1, [.ref 7, .ref 15, .ref 16, fI mi, fJ (mx_d (mx_d sd))])) := e_61_14
                refine ik_Wk 0 (pc_q := 100) (loc_q := [some (.ref 14), some (fI 1), some (fI (mi - fb)), some (fI 2), some (fI 1)]) (st_q := [fI (mx_v (mx_d sd)), fI (mx_pk (mx_w cn go ch s xb) (mx_v sd) xb), .ref 7, fI 1, .ref 16]) (h_q := h_61) (cl_q := 0) (sl_q := 0) rfl ?_
                refine fw_call 18 3 0 [.ref 7, fI (mx_pk (mx_w cn go ch s xb) (mx_v sd) xb), fI (mx_v (mx_d sd))] [fI 1, .ref 16] rfl rfl rfl (Nat.le_of_ble_eq_true rfl) rfl rfl (fw_rec k_61 rfl g_61_7 rfl (Nat.le_of_ble_eq_true rfl)) (cs_goalBy (p := mx_pk (mx_w cn go ch s xb) (mx_v sd) xb) (d := mx_v (mx_d sd)) (pl := pl) (lo := lo) (s := s) (wg := wg) (wc := wc) (we := we) (L := (mx_w cn go ch s (mx_pk (mx_w cn go ch s xb) (mx_v sd) xb))) (by omega) (by omega) (mx_v_b _).1 (mx_v_b _).2 (q4 _ (by omega) (by omega)) (q5 _ (by omega) (by omega)) g_61_7 g_61_11 n11 g_61_12 n12 g_61_13 n13 k_61) ?_
                rintro _ h_62 ⟨rfl, F_62⟩
                have k_62 : cL h_62 := F_62.1.trans k_61
                have fr_62 := hfr_cb fr_61 F_62 rfl
                have g_62_7 := (hfr_g F_62 7 rfl).trans g_61_7
                have g_62_11 := (hfr_g F_62 11 rfl).trans g_61_11
                have g_62_12 := (hfr_g F_62 12 rfl).trans g_61_12
                have g_62_13 := (hfr_g F_62 13 rfl).trans g_61_13
                have g_62_14 := (hfr_g F_62 14 rfl).trans g_61_14
                have g_62_15 := (hfr_g F_62 15 rfl).trans g_61_15
                have g_62_16 := (hfr_g F_62 16 rfl).trans g_61_16
                refine ik_Wk 0 (pc_q := 103) (loc_q := [some (.ref 14), some (fI 1), some (fI (mi - fb)), some (fI 2), some (fI 1)]) (st_q := [fI (mx_pk (mx_w cn go ch s (mx_pk (mx_w cn go ch s xb) (mx_v sd) xb)) (mx_v (mx_d sd)) (mx_pk (mx_w cn go ch s xb) (mx_v sd) xb)), fI 1, .ref 16]) (h_q := h_62) (cl_q := 0) (sl_q := 0) rfl ?_
                have hp62 := mx_pk_in (f := mx_pk (mx_w cn go ch s xb) (mx_v sd) xb) (q5 (mx_pk (mx_w cn go ch s xb) (mx_v sd) xb) (by omega) (by omega)) (mx_v_b (mx_d sd)).1 (mx_v_b (mx_d sd)).2
                have hz62 := mx_d_b (mx_d sd)
                refine fx_ias (z := 1) rfl g_62_16 (by decide +kernel) (Nat.le_of_ble_eq_true rfl) (by decide +kernel) ?_
                intro h_63 e_63 f_63 l_63
                have k_63 : cL h_63 := l_63.trans k_62
                have fr_63 := hfr_wb fr_62 f_63 l_63 rfl
                clear l_63
                have g_63_7 := (f_63 7 (Nat.ne_of_beq_eq_false rfl)).trans g_62_7
                have g_63_11 := (f_63 11 (Nat.ne_of_beq_eq_false rfl)).trans g_62_11
                have g_63_12 := (f_63 12 (Nat.ne_of_beq_eq_false rfl)).trans g_62_12
                have g_63_13 := (f_63 13 (Nat.ne_of_beq_eq_false rfl)).trans g_62_13
                have g_63_14 := (f_63 14 (Nat.ne_of_beq_eq_false rfl)).trans g_62_14
                have g_63_15 := (f_63 15 (Nat.ne_of_beq_eq_false rfl)).trans g_62_15
                have g_63_16 : cE h_63 16 (.inl (.int, fA [xa, mx_pk (mx_w cn go ch s (mx_pk (mx_w cn go ch s xb) (mx_v sd) xb)) (mx_v (mx_d sd)) (mx_pk (mx_w cn go ch s xb) (mx_v sd) xb)])) := e_63
                refine fw_inc (a := 1) (loc_q := [some (.ref 14), some (fI 1), some (fI (mi - fb)), some (fI 2), some (fI 2)]) rfl rfl (Nat.le_of_ble_eq_true rfl) rfl ?_
                refine ik_Wk 3 (pc_q := 62) (loc_q := [some (.ref 14), some (fI 1), some (fI (mi - fb)), some (fI 2), some (fI 2)]) (st_q := [fI 2, fI 2]) (h_q := h_63) (cl_q := 0) (sl_q := 0) rfl ?_
                refine fw_ic_ge rfl rfl (by decide +kernel) (by decide +kernel) (by decide +kernel) (by decide +kernel) (fun hc17 => ?_) (fun hc17 => absurd hc17 (by decide +kernel))
                have et : mx_tm kb (mi - fb) = 2 := by unfold mx_tm; (repeat' split) <;> omega
                have ez : (mx_sd (fun x => mx_w cn go ch s x) (pl - 1) kb pb fb mi xb sd) = (mx_pk (mx_w cn go ch s (mx_pk (mx_w cn go ch s xb) (mx_v sd) xb)) (mx_v (mx_d sd)) (mx_pk (mx_w cn go ch s xb) (mx_v sd) xb), mx_d (mx_d sd)) := by
                  unfold mx_sd
                  rw [if_neg (by omega), if_pos (by omega)]
                  rw [et]
                  rw [mx_go_n (by omega)]
                  rw [mx_go_n (by omega)]
                  rfl
                rw [ez]
                exact ik_Wret rfl rfl ⟨_, _, rfl, rfl, rfl, rfl, ⟨rfl, g_63_14, g_63_16, fr_63⟩⟩
      · refine ik_Wk 2 (pc_q := 9) (loc_q := [some (fI kb), some (fI (mi - fb))]) (st_q := [fI 2, fI kb]) (h_q := h) (cl_q := 0) (sl_q := 0) rfl ?_
        refine fw_ic_ne rfl rfl (by omega) (by omega) (by omega) (by omega) (fun hc18 => ?_) (fun hc18 => ?_)
        · refine ik_Wk 2 (pc_q := 14) (loc_q := [some (fI kb), some (fI (mi - fb))]) (st_q := [fI 2, fI (mi - fb)]) (h_q := h) (cl_q := 0) (sl_q := 0) rfl ?_
          refine fx_irem rfl (by omega) (by omega) (by omega) (by omega) ?_
          refine fw_if_eq rfl rfl (by omega) (by omega) (fun hc19 => ?_) (fun hc19 => ?_)
          · refine ik_Wk 1 (pc_q := 23) (loc_q := [some (fI kb), some (fI (mi - fb))]) (st_q := [fI 1]) (h_q := h) (cl_q := 0) (sl_q := 0) rfl ?_
            refine ik_Wret rfl rfl ⟨_, _, rfl, rfl, ?_⟩
            refine ik_Wk 0 (pc_q := 55) (loc_q := [some (.ref 14), some (fI 1), some (fI (mi - fb)), none, none]) (st_q := [fI 1]) (h_q := h) (cl_q := 0) (sl_q := 0) rfl ?_
            refine ik_Wk 5 (pc_q := 62) (loc_q := [some (.ref 14), some (fI 1), some (fI (mi - fb)), some (fI 1), some (fI 0)]) (st_q := [fI 1, fI 0]) (h_q := h) (cl_q := 0) (sl_q := 0) rfl ?_
            refine fw_ic_ge rfl rfl (by decide +kernel) (by decide +kernel) (by decide +kernel) (by decide +kernel) (fun hc20 => absurd hc20 (by decide +kernel)) (fun hc20 => ?_)
            refine ik_Wk 1 (pc_q := 66) (loc_q := [some (.ref 14), some (fI 1), some (fI (mi - fb)), some (fI 1), some (fI 0)]) (st_q := [.ref 14]) (h_q := h) (cl_q := 0) (sl_q := 0) rfl ?_
            refine fw_gf rfl rfl h14 rfl ?_
            refine ik_Wk 1 (pc_q := 70) (loc_q := [some (.ref 14), some (fI 1), some (fI (mi - fb)), some (fI 1), some (fI 0)]) (st_q := [.ref 14, .ref 7]) (h_q := h) (cl_q := 0) (sl_q := 0) rfl ?_
            refine fw_gf rfl rfl h14 rfl ?_
            refine ik_Wk 1 (pc_q := 74) (loc_q := [some (.ref 14), some (fI 1), some (fI (mi - fb)), some (fI 1), some (fI 0)]) (st_q := [fI 1, .ref 16, .ref 7]) (h_q := h) (cl_q := 0) (sl_q := 0) rfl ?_
            refine fw_ial (z := 1) rfl h16 (by decide +kernel) (Nat.le_of_ble_eq_true rfl) (by decide +kernel) ?_
            refine ik_Wk 0 (pc_q := 75) (loc_q := [some (.ref 14), some (fI 1), some (fI (mi - fb)), some (fI 1), some (fI 0)]) (st_q := [fI xb, .ref 7]) (h_q := h) (cl_q := 0) (sl_q := 0) rfl ?_
            refine ik_Wc 4 2 0 [.ref 7, fI xb] [] rfl rfl rfl (by decide +kernel) rfl rfl (fw_rec hl rfl h7 rfl (Nat.le_of_ble_eq_true rfl)) ?_
            refine ik_Wk 0 (pc_q := 0) (loc_q := [some (.ref 7), some (fI xb)]) (st_q := []) (h_q := h) (cl_q := 0) (sl_q := 0) rfl ?_
            refine ik_Wk 1 (pc_q := 1) (loc_q := [some (.ref 7), some (fI xb)]) (st_q := [fI xb]) (h_q := h) (cl_q := 0) (sl_q := 0) rfl ?_
            refine fw_if_lt rfl rfl (by omega) (by omega) (fun hc21 => ?_) (fun hc21 => ?_)
            · refine ik_Wk 1 (pc_q := 19) (loc_q := [some (.ref 7), some (fI xb)]) (st_q := [fI 0]) (h_q := h) (cl_q := 0) (sl_q := 0) rfl ?_
              refine ik_Wret rfl rfl ⟨_, _, rfl, rfl, ?_⟩
              refine ik_Wk 0 (pc_q := 78) (loc_q := [some (.ref 14), some (fI 1), some (fI (mi - fb)), some (fI 1), some (fI 0)]) (st_q := [fI 0]) (h_q := h) (cl_q := 0) (sl_q := 0) rfl ?_
              refine fw_if_eq rfl rfl (by decide +kernel) (by decide +kernel) (fun hc22 => ?_) (fun hc22 => absurd hc22 (by decide +kernel))
              have et : mx_tm kb (mi - fb) = 1 := by unfold mx_tm; (repeat' split) <;> omega
              have ez : (mx_sd (fun x => mx_w cn go ch s x) (pl - 1) kb pb fb mi xb sd) = (xb, sd) := by
                unfold mx_sd
                rw [if_neg (by omega), if_pos (by omega)]
                rw [et]
                exact mx_go_b (by omega)
              rw [ez]
              exact ik_Wret rfl rfl ⟨_, _, rfl, rfl, rfl, rfl, ⟨rfl, h14, h16, (hfr_refl [14, 16] h)⟩⟩
            · refine ik_Wk 2 (pc_q := 6) (loc_q := [some (.ref 7), some (fI xb)]) (st_q := [.ref 7, fI xb]) (h_q := h) (cl_q := 0) (sl_q := 0) rfl ?_
              refine fw_gf rfl rfl h7 rfl ?_
              refine ik_Wk 1 (pc_q := 10) (loc_q := [some (.ref 7), some (fI xb)]) (st_q := [fI 1, fI pl, fI xb]) (h_q := h) (cl_q := 0) (sl_q := 0) rfl ?_
              refine fw_sub rfl ?_
              refine fw_ic_ge rfl rfl (by omega) (by omega) (by omega) (by omega) (fun hc23 => ?_) (fun hc23 => ?_)
              · refine ik_Wk 1 (pc_q := 19) (loc_q := [some (.ref 7), some (fI xb)]) (st_q := [fI 0]) (h_q := h) (cl_q := 0) (sl_q := 0) rfl ?_
                refine ik_Wret rfl rfl ⟨_, _, rfl, rfl, ?_⟩
                refine ik_Wk 0 (pc_q := 78) (loc_q := [some (.ref 14), some (fI 1), some (fI (mi - fb)), some (fI 1), some (fI 0)]) (st_q := [fI 0]) (h_q := h) (cl_q := 0) (sl_q := 0) rfl ?_
                refine fw_if_eq rfl rfl (by decide +kernel) (by decide +kernel) (fun hc24 => ?_) (fun hc24 => absurd hc24 (by decide +kernel))
                have et : mx_tm kb (mi - fb) = 1 := by unfold mx_tm; (repeat' split) <;> omega
                have ez : (mx_sd (fun x => mx_w cn go ch s x) (pl - 1) kb pb fb mi xb sd) = (xb, sd) := by
                  unfold mx_sd
                  rw [if_neg (by omega), if_pos (by omega)]
                  rw [et]
                  exact mx_go_b (by omega)
                rw [ez]
                exact ik_Wret rfl rfl ⟨_, _, rfl, rfl, rfl, rfl, ⟨rfl, h14, h16, (hfr_refl [14, 16] h)⟩⟩
              · refine ik_Wk 2 (pc_q := 19) (loc_q := [some (.ref 7), some (fI xb)]) (st_q := [fI 1]) (h_q := h) (cl_q := 0) (sl_q := 0) rfl ?_
                refine ik_Wret rfl rfl ⟨_, _, rfl, rfl, ?_⟩
                refine ik_Wk 0 (pc_q := 78) (loc_q := [some (.ref 14), some (fI 1), some (fI (mi - fb)), some (fI 1), some (fI 0)]) (st_q := [fI 1]) (h_q := h) (cl_q := 0) (sl_q := 0) rfl ?_
                refine fw_if_eq rfl rfl (by decide +kernel) (by decide +kernel) (fun hc25 => absurd hc25 (by decide +kernel)) (fun hc25 => ?_)
                refine ik_Wk 1 (pc_q := 82) (loc_q := [some (.ref 14), some (fI 1), some (fI (mi - fb)), some (fI 1), some (fI 0)]) (st_q := [.ref 14]) (h_q := h) (cl_q := 0) (sl_q := 0) rfl ?_
                refine fw_gf rfl rfl h14 rfl ?_
                refine ik_Wk 2 (pc_q := 87) (loc_q := [some (.ref 14), some (fI 1), some (fI (mi - fb)), some (fI 1), some (fI 0)]) (st_q := [.ref 14, fI 1, .ref 16]) (h_q := h) (cl_q := 0) (sl_q := 0) rfl ?_
                refine fw_gf rfl rfl h14 rfl ?_
                refine ik_Wk 1 (pc_q := 91) (loc_q := [some (.ref 14), some (fI 1), some (fI (mi - fb)), some (fI 1), some (fI 0)]) (st_q := [.ref 14, .ref 7, fI 1, .ref 16]) (h_q := h) (cl_q := 0) (sl_q := 0) rfl ?_
                refine fw_gf rfl rfl h14 rfl ?_
                refine ik_Wk 1 (pc_q := 95) (loc_q := [some (.ref 14), some (fI 1), some (fI (mi - fb)), some (fI 1), some (fI 0)]) (st_q := [fI 1, .ref 16, .ref 7, fI 1, .ref 16]) (h_q := h) (cl_q := 0) (sl_q := 0) rfl ?_
                refine fw_ial (z := 1) rfl h16 (by decide +kernel) (Nat.le_of_ble_eq_true rfl) (by decide +kernel) ?_
                refine ik_Wk 0 (pc_q := 96) (loc_q := [some (.ref 14), some (fI 1), some (fI (mi - fb)), some (fI 1), some (fI 0)]) (st_q := [fI xb, .ref 7, fI 1, .ref 16]) (h_q := h) (cl_q := 0) (sl_q := 0) rfl ?_
                refine ik_Wk 1 (pc_q := 97) (loc_q := [some (.ref 14), some (fI 1), some (fI (mi - fb)), some (fI 1), some (fI 0)]) (st_q := [.ref 14, fI xb, .ref 7, fI 1, .ref 16]) (h_q := h) (cl_q := 0) (sl_q := 0) rfl ?_
                refine fw_call 27 1 0 [.ref 14] [fI xb, .ref 7, fI 1, .ref 16] rfl rfl rfl (Nat.le_of_ble_eq_true rfl) rfl rfl (fw_rec hl rfl h14 rfl (Nat.le_of_ble_eq_true rfl)) (cs_draw (mi := mi) (sd := sd) (by omega) h14 hl) ?_
                rintro _ h_64 ⟨rfl, e_64_14, F_64⟩
                have k_64 : cL h_64 := F_64.1.trans hl
                have fr_64 := hfr_cb (hfr_refl [14, 16] h) F_64 rfl
                have g_64_7 := (hfr_g F_64 7 rfl).trans h7
                have g_64_11 := (hfr_g F_64 11 rfl).trans h11
                have g_64_12 := (hfr_g F_64 12 rfl).trans h12
                have g_64_13 := (hfr_g F_64 13 rfl).trans h13
                have g_64_15 := (hfr_g F_64 15 rfl).trans h15
                have g_64_16 := (hfr_g F_64 16 rfl).trans h16
                have g_64_14 : cE h_64 14 (.inr (1, [.ref 7, .ref 15, .ref 16, fI mi, fJ (mx_d sd)])) := e_64_14
                refine ik_Wk 0 (pc_q := 100) (loc_q := [some (.ref 14), some (fI 1), some (fI (mi - fb)), some (fI 1), some (fI 0)]) (st_q := [fI (mx_v sd), fI xb, .ref 7, fI 1, .ref 16]) (h_q := h_64) (cl_q := 0) (sl_q := 0) rfl ?_
                refine fw_call 18 3 0 [.ref 7, fI xb, fI (mx_v sd)] [fI 1, .ref 16] rfl rfl rfl (Nat.le_of_ble_eq_true rfl) rfl rfl (fw_rec k_64 rfl g_64_7 rfl (Nat.le_of_ble_eq_true rfl)) (cs_goalBy (p := xb) (d := mx_v sd) (pl := pl) (lo := lo) (s := s) (wg := wg) (wc := wc) (we := we) (L := (mx_w cn go ch s xb)) (by omega) (by omega) (mx_v_b _).1 (mx_v_b _).2 (q4 _ (by omega) (by omega)) (q5 _ (by omega) (by omega)) g_64_7 g_64_11 n11 g_64_12 n12 g_64_13 n13 k_64) ?_
                rintro _ h_65 ⟨rfl, F_65⟩
                have k_65 : cL h_65 := F_65.1.trans k_64
                have fr_65 := hfr_cb fr_64 F_65 rfl
                have g_65_7 := (hfr_g F_65 7 rfl).trans g_64_7
                have g_65_11 := (hfr_g F_65 11 rfl).trans g_64_11
                have g_65_12 := (hfr_g F_65 12 rfl).trans g_64_12
                have g_65_13 := (hfr_g F_65 13 rfl).trans g_64_13
                have g_65_14 := (hfr_g F_65 14 rfl).trans g_64_14
                have g_65_15 := (hfr_g F_65 15 rfl).trans g_64_15
                have g_65_16 := (hfr_g F_65 16 rfl).trans g_64_16
                refine ik_Wk 0 (pc_q := 103) (loc_q := [some (.ref 14), some (fI 1), some (fI (mi - fb)), some (fI 1), some (fI 0)]) (st_q := [fI (mx_pk (mx_w cn go ch s xb) (mx_v sd) xb), fI 1, .ref 16]) (h_q := h_65) (cl_q := 0) (sl_q := 0) rfl ?_
                have hp65 := mx_pk_in (f := xb) (q5 xb (by omega) (by omega)) (mx_v_b sd).1 (mx_v_b sd).2
                have hz65 := mx_d_b sd
                refine fx_ias (z := 1) rfl g_65_16 (by decide +kernel) (Nat.le_of_ble_eq_true rfl) (by decide +kernel) ?_
                intro h_66 e_66 f_66 l_66
                have k_66 : cL h_66 := l_66.trans k_65
                have fr_66 := hfr_wb fr_65 f_66 l_66 rfl
                clear l_66
                have g_66_7 := (f_66 7 (Nat.ne_of_beq_eq_false rfl)).trans g_65_7
                have g_66_11 := (f_66 11 (Nat.ne_of_beq_eq_false rfl)).trans g_65_11
                have g_66_12 := (f_66 12 (Nat.ne_of_beq_eq_false rfl)).trans g_65_12
                have g_66_13 := (f_66 13 (Nat.ne_of_beq_eq_false rfl)).trans g_65_13
                have g_66_14 := (f_66 14 (Nat.ne_of_beq_eq_false rfl)).trans g_65_14
                have g_66_15 := (f_66 15 (Nat.ne_of_beq_eq_false rfl)).trans g_65_15
                have g_66_16 : cE h_66 16 (.inl (.int, fA [xa, mx_pk (mx_w cn go ch s xb) (mx_v sd) xb])) := e_66
                refine fw_inc (a := 0) (loc_q := [some (.ref 14), some (fI 1), some (fI (mi - fb)), some (fI 1), some (fI 1)]) rfl rfl (Nat.le_of_ble_eq_true rfl) rfl ?_
                refine ik_Wk 3 (pc_q := 62) (loc_q := [some (.ref 14), some (fI 1), some (fI (mi - fb)), some (fI 1), some (fI 1)]) (st_q := [fI 1, fI 1]) (h_q := h_66) (cl_q := 0) (sl_q := 0) rfl ?_
                refine fw_ic_ge rfl rfl (by decide +kernel) (by decide +kernel) (by decide +kernel) (by decide +kernel) (fun hc26 => ?_) (fun hc26 => absurd hc26 (by decide +kernel))
                have et : mx_tm kb (mi - fb) = 1 := by unfold mx_tm; (repeat' split) <;> omega
                have ez : (mx_sd (fun x => mx_w cn go ch s x) (pl - 1) kb pb fb mi xb sd) = (mx_pk (mx_w cn go ch s xb) (mx_v sd) xb, mx_d sd) := by
                  unfold mx_sd
                  rw [if_neg (by omega), if_pos (by omega)]
                  rw [et]
                  rw [mx_go_n (by omega)]
                  rfl
                rw [ez]
                exact ik_Wret rfl rfl ⟨_, _, rfl, rfl, rfl, rfl, ⟨rfl, g_66_14, g_66_16, fr_66⟩⟩
          · refine ik_Wk 2 (pc_q := 23) (loc_q := [some (fI kb), some (fI (mi - fb))]) (st_q := [fI 0]) (h_q := h) (cl_q := 0) (sl_q := 0) rfl ?_
            refine ik_Wret rfl rfl ⟨_, _, rfl, rfl, ?_⟩
            refine ik_Wk 0 (pc_q := 55) (loc_q := [some (.ref 14), some (fI 1), some (fI (mi - fb)), none, none]) (st_q := [fI 0]) (h_q := h) (cl_q := 0) (sl_q := 0) rfl ?_
            refine ik_Wk 5 (pc_q := 62) (loc_q := [some (.ref 14), some (fI 1), some (fI (mi - fb)), some (fI 0), some (fI 0)]) (st_q := [fI 0, fI 0]) (h_q := h) (cl_q := 0) (sl_q := 0) rfl ?_
            refine fw_ic_ge rfl rfl (by decide +kernel) (by decide +kernel) (by decide +kernel) (by decide +kernel) (fun hc27 => ?_) (fun hc27 => absurd hc27 (by decide +kernel))
            have et : mx_tm kb (mi - fb) = 0 := by unfold mx_tm; (repeat' split) <;> omega
            have ez : (mx_sd (fun x => mx_w cn go ch s x) (pl - 1) kb pb fb mi xb sd) = (xb, sd) := by
              unfold mx_sd
              rw [if_neg (by omega), if_pos (by omega)]
              rw [et]
              rfl
            rw [ez]
            exact ik_Wret rfl rfl ⟨_, _, rfl, rfl, rfl, rfl, ⟨rfl, h14, h16, (hfr_refl [14, 16] h)⟩⟩
        · refine ik_Wk 1 (pc_q := 23) (loc_q := [some (fI kb), some (fI (mi - fb))]) (st_q := [fI 1]) (h_q := h) (cl_q := 0) (sl_q := 0) rfl ?_
          refine ik_Wret rfl rfl ⟨_, _, rfl, rfl, ?_⟩
          refine ik_Wk 0 (pc_q := 55) (loc_q := [some (.ref 14), some (fI 1), some (fI (mi - fb)), none, none]) (st_q := [fI 1]) (h_q := h) (cl_q := 0) (sl_q := 0) rfl ?_
          refine ik_Wk 5 (pc_q := 62) (loc_q := [some (.ref 14), some (fI 1), some (fI (mi - fb)), some (fI 1), some (fI 0)]) (st_q := [fI 1, fI 0]) (h_q := h) (cl_q := 0) (sl_q := 0) rfl ?_
          refine fw_ic_ge rfl rfl (by decide +kernel) (by decide +kernel) (by decide +kernel) (by decide +kernel) (fun hc28 => absurd hc28 (by decide +kernel)) (fun hc28 => ?_)
          refine ik_Wk 1 (pc_q := 66) (loc_q := [some (.ref 14), some (fI 1), some (fI (mi - fb)), some (fI 1), some (fI 0)]) (st_q := [.ref 14]) (h_q := h) (cl_q := 0) (sl_q := 0) rfl ?_
          refine fw_gf rfl rfl h14 rfl ?_
          refine ik_Wk 1 (pc_q := 70) (loc_q := [some (.ref 14), some (fI 1), some (fI (mi - fb)), some (fI 1), some (fI 0)]) (st_q := [.ref 14, .ref 7]) (h_q := h) (cl_q := 0) (sl_q := 0) rfl ?_
          refine fw_gf rfl rfl h14 rfl ?_
          refine ik_Wk 1 (pc_q := 74) (loc_q := [some (.ref 14), some (fI 1), some (fI (mi - fb)), some (fI 1), some (fI 0)]) (st_q := [fI 1, .ref 16, .ref 7]) (h_q := h) (cl_q := 0) (sl_q := 0) rfl ?_
          refine fw_ial (z := 1) rfl h16 (by decide +kernel) (Nat.le_of_ble_eq_true rfl) (by decide +kernel) ?_
          refine ik_Wk 0 (pc_q := 75) (loc_q := [some (.ref 14), some (fI 1), some (fI (mi - fb)), some (fI 1), some (fI 0)]) (st_q := [fI xb, .ref 7]) (h_q := h) (cl_q := 0) (sl_q := 0) rfl ?_
          refine ik_Wc 4 2 0 [.ref 7, fI xb] [] rfl rfl rfl (by decide +kernel) rfl rfl (fw_rec hl rfl h7 rfl (Nat.le_of_ble_eq_true rfl)) ?_
          refine ik_Wk 0 (pc_q := 0) (loc_q := [some (.ref 7), some (fI xb)]) (st_q := []) (h_q := h) (cl_q := 0) (sl_q := 0) rfl ?_
          refine ik_Wk 1 (pc_q := 1) (loc_q := [some (.ref 7), some (fI xb)]) (st_q := [fI xb]) (h_q := h) (cl_q := 0) (sl_q := 0) rfl ?_
          refine fw_if_lt rfl rfl (by omega) (by omega) (fun hc29 => ?_) (fun hc29 => ?_)
          · refine ik_Wk 1 (pc_q := 19) (loc_q := [some (.ref 7), some (fI xb)]) (st_q := [fI 0]) (h_q := h) (cl_q := 0) (sl_q := 0) rfl ?_
            refine ik_Wret rfl rfl ⟨_, _, rfl, rfl, ?_⟩
            refine ik_Wk 0 (pc_q := 78) (loc_q := [some (.ref 14), some (fI 1), some (fI (mi - fb)), some (fI 1), some (fI 0)]) (st_q := [fI 0]) (h_q := h) (cl_q := 0) (sl_q := 0) rfl ?_
            refine fw_if_eq rfl rfl (by decide +kernel) (by decide +kernel) (fun hc30 => ?_) (fun hc30 => absurd hc30 (by decide +kernel))
            have et : mx_tm kb (mi - fb) = 1 := by unfold mx_tm; (repeat' split) <;> omega
            have ez : (mx_sd (fun x => mx_w cn go ch s x) (pl - 1) kb pb fb mi xb sd) = (xb, sd) := by
              unfold mx_sd
              rw [if_neg (by omega), if_pos (by omega)]
              rw [et]
              exact mx_go_b (by omega)
            rw [ez]
            exact ik_Wret rfl rfl ⟨_, _, rfl, rfl, rfl, rfl, ⟨rfl, h14, h16, (hfr_refl [14, 16] h)⟩⟩
          · refine ik_Wk 2 (pc_q := 6) (loc_q := [some (.ref 7), some (fI xb)]) (st_q := [.ref 7, fI xb]) (h_q := h) (cl_q := 0) (sl_q := 0) rfl ?_
            refine fw_gf rfl rfl h7 rfl ?_
            refine ik_Wk 1 (pc_q := 10) (loc_q := [some (.ref 7), some (fI xb)]) (st_q := [fI 1, fI pl, fI xb]) (h_q := h) (cl_q := 0) (sl_q := 0) rfl ?_
            refine fw_sub rfl ?_
            refine fw_ic_ge rfl rfl (by omega) (by omega) (by omega) (by omega) (fun hc31 => ?_) (fun hc31 => ?_)
            · refine ik_Wk 1 (pc_q := 19) (loc_q := [some (.ref 7), some (fI xb)]) (st_q := [fI 0]) (h_q := h) (cl_q := 0) (sl_q := 0) rfl ?_
              refine ik_Wret rfl rfl ⟨_, _, rfl, rfl, ?_⟩
              refine ik_Wk 0 (pc_q := 78) (loc_q := [some (.ref 14), some (fI 1), some (fI (mi - fb)), some (fI 1), some (fI 0)]) (st_q := [fI 0]) (h_q := h) (cl_q := 0) (sl_q := 0) rfl ?_
              refine fw_if_eq rfl rfl (by decide +kernel) (by decide +kernel) (fun hc32 => ?_) (fun hc32 => absurd hc32 (by decide +kernel))
              have et : mx_tm kb (mi - fb) = 1 := by unfold mx_tm; (repeat' split) <;> omega
              have ez : (mx_sd (fun x => mx_w cn go ch s x) (pl - 1) kb pb fb mi xb sd) = (xb, sd) := by
                unfold mx_sd
                rw [if_neg (by omega), if_pos (by omega)]
                rw [et]
                exact mx_go_b (by omega)
              rw [ez]
              exact ik_Wret rfl rfl ⟨_, _, rfl, rfl, rfl, rfl, ⟨rfl, h14, h16, (hfr_refl [14, 16] h)⟩⟩
            · refine ik_Wk 2 (pc_q := 19) (loc_q := [some (.ref 7), some (fI xb)]) (st_q := [fI 1]) (h_q := h) (cl_q := 0) (sl_q := 0) rfl ?_
              refine ik_Wret rfl rfl ⟨_, _, rfl, rfl, ?_⟩
              refine ik_Wk 0 (pc_q := 78) (loc_q := [some (.ref 14), some (fI 1), some (fI (mi - fb)), some (fI 1), some (fI 0)]) (st_q := [fI 1]) (h_q := h) (cl_q := 0) (sl_q := 0) rfl ?_
              refine fw_if_eq rfl rfl (by decide +kernel) (by decide +kernel) (fun hc33 => absurd hc33 (by decide +kernel)) (fun hc33 => ?_)
              refine ik_Wk 1 (pc_q := 82) (loc_q := [some (.ref 14), some (fI 1), some (fI (mi - fb)), some (fI 1), some (fI 0)]) (st_q := [.ref 14]) (h_q := h) (cl_q := 0) (sl_q := 0) rfl ?_
              refine fw_gf rfl rfl h14 rfl ?_
              refine ik_Wk 2 (pc_q := 87) (loc_q := [some (.ref 14), some (fI 1), some (fI (mi - fb)), some (fI 1), some (fI 0)]) (st_q := [.ref 14, fI 1, .ref 16]) (h_q := h) (cl_q := 0) (sl_q := 0) rfl ?_
              refine fw_gf rfl rfl h14 rfl ?_
              refine ik_Wk 1 (pc_q := 91) (loc_q := [some (.ref 14), some (fI 1), some (fI (mi - fb)), some (fI 1), some (fI 0)]) (st_q := [.ref 14, .ref 7, fI 1, .ref 16]) (h_q := h) (cl_q := 0) (sl_q := 0) rfl ?_
              refine fw_gf rfl rfl h14 rfl ?_
              refine ik_Wk 1 (pc_q := 95) (loc_q := [some (.ref 14), some (fI 1), some (fI (mi - fb)), some (fI 1), some (fI 0)]) (st_q := [fI 1, .ref 16, .ref 7, fI 1, .ref 16]) (h_q := h) (cl_q := 0) (sl_q := 0) rfl ?_
              refine fw_ial (z := 1) rfl h16 (by decide +kernel) (Nat.le_of_ble_eq_true rfl) (by decide +kernel) ?_
              refine ik_Wk 0 (pc_q := 96) (loc_q := [some (.ref 14), some (fI 1), some (fI (mi - fb)), some (fI 1), some (fI 0)]) (st_q := [fI xb, .ref 7, fI 1, .ref 16]) (h_q := h) (cl_q := 0) (sl_q := 0) rfl ?_
              refine ik_Wk 1 (pc_q := 97) (loc_q := [some (.ref 14), some (fI 1), some (fI (mi - fb)), some (fI 1), some (fI 0)]) (st_q := [.ref 14, fI xb, .ref 7, fI 1, .ref 16]) (h_q := h) (cl_q := 0) (sl_q := 0) rfl ?_
              refine fw_call 27 1 0 [.ref 14] [fI xb, .ref 7, fI 1, .ref 16] rfl rfl rfl (Nat.le_of_ble_eq_true rfl) rfl rfl (fw_rec hl rfl h14 rfl (Nat.le_of_ble_eq_true rfl)) (cs_draw (mi := mi) (sd := sd) (by omega) h14 hl) ?_
              rintro _ h_67 ⟨rfl, e_67_14, F_67⟩
              have k_67 : cL h_67 := F_67.1.trans hl
              have fr_67 := hfr_cb (hfr_refl [14, 16] h) F_67 rfl
              have g_67_7 := (hfr_g F_67 7 rfl).trans h7
              have g_67_11 := (hfr_g F_67 11 rfl).trans h11
              have g_67_12 := (hfr_g F_67 12 rfl).trans h12
              have g_67_13 := (hfr_g F_67 13 rfl).trans h13
              have g_67_15 := (hfr_g F_67 15 rfl).trans h15
              have g_67_16 := (hfr_g F_67 16 rfl).trans h16
              have g_67_14 : cE h_67 14 (.inr (1, [.ref 7, .ref 15, .ref 16, fI mi, fJ (mx_d sd)])) := e_67_14
              refine ik_Wk 0 (pc_q := 100) (loc_q := [some (.ref 14), some (fI 1), some (fI (mi - fb)), some (fI 1), some (fI 0)]) (st_q := [fI (mx_v sd), fI xb, .ref 7, fI 1, .ref 16]) (h_q := h_67) (cl_q := 0) (sl_q := 0) rfl ?_
              refine fw_call 18 3 0 [.ref 7, fI xb, fI (mx_v sd)] [fI 1, .ref 16] rfl rfl rfl (Nat.le_of_ble_eq_true rfl) rfl rfl (fw_rec k_67 rfl g_67_7 rfl (Nat.le_of_ble_eq_true rfl)) (cs_goalBy (p := xb) (d := mx_v sd) (pl := pl) (lo := lo) (s := s) (wg := wg) (wc := wc) (we := we) (L := (mx_w cn go ch s xb)) (by omega) (by omega) (mx_v_b _).1 (mx_v_b _).2 (q4 _ (by omega) (by omega)) (q5 _ (by omega) (by omega)) g_67_7 g_67_11 n11 g_67_12 n12 g_67_13 n13 k_67) ?_
              rintro _ h_68 ⟨rfl, F_68⟩
              have k_68 : cL h_68 := F_68.1.trans k_67
              have fr_68 := hfr_cb fr_67 F_68 rfl
              have g_68_7 := (hfr_g F_68 7 rfl).trans g_67_7
              have g_68_11 := (hfr_g F_68 11 rfl).trans g_67_11
              have g_68_12 := (hfr_g F_68 12 rfl).trans g_67_12
              have g_68_13 := (hfr_g F_68 13 rfl).trans g_67_13
              have g_68_14 := (hfr_g F_68 14 rfl).trans g_67_14
              have g_68_15 := (hfr_g F_68 15 rfl).trans g_67_15
              have g_68_16 := (hfr_g F_68 16 rfl).trans g_67_16
              refine ik_Wk 0 (pc_q := 103) (loc_q := [some (.ref 14), some (fI 1), some (fI (mi - fb)), some (fI 1), some (fI 0)]) (st_q := [fI (mx_pk (mx_w cn go ch s xb) (mx_v sd) xb), fI 1, .ref 16]) (h_q := h_68) (cl_q := 0) (sl_q := 0) rfl ?_
              have hp68 := mx_pk_in (f := xb) (q5 xb (by omega) (by omega)) (mx_v_b sd).1 (mx_v_b sd).2
              have hz68 := mx_d_b sd
              refine fx_ias (z := 1) rfl g_68_16 (by decide +kernel) (Nat.le_of_ble_eq_true rfl) (by decide +kernel) ?_
              intro h_69 e_69 f_69 l_69
              have k_69 : cL h_69 := l_69.trans k_68
              have fr_69 := hfr_wb fr_68 f_69 l_69 rfl
              clear l_69
              have g_69_7 := (f_69 7 (Nat.ne_of_beq_eq_false rfl)).trans g_68_7
              have g_69_11 := (f_69 11 (Nat.ne_of_beq_eq_false rfl)).trans g_68_11
              have g_69_12 := (f_69 12 (Nat.ne_of_beq_eq_false rfl)).trans g_68_12
              have g_69_13 := (f_69 13 (Nat.ne_of_beq_eq_false rfl)).trans g_68_13
              have g_69_14 := (f_69 14 (Nat.ne_of_beq_eq_false rfl)).trans g_68_14
              have g_69_15 := (f_69 15 (Nat.ne_of_beq_eq_false rfl)).trans g_68_15
              have g_69_16 : cE h_69 16 (.inl (.int, fA [xa, mx_pk (mx_w cn go ch s xb) (mx_v sd) xb])) := e_69
              refine fw_inc (a := 0) (loc_q := [some (.ref 14), some (fI 1), some (fI (mi - fb)), some (fI 1), some (fI 1)]) rfl rfl (Nat.le_of_ble_eq_true rfl) rfl ?_
              refine ik_Wk 3 (pc_q := 62) (loc_q := [some (.ref 14), some (fI 1), some (fI (mi - fb)), some (fI 1), some (fI 1)]) (st_q := [fI 1, fI 1]) (h_q := h_69) (cl_q := 0) (sl_q := 0) rfl ?_
              refine fw_ic_ge rfl rfl (by decide +kernel) (by decide +kernel) (by decide +kernel) (by decide +kernel) (fun hc34 => ?_) (fun hc34 => absurd hc34 (by decide +kernel))
              have et : mx_tm kb (mi - fb) = 1 := by unfold mx_tm; (repeat' split) <;> omega
              have ez : (mx_sd (fun x => mx_w cn go ch s x) (pl - 1) kb pb fb mi xb sd) = (mx_pk (mx_w cn go ch s xb) (mx_v sd) xb, mx_d sd) := by
                unfold mx_sd
                rw [if_neg (by omega), if_pos (by omega)]
                rw [et]
                rw [mx_go_n (by omega)]
                rfl
              rw [ez]
              exact ik_Wret rfl rfl ⟨_, _, rfl, rfl, rfl, rfl, ⟨rfl, g_69_14, g_69_16, fr_69⟩⟩
    · have ez : (mx_sd (fun x => mx_w cn go ch s x) (pl - 1) kb pb fb mi xb sd) = (xb, sd) := by
        unfold mx_sd
        rw [if_neg (by omega), if_neg (by omega)]
      rw [ez]
      exact ik_Wret rfl rfl ⟨_, _, rfl, rfl, rfl, rfl, ⟨rfl, h14, h16, (hfr_refl [14, 16] h)⟩⟩

end

/-! 38x.drift -/
noncomputable section
/-! the beginning; n minutes; suits by draws (written by wip/fx/u4.py) -/
theorem cr_begin {h : List ik_E} {mi : Int} {ka : Int} {pa : Int} {fa : Int} {kb : Int} {pb : Int} {fb : Int} {xa : Int} {xb : Int} {f : Nat → Int} (q0 : 0 ≤ fa ∧ fa ≤ 30) (q1 : 0 ≤ fb ∧ fb ≤ 30) (h66 : cE h 66 (.inr (10, (fI (f 0) :: .ref 67 :: .ref 68 :: .ref 69 :: fI (f 4) :: .ref 70 :: .ref 71 :: fI mi :: fI (f 8) :: .ref 72 :: fI (f 10) :: fI (f 11) :: fI (f 12) :: fJ (f 13) :: fI (f 14) :: fI (f 15) :: fI (f 16) :: fI (f 17) :: .ref 73 :: .ref 74 :: .ref 75 :: .ref 76 :: .ref 77 :: .ref 78 :: fI (f 24) :: .ref 79 :: .ref 80 :: .ref 81 :: .ref 82 :: .ref 83 :: .ref 84 :: .ref 85 :: fJ (f 32) :: fJ (f 33) :: .ref 86 :: .ref 87 :: fI (f 36) :: .ref 88 :: .ref 89 :: .ref 90 :: .ref 91 :: .ref 92 :: .ref 93 :: [])))) (h70 : cE h 70 (.inl (.int, fA [ka, pa, fa, kb, pb, fb]))) (h71 : cE h 71 (.inl (.int, fA [xa, xb]))) (hl : h.length = 94) : ik_F 194 [.ref 66] h (fun rv h_q => rv = [] ∧ cE h_q 66 (.inr (10, (fI (f 0) :: .ref 67 :: .ref 68 :: .ref 69 :: fI (f 4) :: .ref 70 :: .ref 71 :: fI 0 :: fI (f 8) :: .ref 72 :: fI (f 10) :: fI (f 11) :: fI (f 12) :: fJ (f 13) :: fI (f 14) :: fI (f 15) :: fI (f 16) :: fI (f 17) :: .ref 73 :: .ref 74 :: .ref 75 :: .ref 76 :: .ref 77 :: .ref 78 :: fI (f 24) :: .ref 79 :: .ref 80 :: .ref 81 :: .ref 82 :: .ref 83 :: .ref 84 :: .ref 85 :: fJ (f 32) :: fJ (f 33) :: .ref 86 :: .ref 87 :: fI (f 36) :: .ref 88 :: .ref 89 :: .ref 90 :: .ref 91 :: .ref 92 :: .ref 93 :: []))) ∧ cE h_q 71 (.inl (.int, fA [mx_sp pa fa, mx_sp pb fb])) ∧ hfr [66, 71] h h_q) := by
  refine ik_Wk 2 (pc_q := 2) (loc_q := [some (.ref 66), none]) (st_q := [fI 0, .ref 66]) (h_q := h) (cl_q := 0) (sl_q := 0) rfl ?_
  refine fx_pf rfl rfl h66 (Nat.le_of_ble_eq_true rfl) rfl rfl ?_
  intro h_70 e_70 f_70 l_70
  have k_70 : cL h_70 := l_70.trans hl
  have fr_70 := hfr_wb (hfr_refl [66, 71] h) f_70 l_70 rfl
  clear l_70
  have g_70_70 := (f_70 70 (Nat.ne_of_beq_eq_false rfl)).trans h70
  have g_70_71 := (f_70 71 (Nat.ne_of_beq_eq_false rfl)).trans h71
  have g_70_66 : cE h_70 66 (.inr (10, (fI (f 0) :: .ref 67 :: .ref 68 :: .ref 69 :: fI (f 4) :: .ref 70 :: .ref 71 :: fI 0 :: fI (f 8) :: .ref 72 :: fI (f 10) :: fI (f 11) :: fI (f 12) :: fJ (f 13) :: fI (f 14) :: fI (f 15) :: fI (f 16) :: fI (f 17) :: .ref 73 :: .ref 74 :: .ref 75 :: .ref 76 :: .ref 77 :: .ref 78 :: fI (f 24) :: .ref 79 :: .ref 80 :: .ref 81 :: .ref 82 :: .ref 83 :: .ref 84 :: .ref 85 :: fJ (f 32) :: fJ (f 33) :: .ref 86 :: .ref 87 :: fI (f 36) :: .ref 88 :: .ref 89 :: .ref 90 :: .ref 91 :: .ref 92 :: .ref 93 :: []))) := e_70
  refine ik_Wk 4 (pc_q := 9) (loc_q := [some (.ref 66), some (fI 0)]) (st_q := [fI 2, fI 0]) (h_q := h_70) (cl_q := 0) (sl_q := 0) rfl ?_
  refine fw_ic_ge rfl rfl (by decide +kernel) (by decide +kernel) (by decide +kernel) (by decide +kernel) (fun hc1 => absurd hc1 (by decide +kernel)) (fun hc1 => ?_)
  refine ik_Wk 1 (pc_q := 13) (loc_q := [some (.ref 66), some (fI 0)]) (st_q := [.ref 66]) (h_q := h_70) (cl_q := 0) (sl_q := 0) rfl ?_
  refine fw_gf rfl rfl g_70_66 rfl ?_
  refine ik_Wk 2 (pc_q := 18) (loc_q := [some (.ref 66), some (fI 0)]) (st_q := [.ref 66, fI 0, .ref 71]) (h_q := h_70) (cl_q := 0) (sl_q := 0) rfl ?_
  refine fw_gf rfl rfl g_70_66 rfl ?_
  refine ik_Wk 2 (pc_q := 23) (loc_q := [some (.ref 66), some (fI 0)]) (st_q := [fI 0, fI 3, .ref 70, fI 0, .ref 71]) (h_q := h_70) (cl_q := 0) (sl_q := 0) rfl ?_
  refine fw_mul rfl ?_
  refine ik_Wk 1 (pc_q := 25) (loc_q := [some (.ref 66), some (fI 0)]) (st_q := [fI 2, fI 0, .ref 70, fI 0, .ref 71]) (h_q := h_70) (cl_q := 0) (sl_q := 0) rfl ?_
  refine fw_add rfl ?_
  refine fw_ial (z := 2) rfl g_70_70 (by decide +kernel) (Nat.le_of_ble_eq_true rfl) (by decide +kernel) ?_
  refine ik_Wk 0 (pc_q := 27) (loc_q := [some (.ref 66), some (fI 0)]) (st_q := [fI fa, fI 0, .ref 71]) (h_q := h_70) (cl_q := 0) (sl_q := 0) rfl ?_
  refine fw_if_ne rfl rfl (by omega) (by omega) (fun hc2 => ?_) (fun hc2 => ?_)
  · refine ik_Wk 1 (pc_q := 31) (loc_q := [some (.ref 66), some (fI 0)]) (st_q := [.ref 66, fI 0, .ref 71]) (h_q := h_70) (cl_q := 0) (sl_q := 0) rfl ?_
    refine fw_gf rfl rfl g_70_66 rfl ?_
    refine ik_Wk 2 (pc_q := 36) (loc_q := [some (.ref 66), some (fI 0)]) (st_q := [fI 0, fI 3, .ref 70, fI 0, .ref 71]) (h_q := h_70) (cl_q := 0) (sl_q := 0) rfl ?_
    refine fw_mul rfl ?_
    refine ik_Wk 1 (pc_q := 38) (loc_q := [some (.ref 66), some (fI 0)]) (st_q := [fI 1, fI 0, .ref 70, fI 0, .ref 71]) (h_q := h_70) (cl_q := 0) (sl_q := 0) rfl ?_
    refine fw_add rfl ?_
    refine fw_ial (z := 1) rfl g_70_70 (by decide +kernel) (Nat.le_of_ble_eq_true rfl) (by decide +kernel) ?_
    refine ik_Wk 0 (pc_q := 40) (loc_q := [some (.ref 66), some (fI 0)]) (st_q := [fI pa, fI 0, .ref 71]) (h_q := h_70) (cl_q := 0) (sl_q := 0) rfl ?_
    refine ik_Wk 1 (pc_q := 44) (loc_q := [some (.ref 66), some (fI 0)]) (st_q := [fI pa, fI 0, .ref 71]) (h_q := h_70) (cl_q := 0) (sl_q := 0) rfl ?_
    refine fx_ias (z := 0) rfl g_70_71 (by decide +kernel) (Nat.le_of_ble_eq_true rfl) (by decide +kernel) ?_
    intro h_71 e_71 f_71 l_71
    have k_71 : cL h_71 := l_71.trans k_70
    have fr_71 := hfr_wb fr_70 f_71 l_71 rfl
    clear l_71
    have g_71_66 := (f_71 66 (Nat.ne_of_beq_eq_false rfl)).trans g_70_66
    have g_71_70 := (f_71 70 (Nat.ne_of_beq_eq_false rfl)).trans g_70_70
    have g_71_71 : cE h_71 71 (.inl (.int, fA [pa, xb])) := e_71
    refine fw_inc (a := 0) (loc_q := [some (.ref 66), some (fI 1)]) rfl rfl (Nat.le_of_ble_eq_true rfl) rfl ?_
    refine ik_Wk 3 (pc_q := 9) (loc_q := [some (.ref 66), some (fI 1)]) (st_q := [fI 2, fI 1]) (h_q := h_71) (cl_q := 0) (sl_q := 0) rfl ?_
    refine fw_ic_ge rfl rfl (by decide +kernel) (by decide +kernel) (by decide +kernel) (by decide +kernel) (fun hc3 => absurd hc3 (by decide +kernel)) (fun hc3 => ?_)
    refine ik_Wk 1 (pc_q := 13) (loc_q := [some (.ref 66), some (fI 1)]) (st_q := [.ref 66]) (h_q := h_71) (cl_q := 0) (sl_q := 0) rfl ?_
    refine fw_gf rfl rfl g_71_66 rfl ?_
    refine ik_Wk 2 (pc_q := 18) (loc_q := [some (.ref 66), some (fI 1)]) (st_q := [.ref 66, fI 1, .ref 71]) (h_q := h_71) (cl_q := 0) (sl_q := 0) rfl ?_
    refine fw_gf rfl rfl g_71_66 rfl ?_
    refine ik_Wk 2 (pc_q := 23) (loc_q := [some (.ref 66), some (fI 1)]) (st_q := [fI 1, fI 3, .ref 70, fI 1, .ref 71]) (h_q := h_71) (cl_q := 0) (sl_q := 0) rfl ?_
    refine fw_mul rfl ?_
    refine ik_Wk 1 (pc_q := 25) (loc_q := [some (.ref 66), some (fI 1)]) (st_q := [fI 2, fI 3, .ref 70, fI 1, .ref 71]) (h_q := h_71) (cl_q := 0) (sl_q := 0) rfl ?_
    refine fw_add rfl ?_
    refine fw_ial (z := 5) rfl g_71_70 (by decide +kernel) (Nat.le_of_ble_eq_true rfl) (by decide +kernel) ?_
    refine ik_Wk 0 (pc_q := 27) (loc_q := [some (.ref 66), some (fI 1)]) (st_q := [fI fb, fI 1, .ref 71]) (h_q := h_71) (cl_q := 0) (sl_q := 0) rfl ?_
    refine fw_if_ne rfl rfl (by omega) (by omega) (fun hc4 => ?_) (fun hc4 => ?_)
    · refine ik_Wk 1 (pc_q := 31) (loc_q := [some (.ref 66), some (fI 1)]) (st_q := [.ref 66, fI 1, .ref 71]) (h_q := h_71) (cl_q := 0) (sl_q := 0) rfl ?_
      refine fw_gf rfl rfl g_71_66 rfl ?_
      refine ik_Wk 2 (pc_q := 36) (loc_q := [some (.ref 66), some (fI 1)]) (st_q := [fI 1, fI 3, .ref 70, fI 1, .ref 71]) (h_q := h_71) (cl_q := 0) (sl_q := 0) rfl ?_
      refine fw_mul rfl ?_
      refine ik_Wk 1 (pc_q := 38) (loc_q := [some (.ref 66), some (fI 1)]) (st_q := [fI 1, fI 3, .ref 70, fI 1, .ref 71]) (h_q := h_71) (cl_q := 0) (sl_q := 0) rfl ?_
      refine fw_add rfl ?_
      refine fw_ial (z := 4) rfl g_71_70 (by decide +kernel) (Nat.le_of_ble_eq_true rfl) (by decide +kernel) ?_
      refine ik_Wk 0 (pc_q := 40) (loc_q := [some (.ref 66), some (fI 1)]) (st_q := [fI pb, fI 1, .ref 71]) (h_q := h_71) (cl_q := 0) (sl_q := 0) rfl ?_
      refine ik_Wk 1 (pc_q := 44) (loc_q := [some (.ref 66), some (fI 1)]) (st_q := [fI pb, fI 1, .ref 71]) (h_q := h_71) (cl_q := 0) (sl_q := 0) rfl ?_
      refine fx_ias (z := 1) rfl g_71_71 (by decide +kernel) (Nat.le_of_ble_eq_true rfl) (by decide +kernel) ?_
      intro h_72 e_72 f_72 l_72
      have k_72 : cL h_72 := l_72.trans k_71
      have fr_72 := hfr_wb fr_71 f_72 l_72 rfl
      clear l_72
      have g_72_66 := (f_72 66 (Nat.ne_of_beq_eq_false rfl)).trans g_71_66
      have g_72_70 := (f_72 70 (Nat.ne_of_beq_eq_false rfl)).trans g_71_70
      have g_72_71 : cE h_72 71 (.inl (.int, fA [pa, pb])) := e_72
      refine fw_inc (a := 1) (loc_q := [some (.ref 66), some (fI 2)]) rfl rfl (Nat.le_of_ble_eq_true rfl) rfl ?_
      refine ik_Wk 3 (pc_q := 9) (loc_q := [some (.ref 66), some (fI 2)]) (st_q := [fI 2, fI 2]) (h_q := h_72) (cl_q := 0) (sl_q := 0) rfl ?_
      refine fw_ic_ge rfl rfl (by decide +kernel) (by decide +kernel) (by decide +kernel) (by decide +kernel) (fun hc5 => ?_) (fun hc5 => absurd hc5 (by decide +kernel))
      have e1 : mx_sp pa fa = pa := by unfold mx_sp; split <;> omega
      have e2 : mx_sp pb fb = pb := by unfold mx_sp; split <;> omega
      rw [e1, e2]
      exact ik_Wret rfl rfl ⟨_, _, rfl, rfl, rfl, rfl, ⟨rfl, g_72_66, g_72_71, fr_72⟩⟩
    · refine ik_Wk 1 (pc_q := 44) (loc_q := [some (.ref 66), some (fI 1)]) (st_q := [fI (-1), fI 1, .ref 71]) (h_q := h_71) (cl_q := 0) (sl_q := 0) rfl ?_
      refine fx_ias (z := 1) rfl g_71_71 (by decide +kernel) (Nat.le_of_ble_eq_true rfl) (by decide +kernel) ?_
      intro h_73 e_73 f_73 l_73
      have k_73 : cL h_73 := l_73.trans k_71
      have fr_73 := hfr_wb fr_71 f_73 l_73 rfl
      clear l_73
      have g_73_66 := (f_73 66 (Nat.ne_of_beq_eq_false rfl)).trans g_71_66
      have g_73_70 := (f_73 70 (Nat.ne_of_beq_eq_false rfl)).trans g_71_70
      have g_73_71 : cE h_73 71 (.inl (.int, fA [pa, -1])) := e_73
      refine fw_inc (a := 1) (loc_q := [some (.ref 66), some (fI 2)]) rfl rfl (Nat.le_of_ble_eq_true rfl) rfl ?_
      refine ik_Wk 3 (pc_q := 9) (loc_q := [some (.ref 66), some (fI 2)]) (st_q := [fI 2, fI 2]) (h_q := h_73) (cl_q := 0) (sl_q := 0) rfl ?_
      refine fw_ic_ge rfl rfl (by decide +kernel) (by decide +kernel) (by decide +kernel) (by decide +kernel) (fun hc6 => ?_) (fun hc6 => absurd hc6 (by decide +kernel))
      have e1 : mx_sp pa fa = pa := by unfold mx_sp; split <;> omega
      have e2 : mx_sp pb fb = -1 := by unfold mx_sp; split <;> omega
      rw [e1, e2]
      exact ik_Wret rfl rfl ⟨_, _, rfl, rfl, rfl, rfl, ⟨rfl, g_73_66, g_73_71, fr_73⟩⟩
  · refine ik_Wk 1 (pc_q := 44) (loc_q := [some (.ref 66), some (fI 0)]) (st_q := [fI (-1), fI 0, .ref 71]) (h_q := h_70) (cl_q := 0) (sl_q := 0) rfl ?_
    refine fx_ias (z := 0) rfl g_70_71 (by decide +kernel) (Nat.le_of_ble_eq_true rfl) (by decide +kernel) ?_
    intro h_74 e_74 f_74 l_74
    have k_74 : cL h_74 := l_74.trans k_70
    have fr_74 := hfr_wb fr_70 f_74 l_74 rfl
    clear l_74
    have g_74_66 := (f_74 66 (Nat.ne_of_beq_eq_false rfl)).trans g_70_66
    have g_74_70 := (f_74 70 (Nat.ne_of_beq_eq_false rfl)).trans g_70_70
    have g_74_71 : cE h_74 71 (.inl (.int, fA [-1, xb])) := e_74
    refine fw_inc (a := 0) (loc_q := [some (.ref 66), some (fI 1)]) rfl rfl (Nat.le_of_ble_eq_true rfl) rfl ?_
    refine ik_Wk 3 (pc_q := 9) (loc_q := [some (.ref 66), some (fI 1)]) (st_q := [fI 2, fI 1]) (h_q := h_74) (cl_q := 0) (sl_q := 0) rfl ?_
    refine fw_ic_ge rfl rfl (by decide +kernel) (by decide +kernel) (by decide +kernel) (by decide +kernel) (fun hc7 => absurd hc7 (by decide +kernel)) (fun hc7 => ?_)
    refine ik_Wk 1 (pc_q := 13) (loc_q := [some (.ref 66), some (fI 1)]) (st_q := [.ref 66]) (h_q := h_74) (cl_q := 0) (sl_q := 0) rfl ?_
    refine fw_gf rfl rfl g_74_66 rfl ?_
    refine ik_Wk 2 (pc_q := 18) (loc_q := [some (.ref 66), some (fI 1)]) (st_q := [.ref 66, fI 1, .ref 71]) (h_q := h_74) (cl_q := 0) (sl_q := 0) rfl ?_
    refine fw_gf rfl rfl g_74_66 rfl ?_
    refine ik_Wk 2 (pc_q := 23) (loc_q := [some (.ref 66), some (fI 1)]) (st_q := [fI 1, fI 3, .ref 70, fI 1, .ref 71]) (h_q := h_74) (cl_q := 0) (sl_q := 0) rfl ?_
    refine fw_mul rfl ?_
    refine ik_Wk 1 (pc_q := 25) (loc_q := [some (.ref 66), some (fI 1)]) (st_q := [fI 2, fI 3, .ref 70, fI 1, .ref 71]) (h_q := h_74) (cl_q := 0) (sl_q := 0) rfl ?_
    refine fw_add rfl ?_
    refine fw_ial (z := 5) rfl g_74_70 (by decide +kernel) (Nat.le_of_ble_eq_true rfl) (by decide +kernel) ?_
    refine ik_Wk 0 (pc_q := 27) (loc_q := [some (.ref 66), some (fI 1)]) (st_q := [fI fb, fI 1, .ref 71]) (h_q := h_74) (cl_q := 0) (sl_q := 0) rfl ?_
    refine fw_if_ne rfl rfl (by omega) (by omega) (fun hc8 => ?_) (fun hc8 => ?_)
    · refine ik_Wk 1 (pc_q := 31) (loc_q := [some (.ref 66), some (fI 1)]) (st_q := [.ref 66, fI 1, .ref 71]) (h_q := h_74) (cl_q := 0) (sl_q := 0) rfl ?_
      refine fw_gf rfl rfl g_74_66 rfl ?_
      refine ik_Wk 2 (pc_q := 36) (loc_q := [some (.ref 66), some (fI 1)]) (st_q := [fI 1, fI 3, .ref 70, fI 1, .ref 71]) (h_q := h_74) (cl_q := 0) (sl_q := 0) rfl ?_
      refine fw_mul rfl ?_
      refine ik_Wk 1 (pc_q := 38) (loc_q := [some (.ref 66), some (fI 1)]) (st_q := [fI 1, fI 3, .ref 70, fI 1, .ref 71]) (h_q := h_74) (cl_q := 0) (sl_q := 0) rfl ?_
      refine fw_add rfl ?_
      refine fw_ial (z := 4) rfl g_74_70 (by decide +kernel) (Nat.le_of_ble_eq_true rfl) (by decide +kernel) ?_
      refine ik_Wk 0 (pc_q := 40) (loc_q := [some (.ref 66), some (fI 1)]) (st_q := [fI pb, fI 1, .ref 71]) (h_q := h_74) (cl_q := 0) (sl_q := 0) rfl ?_
      refine ik_Wk 1 (pc_q := 44) (loc_q := [some (.ref 66), some (fI 1)]) (st_q := [fI pb, fI 1, .ref 71]) (h_q := h_74) (cl_q := 0) (sl_q := 0) rfl ?_
      refine fx_ias (z := 1) rfl g_74_71 (by decide +kernel) (Nat.le_of_ble_eq_true rfl) (by decide +kernel) ?_
      intro h_75 e_75 f_75 l_75
      have k_75 : cL h_75 := l_75.trans k_74
      have fr_75 := hfr_wb fr_74 f_75 l_75 rfl
      clear l_75
      have g_75_66 := (f_75 66 (Nat.ne_of_beq_eq_false rfl)).trans g_74_66
      have g_75_70 := (f_75 70 (Nat.ne_of_beq_eq_false rfl)).trans g_74_70
      have g_75_71 : cE h_75 71 (.inl (.int, fA [-1, pb])) := e_75
      refine fw_inc (a := 1) (loc_q := [some (.ref 66), some (fI 2)]) rfl rfl (Nat.le_of_ble_eq_true rfl) rfl ?_
      refine ik_Wk 3 (pc_q := 9) (loc_q := [some (.ref 66), some (fI 2)]) (st_q := [fI 2, fI 2]) (h_q := h_75) (cl_q := 0) (sl_q := 0) rfl ?_
      refine fw_ic_ge rfl rfl (by decide +kernel) (by decide +kernel) (by decide +kernel) (by decide +kernel) (fun hc9 => ?_) (fun hc9 => absurd hc9 (by decide +kernel))
      have e1 : mx_sp pa fa = -1 := by unfold mx_sp; split <;> omega
      have e2 : mx_sp pb fb = pb := by unfold mx_sp; split <;> omega
      rw [e1, e2]
      exact ik_Wret rfl rfl ⟨_, _, rfl, rfl, rfl, rfl, ⟨rfl, g_75_66, g_75_71, fr_75⟩⟩
    · refine ik_Wk 1 (pc_q := 44) (loc_q := [some (.ref 66), some (fI 1)]) (st_q := [fI (-1), fI 1, .ref 71]) (h_q := h_74) (cl_q := 0) (sl_q := 0) rfl ?_
      refine fx_ias (z := 1) rfl g_74_71 (by decide +kernel) (Nat.le_of_ble_eq_true rfl) (by decide +kernel) ?_
      intro h_76 e_76 f_76 l_76
      have k_76 : cL h_76 := l_76.trans k_74
      have fr_76 := hfr_wb fr_74 f_76 l_76 rfl
      clear l_76
      have g_76_66 := (f_76 66 (Nat.ne_of_beq_eq_false rfl)).trans g_74_66
      have g_76_70 := (f_76 70 (Nat.ne_of_beq_eq_false rfl)).trans g_74_70
      have g_76_71 : cE h_76 71 (.inl (.int, fA [-1, -1])) := e_76
      refine fw_inc (a := 1) (loc_q := [some (.ref 66), some (fI 2)]) rfl rfl (Nat.le_of_ble_eq_true rfl) rfl ?_
      refine ik_Wk 3 (pc_q := 9) (loc_q := [some (.ref 66), some (fI 2)]) (st_q := [fI 2, fI 2]) (h_q := h_76) (cl_q := 0) (sl_q := 0) rfl ?_
      refine fw_ic_ge rfl rfl (by decide +kernel) (by decide +kernel) (by decide +kernel) (by decide +kernel) (fun hc10 => ?_) (fun hc10 => absurd hc10 (by decide +kernel))
      have e1 : mx_sp pa fa = -1 := by unfold mx_sp; split <;> omega
      have e2 : mx_sp pb fb = -1 := by unfold mx_sp; split <;> omega
      rw [e1, e2]
      exact ik_Wret rfl rfl ⟨_, _, rfl, rfl, rfl, rfl, ⟨rfl, g_76_66, g_76_71, fr_76⟩⟩

theorem cs_restart {h : List ik_E} {mi : Int} {ka : Int} {pa : Int} {fa : Int} {kb : Int} {pb : Int} {fb : Int} {xa : Int} {xb : Int} {sd : Int} (q0 : 0 ≤ fa ∧ fa ≤ 30) (q1 : 0 ≤ fb ∧ fb ≤ 30) (h14 : cE h 14 (.inr (1, [.ref 7, .ref 15, .ref 16, fI mi, fJ sd]))) (h15 : cE h 15 (.inl (.int, fA [ka, pa, fa, kb, pb, fb]))) (h16 : cE h 16 (.inl (.int, fA [xa, xb]))) (hl : h.length = 94) : ik_F 23 [.ref 14] h (fun rv h_q => rv = [] ∧ cE h_q 14 (.inr (1, [.ref 7, .ref 15, .ref 16, fI 0, fJ sd])) ∧ cE h_q 16 (.inl (.int, fA [mx_sp pa fa, mx_sp pb fb])) ∧ hfr [14, 16] h h_q) := by
  refine ik_Wk 2 (pc_q := 2) (loc_q := [some (.ref 14), none]) (st_q := [fI 0, .ref 14]) (h_q := h) (cl_q := 0) (sl_q := 0) rfl ?_
  refine fx_pf rfl rfl h14 (Nat.le_of_ble_eq_true rfl) rfl rfl ?_
  intro h_77 e_77 f_77 l_77
  have k_77 : cL h_77 := l_77.trans hl
  have fr_77 := hfr_wb (hfr_refl [14, 16] h) f_77 l_77 rfl
  clear l_77
  have g_77_15 := (f_77 15 (Nat.ne_of_beq_eq_false rfl)).trans h15
  have g_77_16 := (f_77 16 (Nat.ne_of_beq_eq_false rfl)).trans h16
  have g_77_14 : cE h_77 14 (.inr (1, [.ref 7, .ref 15, .ref 16, fI 0, fJ sd])) := e_77
  refine ik_Wk 4 (pc_q := 9) (loc_q := [some (.ref 14), some (fI 0)]) (st_q := [fI 2, fI 0]) (h_q := h_77) (cl_q := 0) (sl_q := 0) rfl ?_
  refine fw_ic_ge rfl rfl (by decide +kernel) (by decide +kernel) (by decide +kernel) (by decide +kernel) (fun hc1 => absurd hc1 (by decide +kernel)) (fun hc1 => ?_)
  refine ik_Wk 1 (pc_q := 13) (loc_q := [some (.ref 14), some (fI 0)]) (st_q := [.ref 14]) (h_q := h_77) (cl_q := 0) (sl_q := 0) rfl ?_
  refine fw_gf rfl rfl g_77_14 rfl ?_
  refine ik_Wk 2 (pc_q := 18) (loc_q := [some (.ref 14), some (fI 0)]) (st_q := [.ref 14, fI 0, .ref 16]) (h_q := h_77) (cl_q := 0) (sl_q := 0) rfl ?_
  refine fw_gf rfl rfl g_77_14 rfl ?_
  refine ik_Wk 2 (pc_q := 23) (loc_q := [some (.ref 14), some (fI 0)]) (st_q := [fI 3, fI 0, .ref 15, fI 0, .ref 16]) (h_q := h_77) (cl_q := 0) (sl_q := 0) rfl ?_
  refine fw_mul rfl ?_
  refine ik_Wk 1 (pc_q := 25) (loc_q := [some (.ref 14), some (fI 0)]) (st_q := [fI 2, fI 0, .ref 15, fI 0, .ref 16]) (h_q := h_77) (cl_q := 0) (sl_q := 0) rfl ?_
  refine fw_add rfl ?_
  refine fw_ial (z := 2) rfl g_77_15 (by decide +kernel) (Nat.le_of_ble_eq_true rfl) (by decide +kernel) ?_
  refine ik_Wk 0 (pc_q := 27) (loc_q := [some (.ref 14), some (fI 0)]) (st_q := [fI fa, fI 0, .ref 16]) (h_q := h_77) (cl_q := 0) (sl_q := 0) rfl ?_
  refine fw_if_ne rfl rfl (by omega) (by omega) (fun hc2 => ?_) (fun hc2 => ?_)
  · refine ik_Wk 1 (pc_q := 31) (loc_q := [some (.ref 14), some (fI 0)]) (st_q := [.ref 14, fI 0, .ref 16]) (h_q := h_77) (cl_q := 0) (sl_q := 0) rfl ?_
    refine fw_gf rfl rfl g_77_14 rfl ?_
    refine ik_Wk 2 (pc_q := 36) (loc_q := [some (.ref 14), some (fI 0)]) (st_q := [fI 3, fI 0, .ref 15, fI 0, .ref 16]) (h_q := h_77) (cl_q := 0) (sl_q := 0) rfl ?_
    refine fw_mul rfl ?_
    refine ik_Wk 1 (pc_q := 38) (loc_q := [some (.ref 14), some (fI 0)]) (st_q := [fI 1, fI 0, .ref 15, fI 0, .ref 16]) (h_q := h_77) (cl_q := 0) (sl_q := 0) rfl ?_
    refine fw_add rfl ?_
    refine fw_ial (z := 1) rfl g_77_15 (by decide +kernel) (Nat.le_of_ble_eq_true rfl) (by decide +kernel) ?_
    refine ik_Wk 0 (pc_q := 40) (loc_q := [some (.ref 14), some (fI 0)]) (st_q := [fI pa, fI 0, .ref 16]) (h_q := h_77) (cl_q := 0) (sl_q := 0) rfl ?_
    refine ik_Wk 1 (pc_q := 44) (loc_q := [some (.ref 14), some (fI 0)]) (st_q := [fI pa, fI 0, .ref 16]) (h_q := h_77) (cl_q := 0) (sl_q := 0) rfl ?_
    refine fx_ias (z := 0) rfl g_77_16 (by decide +kernel) (Nat.le_of_ble_eq_true rfl) (by decide +kernel) ?_
    intro h_78 e_78 f_78 l_78
    have k_78 : cL h_78 := l_78.trans k_77
    have fr_78 := hfr_wb fr_77 f_78 l_78 rfl
    clear l_78
    have g_78_14 := (f_78 14 (Nat.ne_of_beq_eq_false rfl)).trans g_77_14
    have g_78_15 := (f_78 15 (Nat.ne_of_beq_eq_false rfl)).trans g_77_15
    have g_78_16 : cE h_78 16 (.inl (.int, fA [pa, xb])) := e_78
    refine fw_inc (a := 0) (loc_q := [some (.ref 14), some (fI 1)]) rfl rfl (Nat.le_of_ble_eq_true rfl) rfl ?_
    refine ik_Wk 3 (pc_q := 9) (loc_q := [some (.ref 14), some (fI 1)]) (st_q := [fI 2, fI 1]) (h_q := h_78) (cl_q := 0) (sl_q := 0) rfl ?_
    refine fw_ic_ge rfl rfl (by decide +kernel) (by decide +kernel) (by decide +kernel) (by decide +kernel) (fun hc3 => absurd hc3 (by decide +kernel)) (fun hc3 => ?_)
    refine ik_Wk 1 (pc_q := 13) (loc_q := [some (.ref 14), some (fI 1)]) (st_q := [.ref 14]) (h_q := h_78) (cl_q := 0) (sl_q := 0) rfl ?_
    refine fw_gf rfl rfl g_78_14 rfl ?_
    refine ik_Wk 2 (pc_q := 18) (loc_q := [some (.ref 14), some (fI 1)]) (st_q := [.ref 14, fI 1, .ref 16]) (h_q := h_78) (cl_q := 0) (sl_q := 0) rfl ?_
    refine fw_gf rfl rfl g_78_14 rfl ?_
    refine ik_Wk 2 (pc_q := 23) (loc_q := [some (.ref 14), some (fI 1)]) (st_q := [fI 3, fI 1, .ref 15, fI 1, .ref 16]) (h_q := h_78) (cl_q := 0) (sl_q := 0) rfl ?_
    refine fw_mul rfl ?_
    refine ik_Wk 1 (pc_q := 25) (loc_q := [some (.ref 14), some (fI 1)]) (st_q := [fI 2, fI 3, .ref 15, fI 1, .ref 16]) (h_q := h_78) (cl_q := 0) (sl_q := 0) rfl ?_
    refine fw_add rfl ?_
    refine fw_ial (z := 5) rfl g_78_15 (by decide +kernel) (Nat.le_of_ble_eq_true rfl) (by decide +kernel) ?_
    refine ik_Wk 0 (pc_q := 27) (loc_q := [some (.ref 14), some (fI 1)]) (st_q := [fI fb, fI 1, .ref 16]) (h_q := h_78) (cl_q := 0) (sl_q := 0) rfl ?_
    refine fw_if_ne rfl rfl (by omega) (by omega) (fun hc4 => ?_) (fun hc4 => ?_)
    · refine ik_Wk 1 (pc_q := 31) (loc_q := [some (.ref 14), some (fI 1)]) (st_q := [.ref 14, fI 1, .ref 16]) (h_q := h_78) (cl_q := 0) (sl_q := 0) rfl ?_
      refine fw_gf rfl rfl g_78_14 rfl ?_
      refine ik_Wk 2 (pc_q := 36) (loc_q := [some (.ref 14), some (fI 1)]) (st_q := [fI 3, fI 1, .ref 15, fI 1, .ref 16]) (h_q := h_78) (cl_q := 0) (sl_q := 0) rfl ?_
      refine fw_mul rfl ?_
      refine ik_Wk 1 (pc_q := 38) (loc_q := [some (.ref 14), some (fI 1)]) (st_q := [fI 1, fI 3, .ref 15, fI 1, .ref 16]) (h_q := h_78) (cl_q := 0) (sl_q := 0) rfl ?_
      refine fw_add rfl ?_
      refine fw_ial (z := 4) rfl g_78_15 (by decide +kernel) (Nat.le_of_ble_eq_true rfl) (by decide +kernel) ?_
      refine ik_Wk 0 (pc_q := 40) (loc_q := [some (.ref 14), some (fI 1)]) (st_q := [fI pb, fI 1, .ref 16]) (h_q := h_78) (cl_q := 0) (sl_q := 0) rfl ?_
      refine ik_Wk 1 (pc_q := 44) (loc_q := [some (.ref 14), some (fI 1)]) (st_q := [fI pb, fI 1, .ref 16]) (h_q := h_78) (cl_q := 0) (sl_q := 0) rfl ?_
      refine fx_ias (z := 1) rfl g_78_16 (by decide +kernel) (Nat.le_of_ble_eq_true rfl) (by decide +kernel) ?_
      intro h_79 e_79 f_79 l_79
      have k_79 : cL h_79 := l_79.trans k_78
      have fr_79 := hfr_wb fr_78 f_79 l_79 rfl
      clear l_79
      have g_79_14 := (f_79 14 (Nat.ne_of_beq_eq_false rfl)).trans g_78_14
      have g_79_15 := (f_79 15 (Nat.ne_of_beq_eq_false rfl)).trans g_78_15
      have g_79_16 : cE h_79 16 (.inl (.int, fA [pa, pb])) := e_79
      refine fw_inc (a := 1) (loc_q := [some (.ref 14), some (fI 2)]) rfl rfl (Nat.le_of_ble_eq_true rfl) rfl ?_
      refine ik_Wk 3 (pc_q := 9) (loc_q := [some (.ref 14), some (fI 2)]) (st_q := [fI 2, fI 2]) (h_q := h_79) (cl_q := 0) (sl_q := 0) rfl ?_
      refine fw_ic_ge rfl rfl (by decide +kernel) (by decide +kernel) (by decide +kernel) (by decide +kernel) (fun hc5 => ?_) (fun hc5 => absurd hc5 (by decide +kernel))
      have e1 : mx_sp pa fa = pa := by unfold mx_sp; split <;> omega
      have e2 : mx_sp pb fb = pb := by unfold mx_sp; split <;> omega
      rw [e1, e2]
      exact ik_Wret rfl rfl ⟨_, _, rfl, rfl, rfl, rfl, ⟨rfl, g_79_14, g_79_16, fr_79⟩⟩
    · refine ik_Wk 1 (pc_q := 44) (loc_q := [some (.ref 14), some (fI 1)]) (st_q := [fI (-1), fI 1, .ref 16]) (h_q := h_78) (cl_q := 0) (sl_q := 0) rfl ?_
      refine fx_ias (z := 1) rfl g_78_16 (by decide +kernel) (Nat.le_of_ble_eq_true rfl) (by decide +kernel) ?_
      intro h_80 e_80 f_80 l_80
      have k_80 : cL h_80 := l_80.trans k_78
      have fr_80 := hfr_wb fr_78 f_80 l_80 rfl
      clear l_80
      have g_80_14 := (f_80 14 (Nat.ne_of_beq_eq_false rfl)).trans g_78_14
      have g_80_15 := (f_80 15 (Nat.ne_of_beq_eq_false rfl)).trans g_78_15
      have g_80_16 : cE h_80 16 (.inl (.int, fA [pa, -1])) := e_80
      refine fw_inc (a := 1) (loc_q := [some (.ref 14), some (fI 2)]) rfl rfl (Nat.le_of_ble_eq_true rfl) rfl ?_
      refine ik_Wk 3 (pc_q := 9) (loc_q := [some (.ref 14), some (fI 2)]) (st_q := [fI 2, fI 2]) (h_q := h_80) (cl_q := 0) (sl_q := 0) rfl ?_
      refine fw_ic_ge rfl rfl (by decide +kernel) (by decide +kernel) (by decide +kernel) (by decide +kernel) (fun hc6 => ?_) (fun hc6 => absurd hc6 (by decide +kernel))
      have e1 : mx_sp pa fa = pa := by unfold mx_sp; split <;> omega
      have e2 : mx_sp pb fb = -1 := by unfold mx_sp; split <;> omega
      rw [e1, e2]
      exact ik_Wret rfl rfl ⟨_, _, rfl, rfl, rfl, rfl, ⟨rfl, g_80_14, g_80_16, fr_80⟩⟩
  · refine ik_Wk 1 (pc_q := 44) (loc_q := [some (.ref 14), some (fI 0)]) (st_q := [fI (-1), fI 0, .ref 16]) (h_q := h_77) (cl_q := 0) (sl_q := 0) rfl ?_
    refine fx_ias (z := 0) rfl g_77_16 (by decide +kernel) (Nat.le_of_ble_eq_true rfl) (by decide +kernel) ?_
    intro h_81 e_81 f_81 l_81
    have k_81 : cL h_81 := l_81.trans k_77
    have fr_81 := hfr_wb fr_77 f_81 l_81 rfl
    clear l_81
    have g_81_14 := (f_81 14 (Nat.ne_of_beq_eq_false rfl)).trans g_77_14
    have g_81_15 := (f_81 15 (Nat.ne_of_beq_eq_false rfl)).trans g_77_15
    have g_81_16 : cE h_81 16 (.inl (.int, fA [-1, xb])) := e_81
    refine fw_inc (a := 0) (loc_q := [some (.ref 14), some (fI 1)]) rfl rfl (Nat.le_of_ble_eq_true rfl) rfl ?_
    refine ik_Wk 3 (pc_q := 9) (loc_q := [some (.ref 14), some (fI 1)]) (st_q := [fI 2, fI 1]) (h_q := h_81) (cl_q := 0) (sl_q := 0) rfl ?_
    refine fw_ic_ge rfl rfl (by decide +kernel) (by decide +kernel) (by decide +kernel) (by decide +kernel) (fun hc7 => absurd hc7 (by decide +kernel)) (fun hc7 => ?_)
    refine ik_Wk 1 (pc_q := 13) (loc_q := [some (.ref 14), some (fI 1)]) (st_q := [.ref 14]) (h_q := h_81) (cl_q := 0) (sl_q := 0) rfl ?_
    refine fw_gf rfl rfl g_81_14 rfl ?_
    refine ik_Wk 2 (pc_q := 18) (loc_q := [some (.ref 14), some (fI 1)]) (st_q := [.ref 14, fI 1, .ref 16]) (h_q := h_81) (cl_q := 0) (sl_q := 0) rfl ?_
    refine fw_gf rfl rfl g_81_14 rfl ?_
    refine ik_Wk 2 (pc_q := 23) (loc_q := [some (.ref 14), some (fI 1)]) (st_q := [fI 3, fI 1, .ref 15, fI 1, .ref 16]) (h_q := h_81) (cl_q := 0) (sl_q := 0) rfl ?_
    refine fw_mul rfl ?_
    refine ik_Wk 1 (pc_q := 25) (loc_q := [some (.ref 14), some (fI 1)]) (st_q := [fI 2, fI 3, .ref 15, fI 1, .ref 16]) (h_q := h_81) (cl_q := 0) (sl_q := 0) rfl ?_
    refine fw_add rfl ?_
    refine fw_ial (z := 5) rfl g_81_15 (by decide +kernel) (Nat.le_of_ble_eq_true rfl) (by decide +kernel) ?_
    refine ik_Wk 0 (pc_q := 27) (loc_q := [some (.ref 14), some (fI 1)]) (st_q := [fI fb, fI 1, .ref 16]) (h_q := h_81) (cl_q := 0) (sl_q := 0) rfl ?_
    refine fw_if_ne rfl rfl (by omega) (by omega) (fun hc8 => ?_) (fun hc8 => ?_)
    · refine ik_Wk 1 (pc_q := 31) (loc_q := [some (.ref 14), some (fI 1)]) (st_q := [.ref 14, fI 1, .ref 16]) (h_q := h_81) (cl_q := 0) (sl_q := 0) rfl ?_
      refine fw_gf rfl rfl g_81_14 rfl ?_
      refine ik_Wk 2 (pc_q := 36) (loc_q := [some (.ref 14), some (fI 1)]) (st_q := [fI 3, fI 1, .ref 15, fI 1, .ref 16]) (h_q := h_81) (cl_q := 0) (sl_q := 0) rfl ?_
      refine fw_mul rfl ?_
      refine ik_Wk 1 (pc_q := 38) (loc_q := [some (.ref 14), some (fI 1)]) (st_q := [fI 1, fI 3, .ref 15, fI 1, .ref 16]) (h_q := h_81) (cl_q := 0) (sl_q := 0) rfl ?_
      refine fw_add rfl ?_
      refine fw_ial (z := 4) rfl g_81_15 (by decide +kernel) (Nat.le_of_ble_eq_true rfl) (by decide +kernel) ?_
      refine ik_Wk 0 (pc_q := 40) (loc_q := [some (.ref 14), some (fI 1)]) (st_q := [fI pb, fI 1, .ref 16]) (h_q := h_81) (cl_q := 0) (sl_q := 0) rfl ?_
      refine ik_Wk 1 (pc_q := 44) (loc_q := [some (.ref 14), some (fI 1)]) (st_q := [fI pb, fI 1, .ref 16]) (h_q := h_81) (cl_q := 0) (sl_q := 0) rfl ?_
      refine fx_ias (z := 1) rfl g_81_16 (by decide +kernel) (Nat.le_of_ble_eq_true rfl) (by decide +kernel) ?_
      intro h_82 e_82 f_82 l_82
      have k_82 : cL h_82 := l_82.trans k_81
      have fr_82 := hfr_wb fr_81 f_82 l_82 rfl
      clear l_82
      have g_82_14 := (f_82 14 (Nat.ne_of_beq_eq_false rfl)).trans g_81_14
      have g_82_15 := (f_82 15 (Nat.ne_of_beq_eq_false rfl)).trans g_81_15
      have g_82_16 : cE h_82 16 (.inl (.int, fA [-1, pb])) := e_82
      refine fw_inc (a := 1) (loc_q := [some (.ref 14), some (fI 2)]) rfl rfl (Nat.le_of_ble_eq_true rfl) rfl ?_
      refine ik_Wk 3 (pc_q := 9) (loc_q := [some (.ref 14), some (fI 2)]) (st_q := [fI 2, fI 2]) (h_q := h_82) (cl_q := 0) (sl_q := 0) rfl ?_
      refine fw_ic_ge rfl rfl (by decide +kernel) (by decide +kernel) (by decide +kernel) (by decide +kernel) (fun hc9 => ?_) (fun hc9 => absurd hc9 (by decide +kernel))
      have e1 : mx_sp pa fa = -1 := by unfold mx_sp; split <;> omega
      have e2 : mx_sp pb fb = pb := by unfold mx_sp; split <;> omega
      rw [e1, e2]
      exact ik_Wret rfl rfl ⟨_, _, rfl, rfl, rfl, rfl, ⟨rfl, g_82_14, g_82_16, fr_82⟩⟩
    · refine ik_Wk 1 (pc_q := 44) (loc_q := [some (.ref 14), some (fI 1)]) (st_q := [fI (-1), fI 1, .ref 16]) (h_q := h_81) (cl_q := 0) (sl_q := 0) rfl ?_
      refine fx_ias (z := 1) rfl g_81_16 (by decide +kernel) (Nat.le_of_ble_eq_true rfl) (by decide +kernel) ?_
      intro h_83 e_83 f_83 l_83
      have k_83 : cL h_83 := l_83.trans k_81
      have fr_83 := hfr_wb fr_81 f_83 l_83 rfl
      clear l_83
      have g_83_14 := (f_83 14 (Nat.ne_of_beq_eq_false rfl)).trans g_81_14
      have g_83_15 := (f_83 15 (Nat.ne_of_beq_eq_false rfl)).trans g_81_15
      have g_83_16 : cE h_83 16 (.inl (.int, fA [-1, -1])) := e_83
      refine fw_inc (a := 1) (loc_q := [some (.ref 14), some (fI 2)]) rfl rfl (Nat.le_of_ble_eq_true rfl) rfl ?_
      refine ik_Wk 3 (pc_q := 9) (loc_q := [some (.ref 14), some (fI 2)]) (st_q := [fI 2, fI 2]) (h_q := h_83) (cl_q := 0) (sl_q := 0) rfl ?_
      refine fw_ic_ge rfl rfl (by decide +kernel) (by decide +kernel) (by decide +kernel) (by decide +kernel) (fun hc10 => ?_) (fun hc10 => absurd hc10 (by decide +kernel))
      have e1 : mx_sp pa fa = -1 := by unfold mx_sp; split <;> omega
      have e2 : mx_sp pb fb = -1 := by unfold mx_sp; split <;> omega
      rw [e1, e2]
      exact ik_Wret rfl rfl ⟨_, _, rfl, rfl, rfl, rfl, ⟨rfl, g_83_14, g_83_16, fr_83⟩⟩

theorem cr_driftL {h : List ik_E} {pl : Int} {mi : Int} {sd : Int} {ka : Int} {pa : Int} {fa : Int} {kb : Int} {pb : Int} {fb : Int} {xa : Int} {xb : Int} {s : Nat} {cn : List Int} {go : List Int} {ch : List Int} {n : Int} {f : Nat → Int} {gt : List Int} {gd : List Int} (q0 : 2 ≤ pl ∧ pl ≤ 12) (q1 : s < 4096) (q2 : 0 ≤ sd ∧ sd < 2147483648) (q3 : 0 ≤ mi ∧ mi < 2000000000) (q4 : ∀ x : Int, (0 : Int) ≤ x → x < pl - 1 → 1 ≤ cn.getD x.toNat 0 ∧ ∀ j : Int, 4 * x ≤ j → j < 4 * x + cn.getD x.toNat 0 → 0 ≤ ch.getD j.toNat 0 ∧ ch.getD j.toNat 0 ≤ 100) (q5 : ∀ x : Int, (0 : Int) ≤ x → x < pl → 0 ≤ cn.getD x.toNat 0 ∧ cn.getD x.toNat 0 ≤ 4) (q6 : ∀ x : Int, (0 : Int) ≤ x → x < pl - 1 → mx_ok pl (mx_w cn go ch s x)) (q7 : (0 : Int) ≤ ka ∧ ka ≤ (2 : Int)) (q8 : (0 : Int) ≤ kb ∧ kb ≤ (2 : Int)) (q9 : (0 : Int) ≤ fa ∧ fa ≤ (30 : Int)) (q10 : (0 : Int) ≤ fb ∧ fb ≤ (30 : Int)) (q11 : (0 : Int) ≤ pa ∧ pa < pl) (q12 : (0 : Int) ≤ pb ∧ pb < pl) (q13 : fa ≤ mi → (0 : Int) ≤ xa) (q14 : fb ≤ mi → (0 : Int) ≤ xb) (q15 : (-1 : Int) ≤ xa ∧ xa < pl) (q16 : (-1 : Int) ≤ xb ∧ xb < pl) (q17 : (0 : Int) ≤ n ∧ n ≤ (200 : Int)) (q18 : mi < (1999999000 : Int))  : ∀ (k : Nat) (i : Int) (x : Int) (y : Int) (m : Int) (d : Int) (w : Int) (g1 : List Int) (d1 : List Int) (u : List ik_E) (u66 : cE u 66 (.inr (10, (fI pl :: .ref 67 :: .ref 68 :: .ref 69 :: fI ((s : Nat) : Int) :: .ref 70 :: .ref 71 :: fI m :: fI d :: .ref 72 :: fI (f 10) :: fI (f 11) :: fI (f 12) :: fJ (f 13) :: fI (f 14) :: fI (f 15) :: fI (f 16) :: fI (f 17) :: .ref 73 :: .ref 74 :: .ref 75 :: .ref 76 :: .ref 77 :: .ref 78 :: fI w :: .ref 79 :: .ref 80 :: .ref 81 :: .ref 82 :: .ref 83 :: .ref 84 :: .ref 85 :: fJ (f 32) :: fJ (f 33) :: .ref 86 :: .ref 87 :: fI (f 36) :: .ref 88 :: .ref 89 :: .ref 90 :: .ref 91 :: .ref 92 :: .ref 93 :: [])))) (u67 : cE u 67 (.inl (.int, fA cn))) (n67 : cn.length = (12 : Nat)) (u68 : cE u 68 (.inl (.int, fA go))) (n68 : go.length = (48 : Nat)) (u69 : cE u 69 (.inl (.int, fA ch))) (n69 : ch.length = (48 : Nat)) (u70 : cE u 70 (.inl (.int, fA [ka, pa, fa, kb, pb, fb]))) (u71 : cE u 71 (.inl (.int, fA [x, y]))) (u77 : cE u 77 (.inl (.int, fA g1))) (n77 : g1.length = (5 : Nat)) (u78 : cE u 78 (.inl (.int, fA d1))) (n78 : d1.length = (5 : Nat)) (ul : u.length = (94 : Nat)) (F : hfr [66, 71, 77, 78] h u) (hi : (0 : Int) ≤ i ∧ i ≤ n) (hx0 : fa ≤ m → (0 : Int) ≤ x) (hx1 : fb ≤ m → (0 : Int) ≤ y) (hx2 : (-1 : Int) ≤ x ∧ x < pl) (hx3 : (-1 : Int) ≤ y ∧ y < pl) (hd : (0 : Int) ≤ d ∧ d < (2147483648 : Int)) (hm : m = mi + i) (he : (mx_dr (fun x => mx_w cn go ch s x) (pl - 1) ka pa fa kb pb fb n.toNat xa xb mi sd) = (mx_dr (fun x => mx_w cn go ch s x) (pl - 1) ka pa fa kb pb fb ((n - i).toNat) x y m d)) (hk : n - i < (k : Int)), ik_G 198 2 [some (.ref 66), some (fI n), some (fI i)] [] u (fun rv h_q => ∃ (w' : Int) (gt' : List Int) (gd' : List Int), rv = [fI (mx_en (pl - 1) (mx_dr (fun x => mx_w cn go ch s x) (pl - 1) ka pa fa kb pb fb n.toNat xa xb mi sd).1 (mx_dr (fun x => mx_w cn go ch s x) (pl - 1) ka pa fa kb pb fb n.toNat xa xb mi sd).2.1)] ∧ cE h_q 66 (.inr (10, (fI pl :: .ref 67 :: .ref 68 :: .ref 69 :: fI ((s : Nat) : Int) :: .ref 70 :: .ref 71 :: fI ((mx_dr (fun x => mx_w cn go ch s x) (pl - 1) ka pa fa kb pb fb n.toNat xa xb mi sd).2.2.1) :: fI ((mx_dr (fun x => mx_w cn go ch s x) (pl - 1) ka pa fa kb pb fb n.toNat xa xb mi sd).2.2.2) :: .ref 72 :: fI (f 10) :: fI (f 11) :: fI (f 12) :: fJ (f 13) :: fI (f 14) :: fI (f 15) :: fI (f 16) :: fI (f 17) :: .ref 73 :: .ref 74 :: .ref 75 :: .ref 76 :: .ref 77 :: .ref 78 :: fI w' :: .ref 79 :: .ref 80 :: .ref 81 :: .ref 82 :: .ref 83 :: .ref 84 :: .ref 85 :: fJ (f 32) :: fJ (f 33) :: .ref 86 :: .ref 87 :: fI (f 36) :: .ref 88 :: .ref 89 :: .ref 90 :: .ref 91 :: .ref 92 :: .ref 93 :: []))) ∧ cE h_q 71 (.inl (.int, fA [(mx_dr (fun x => mx_w cn go ch s x) (pl - 1) ka pa fa kb pb fb n.toNat xa xb mi sd).1, (mx_dr (fun x => mx_w cn go ch s x) (pl - 1) ka pa fa kb pb fb n.toNat xa xb mi sd).2.1])) ∧ cE h_q 77 (.inl (.int, fA gt')) ∧ gt'.length = (5 : Nat) ∧ cE h_q 78 (.inl (.int, fA gd')) ∧ gd'.length = (5 : Nat) ∧ hfr [66, 71, 77, 78] h h_q) := by
  intro k
  induction k with
  | zero => intro i x y m d w g1 d1 u u66 u67 n67 u68 n68 u69 n69 u70 u71 u77 n77 u78 n78 ul F hi hx0 hx1 hx2 hx3 hd hm he hk; omega
  | succ k ih =>
    intro i x y m d w g1 d1 u u66 u67 n67 u68 n68 u69 n69 u70 u71 u77 n77 u78 n78 ul F hi hx0 hx1 hx2 hx3 hd hm he hk
    refine ik_Wk 2 (pc_q := 4) (loc_q := [some (.ref 66), some (fI n), some (fI i)]) (st_q := [fI n, fI i]) (h_q := u) (cl_q := 0) (sl_q := 0) rfl ?_
    refine fw_ic_ge rfl rfl (by omega) (by omega) (by omega) (by omega) (fun hc1 => ?_) (fun hc1 => ?_)
    · refine ik_Wk 1 (pc_q := 41) (loc_q := [some (.ref 66), some (fI n), some (fI i)]) (st_q := [.ref 66]) (h_q := u) (cl_q := 0) (sl_q := 0) rfl ?_
      refine ik_Wc 197 1 0 [.ref 66] [] rfl rfl rfl (by decide +kernel) rfl rfl (fw_rec ul rfl u66 rfl (Nat.le_of_ble_eq_true rfl)) ?_
      refine ik_Wk 0 (pc_q := 0) (loc_q := [some (.ref 66)]) (st_q := []) (h_q := u) (cl_q := 0) (sl_q := 0) rfl ?_
      refine ik_Wk 1 (pc_q := 1) (loc_q := [some (.ref 66)]) (st_q := [.ref 66]) (h_q := u) (cl_q := 0) (sl_q := 0) rfl ?_
      refine fw_gf rfl rfl u66 rfl ?_
      refine ik_Wk 1 (pc_q := 5) (loc_q := [some (.ref 66)]) (st_q := [fI 0, .ref 71]) (h_q := u) (cl_q := 0) (sl_q := 0) rfl ?_
      refine fw_ial (z := 0) rfl u71 (by decide +kernel) (Nat.le_of_ble_eq_true rfl) (by decide +kernel) ?_
      refine ik_Wk 0 (pc_q := 6) (loc_q := [some (.ref 66)]) (st_q := [fI x]) (h_q := u) (cl_q := 0) (sl_q := 0) rfl ?_
      refine ik_Wk 1 (pc_q := 7) (loc_q := [some (.ref 66)]) (st_q := [.ref 66, fI x]) (h_q := u) (cl_q := 0) (sl_q := 0) rfl ?_
      refine ik_Wc 130 1 0 [.ref 66] [fI x] rfl rfl rfl (by decide +kernel) rfl rfl (fw_rec ul rfl u66 rfl (Nat.le_of_ble_eq_true rfl)) ?_
      refine ik_Wk 0 (pc_q := 0) (loc_q := [some (.ref 66)]) (st_q := []) (h_q := u) (cl_q := 0) (sl_q := 0) rfl ?_
      refine ik_Wk 1 (pc_q := 1) (loc_q := [some (.ref 66)]) (st_q := [.ref 66]) (h_q := u) (cl_q := 0) (sl_q := 0) rfl ?_
      refine fw_gf rfl rfl u66 rfl ?_
      refine ik_Wk 1 (pc_q := 5) (loc_q := [some (.ref 66)]) (st_q := [fI 1, fI pl]) (h_q := u) (cl_q := 0) (sl_q := 0) rfl ?_
      refine fw_sub rfl ?_
      refine ik_Wret rfl rfl ⟨_, _, rfl, rfl, ?_⟩
      refine ik_Wk 0 (pc_q := 10) (loc_q := [some (.ref 66)]) (st_q := [fI (pl - 1), fI x]) (h_q := u) (cl_q := 0) (sl_q := 0) rfl ?_
      refine fw_ic_ne rfl rfl (by omega) (by omega) (by omega) (by omega) (fun hc2 => ?_) (fun hc2 => ?_)
      · refine ik_Wk 3 (pc_q := 19) (loc_q := [some (.ref 66)]) (st_q := [.ref 66, fI 1]) (h_q := u) (cl_q := 0) (sl_q := 0) rfl ?_
        refine fw_gf rfl rfl u66 rfl ?_
        refine ik_Wk 1 (pc_q := 23) (loc_q := [some (.ref 66)]) (st_q := [fI 1, .ref 71, fI 1]) (h_q := u) (cl_q := 0) (sl_q := 0) rfl ?_
        refine fw_ial (z := 1) rfl u71 (by decide +kernel) (Nat.le_of_ble_eq_true rfl) (by decide +kernel) ?_
        refine ik_Wk 0 (pc_q := 24) (loc_q := [some (.ref 66)]) (st_q := [fI y, fI 1]) (h_q := u) (cl_q := 0) (sl_q := 0) rfl ?_
        refine ik_Wk 1 (pc_q := 25) (loc_q := [some (.ref 66)]) (st_q := [.ref 66, fI y, fI 1]) (h_q := u) (cl_q := 0) (sl_q := 0) rfl ?_
        refine ik_Wc 130 1 0 [.ref 66] [fI y, fI 1] rfl rfl rfl (by decide +kernel) rfl rfl (fw_rec ul rfl u66 rfl (Nat.le_of_ble_eq_true rfl)) ?_
        refine ik_Wk 0 (pc_q := 0) (loc_q := [some (.ref 66)]) (st_q := []) (h_q := u) (cl_q := 0) (sl_q := 0) rfl ?_
        refine ik_Wk 1 (pc_q := 1) (loc_q := [some (.ref 66)]) (st_q := [.ref 66]) (h_q := u) (cl_q := 0) (sl_q := 0) rfl ?_
        refine fw_gf rfl rfl u66 rfl ?_
        refine ik_Wk 1 (pc_q := 5) (loc_q := [some (.ref 66)]) (st_q := [fI 1, fI pl]) (h_q := u) (cl_q := 0) (sl_q := 0) rfl ?_
        refine fw_sub rfl ?_
        refine ik_Wret rfl rfl ⟨_, _, rfl, rfl, ?_⟩
        refine ik_Wk 0 (pc_q := 28) (loc_q := [some (.ref 66)]) (st_q := [fI (pl - 1), fI y, fI 1]) (h_q := u) (cl_q := 0) (sl_q := 0) rfl ?_
        refine fw_ic_ne rfl rfl (by omega) (by omega) (by omega) (by omega) (fun hc3 => ?_) (fun hc3 => ?_)
        · refine ik_Wk 2 (pc_q := 36) (loc_q := [some (.ref 66)]) (st_q := [fI 2, fI 1]) (h_q := u) (cl_q := 0) (sl_q := 0) rfl ?_
          refine fw_add rfl ?_
          refine ik_Wret rfl rfl ⟨_, _, rfl, rfl, ?_⟩
          refine ik_Wk 0 (pc_q := 44) (loc_q := [some (.ref 66), some (fI n), some (fI i)]) (st_q := [fI 3]) (h_q := u) (cl_q := 0) (sl_q := 0) rfl ?_
          have e0 : (mx_dr (fun x => mx_w cn go ch s x) (pl - 1) ka pa fa kb pb fb ((n - i).toNat) x y m d) = (x, y, m, d) := by
            first
            | exact mx_dr_b (by omega)
            | (have q : (n - i).toNat = 0 := by omega); rw [q]; rfl
          have ev : mx_en (pl - 1) x y = 3 := by unfold mx_en; (repeat' split) <;> omega
          rw [he, e0]
          exact ik_Wret rfl rfl ⟨_, _, rfl, rfl, rfl, rfl, ⟨w, g1, d1, (congrArg (fun z => [fI z]) ev.symm), u66, u71, u77, n77, u78, n78, F⟩⟩
        · refine ik_Wk 1 (pc_q := 36) (loc_q := [some (.ref 66)]) (st_q := [fI 0, fI 1]) (h_q := u) (cl_q := 0) (sl_q := 0) rfl ?_
          refine fw_add rfl ?_
          refine ik_Wret rfl rfl ⟨_, _, rfl, rfl, ?_⟩
          refine ik_Wk 0 (pc_q := 44) (loc_q := [some (.ref 66), some (fI n), some (fI i)]) (st_q := [fI 1]) (h_q := u) (cl_q := 0) (sl_q := 0) rfl ?_
          have e0 : (mx_dr (fun x => mx_w cn go ch s x) (pl - 1) ka pa fa kb pb fb ((n - i).toNat) x y m d) = (x, y, m, d) := by
            first
            | exact mx_dr_b (by omega)
            | (have q : (n - i).toNat = 0 := by omega); rw [q]; rfl
          have ev : mx_en (pl - 1) x y = 1 := by unfold mx_en; (repeat' split) <;> omega
          rw [he, e0]
          exact ik_Wret rfl rfl ⟨_, _, rfl, rfl, rfl, rfl, ⟨w, g1, d1, (congrArg (fun z => [fI z]) ev.symm), u66, u71, u77, n77, u78, n78, F⟩⟩
      · refine ik_Wk 2 (pc_q := 19) (loc_q := [some (.ref 66)]) (st_q := [.ref 66, fI 0]) (h_q := u) (cl_q := 0) (sl_q := 0) rfl ?_
        refine fw_gf rfl rfl u66 rfl ?_
        refine ik_Wk 1 (pc_q := 23) (loc_q := [some (.ref 66)]) (st_q := [fI 1, .ref 71, fI 0]) (h_q := u) (cl_q := 0) (sl_q := 0) rfl ?_
        refine fw_ial (z := 1) rfl u71 (by decide +kernel) (Nat.le_of_ble_eq_true rfl) (by decide +kernel) ?_
        refine ik_Wk 0 (pc_q := 24) (loc_q := [some (.ref 66)]) (st_q := [fI y, fI 0]) (h_q := u) (cl_q := 0) (sl_q := 0) rfl ?_
        refine ik_Wk 1 (pc_q := 25) (loc_q := [some (.ref 66)]) (st_q := [.ref 66, fI y, fI 0]) (h_q := u) (cl_q := 0) (sl_q := 0) rfl ?_
        refine ik_Wc 130 1 0 [.ref 66] [fI y, fI 0] rfl rfl rfl (by decide +kernel) rfl rfl (fw_rec ul rfl u66 rfl (Nat.le_of_ble_eq_true rfl)) ?_
        refine ik_Wk 0 (pc_q := 0) (loc_q := [some (.ref 66)]) (st_q := []) (h_q := u) (cl_q := 0) (sl_q := 0) rfl ?_
        refine ik_Wk 1 (pc_q := 1) (loc_q := [some (.ref 66)]) (st_q := [.ref 66]) (h_q := u) (cl_q := 0) (sl_q := 0) rfl ?_
        refine fw_gf rfl rfl u66 rfl ?_
        refine ik_Wk 1 (pc_q := 5) (loc_q := [some (.ref 66)]) (st_q := [fI 1, fI pl]) (h_q := u) (cl_q := 0) (sl_q := 0) rfl ?_
        refine fw_sub rfl ?_
        refine ik_Wret rfl rfl ⟨_, _, rfl, rfl, ?_⟩
        refine ik_Wk 0 (pc_q := 28) (loc_q := [some (.ref 66)]) (st_q := [fI (pl - 1), fI y, fI 0]) (h_q := u) (cl_q := 0) (sl_q := 0) rfl ?_
        refine fw_ic_ne rfl rfl (by omega) (by omega) (by omega) (by omega) (fun hc4 => ?_) (fun hc4 => ?_)
        · refine ik_Wk 2 (pc_q := 36) (loc_q := [some (.ref 66)]) (st_q := [fI 2, fI 0]) (h_q := u) (cl_q := 0) (sl_q := 0) rfl ?_
          refine fw_add rfl ?_
          refine ik_Wret rfl rfl ⟨_, _, rfl, rfl, ?_⟩
          refine ik_Wk 0 (pc_q := 44) (loc_q := [some (.ref 66), some (fI n), some (fI i)]) (st_q := [fI 2]) (h_q := u) (cl_q := 0) (sl_q := 0) rfl ?_
          have e0 : (mx_dr (fun x => mx_w cn go ch s x) (pl - 1) ka pa fa kb pb fb ((n - i).toNat) x y m d) = (x, y, m, d) := by
            first
            | exact mx_dr_b (by omega)
            | (have q : (n - i).toNat = 0 := by omega); rw [q]; rfl
          have ev : mx_en (pl - 1) x y = 2 := by unfold mx_en; (repeat' split) <;> omega
          rw [he, e0]
          exact ik_Wret rfl rfl ⟨_, _, rfl, rfl, rfl, rfl, ⟨w, g1, d1, (congrArg (fun z => [fI z]) ev.symm), u66, u71, u77, n77, u78, n78, F⟩⟩
        · refine ik_Wk 1 (pc_q := 36) (loc_q := [some (.ref 66)]) (st_q := [fI 0, fI 0]) (h_q := u) (cl_q := 0) (sl_q := 0) rfl ?_
          refine fw_add rfl ?_
          refine ik_Wret rfl rfl ⟨_, _, rfl, rfl, ?_⟩
          refine ik_Wk 0 (pc_q := 44) (loc_q := [some (.ref 66), some (fI n), some (fI i)]) (st_q := [fI 0]) (h_q := u) (cl_q := 0) (sl_q := 0) rfl ?_
          have e0 : (mx_dr (fun x => mx_w cn go ch s x) (pl - 1) ka pa fa kb pb fb ((n - i).toNat) x y m d) = (x, y, m, d) := by
            first
            | exact mx_dr_b (by omega)
            | (have q : (n - i).toNat = 0 := by omega); rw [q]; rfl
          have ev : mx_en (pl - 1) x y = 0 := by unfold mx_en; (repeat' split) <;> omega
          rw [he, e0]
          exact ik_Wret rfl rfl ⟨_, _, rfl, rfl, rfl, rfl, ⟨w, g1, d1, (congrArg (fun z => [fI z]) ev.symm), u66, u71, u77, n77, u78, n78, F⟩⟩
    · refine ik_Wk 1 (pc_q := 8) (loc_q := [some (.ref 66), some (fI n), some (fI i)]) (st_q := [.ref 66]) (h_q := u) (cl_q := 0) (sl_q := 0) rfl ?_
      refine ik_Wc 197 1 0 [.ref 66] [] rfl rfl rfl (by decide +kernel) rfl rfl (fw_rec ul rfl u66 rfl (Nat.le_of_ble_eq_true rfl)) ?_
      refine ik_Wk 0 (pc_q := 0) (loc_q := [some (.ref 66)]) (st_q := []) (h_q := u) (cl_q := 0) (sl_q := 0) rfl ?_
      refine ik_Wk 1 (pc_q := 1) (loc_q := [some (.ref 66)]) (st_q := [.ref 66]) (h_q := u) (cl_q := 0) (sl_q := 0) rfl ?_
      refine fw_gf rfl rfl u66 rfl ?_
      refine ik_Wk 1 (pc_q := 5) (loc_q := [some (.ref 66)]) (st_q := [fI 0, .ref 71]) (h_q := u) (cl_q := 0) (sl_q := 0) rfl ?_
      refine fw_ial (z := 0) rfl u71 (by decide +kernel) (Nat.le_of_ble_eq_true rfl) (by decide +kernel) ?_
      refine ik_Wk 0 (pc_q := 6) (loc_q := [some (.ref 66)]) (st_q := [fI x]) (h_q := u) (cl_q := 0) (sl_q := 0) rfl ?_
      refine ik_Wk 1 (pc_q := 7) (loc_q := [some (.ref 66)]) (st_q := [.ref 66, fI x]) (h_q := u) (cl_q := 0) (sl_q := 0) rfl ?_
      refine ik_Wc 130 1 0 [.ref 66] [fI x] rfl rfl rfl (by decide +kernel) rfl rfl (fw_rec ul rfl u66 rfl (Nat.le_of_ble_eq_true rfl)) ?_
      refine ik_Wk 0 (pc_q := 0) (loc_q := [some (.ref 66)]) (st_q := []) (h_q := u) (cl_q := 0) (sl_q := 0) rfl ?_
      refine ik_Wk 1 (pc_q := 1) (loc_q := [some (.ref 66)]) (st_q := [.ref 66]) (h_q := u) (cl_q := 0) (sl_q := 0) rfl ?_
      refine fw_gf rfl rfl u66 rfl ?_
      refine ik_Wk 1 (pc_q := 5) (loc_q := [some (.ref 66)]) (st_q := [fI 1, fI pl]) (h_q := u) (cl_q := 0) (sl_q := 0) rfl ?_
      refine fw_sub rfl ?_
      refine ik_Wret rfl rfl ⟨_, _, rfl, rfl, ?_⟩
      refine ik_Wk 0 (pc_q := 10) (loc_q := [some (.ref 66)]) (st_q := [fI (pl - 1), fI x]) (h_q := u) (cl_q := 0) (sl_q := 0) rfl ?_
      refine fw_ic_ne rfl rfl (by omega) (by omega) (by omega) (by omega) (fun hc5 => ?_) (fun hc5 => ?_)
      · refine ik_Wk 3 (pc_q := 19) (loc_q := [some (.ref 66)]) (st_q := [.ref 66, fI 1]) (h_q := u) (cl_q := 0) (sl_q := 0) rfl ?_
        refine fw_gf rfl rfl u66 rfl ?_
        refine ik_Wk 1 (pc_q := 23) (loc_q := [some (.ref 66)]) (st_q := [fI 1, .ref 71, fI 1]) (h_q := u) (cl_q := 0) (sl_q := 0) rfl ?_
        refine fw_ial (z := 1) rfl u71 (by decide +kernel) (Nat.le_of_ble_eq_true rfl) (by decide +kernel) ?_
        refine ik_Wk 0 (pc_q := 24) (loc_q := [some (.ref 66)]) (st_q := [fI y, fI 1]) (h_q := u) (cl_q := 0) (sl_q := 0) rfl ?_
        refine ik_Wk 1 (pc_q := 25) (loc_q := [some (.ref 66)]) (st_q := [.ref 66, fI y, fI 1]) (h_q := u) (cl_q := 0) (sl_q := 0) rfl ?_
        refine ik_Wc 130 1 0 [.ref 66] [fI y, fI 1] rfl rfl rfl (by decide +kernel) rfl rfl (fw_rec ul rfl u66 rfl (Nat.le_of_ble_eq_true rfl)) ?_
        refine ik_Wk 0 (pc_q := 0) (loc_q := [some (.ref 66)]) (st_q := []) (h_q := u) (cl_q := 0) (sl_q := 0) rfl ?_
        refine ik_Wk 1 (pc_q := 1) (loc_q := [some (.ref 66)]) (st_q := [.ref 66]) (h_q := u) (cl_q := 0) (sl_q := 0) rfl ?_
        refine fw_gf rfl rfl u66 rfl ?_
        refine ik_Wk 1 (pc_q := 5) (loc_q := [some (.ref 66)]) (st_q := [fI 1, fI pl]) (h_q := u) (cl_q := 0) (sl_q := 0) rfl ?_
        refine fw_sub rfl ?_
        refine ik_Wret rfl rfl ⟨_, _, rfl, rfl, ?_⟩
        refine ik_Wk 0 (pc_q := 28) (loc_q := [some (.ref 66)]) (st_q := [fI (pl - 1), fI y, fI 1]) (h_q := u) (cl_q := 0) (sl_q := 0) rfl ?_
        refine fw_ic_ne rfl rfl (by omega) (by omega) (by omega) (by omega) (fun hc6 => ?_) (fun hc6 => ?_)
        · refine ik_Wk 2 (pc_q := 36) (loc_q := [some (.ref 66)]) (st_q := [fI 2, fI 1]) (h_q := u) (cl_q := 0) (sl_q := 0) rfl ?_
          refine fw_add rfl ?_
          refine ik_Wret rfl rfl ⟨_, _, rfl, rfl, ?_⟩
          refine ik_Wk 0 (pc_q := 11) (loc_q := [some (.ref 66), some (fI n), some (fI i)]) (st_q := [fI 3]) (h_q := u) (cl_q := 0) (sl_q := 0) rfl ?_
          refine fw_if_ne rfl rfl (by decide +kernel) (by decide +kernel) (fun hc7 => absurd hc7 (by decide +kernel)) (fun hc7 => ?_)
          refine ik_Wk 1 (pc_q := 41) (loc_q := [some (.ref 66), some (fI n), some (fI i)]) (st_q := [.ref 66]) (h_q := u) (cl_q := 0) (sl_q := 0) rfl ?_
          refine ik_Wc 197 1 0 [.ref 66] [] rfl rfl rfl (by decide +kernel) rfl rfl (fw_rec ul rfl u66 rfl (Nat.le_of_ble_eq_true rfl)) ?_
          refine ik_Wk 0 (pc_q := 0) (loc_q := [some (.ref 66)]) (st_q := []) (h_q := u) (cl_q := 0) (sl_q := 0) rfl ?_
          refine ik_Wk 1 (pc_q := 1) (loc_q := [some (.ref 66)]) (st_q := [.ref 66]) (h_q := u) (cl_q := 0) (sl_q := 0) rfl ?_
          refine fw_gf rfl rfl u66 rfl ?_
          refine ik_Wk 1 (pc_q := 5) (loc_q := [some (.ref 66)]) (st_q := [fI 0, .ref 71]) (h_q := u) (cl_q := 0) (sl_q := 0) rfl ?_
          refine fw_ial (z := 0) rfl u71 (by decide +kernel) (Nat.le_of_ble_eq_true rfl) (by decide +kernel) ?_
          refine ik_Wk 0 (pc_q := 6) (loc_q := [some (.ref 66)]) (st_q := [fI x]) (h_q := u) (cl_q := 0) (sl_q := 0) rfl ?_
          refine ik_Wk 1 (pc_q := 7) (loc_q := [some (.ref 66)]) (st_q := [.ref 66, fI x]) (h_q := u) (cl_q := 0) (sl_q := 0) rfl ?_
          refine ik_Wc 130 1 0 [.ref 66] [fI x] rfl rfl rfl (by decide +kernel) rfl rfl (fw_rec ul rfl u66 rfl (Nat.le_of_ble_eq_true rfl)) ?_
          refine ik_Wk 0 (pc_q := 0) (loc_q := [some (.ref 66)]) (st_q := []) (h_q := u) (cl_q := 0) (sl_q := 0) rfl ?_
          refine ik_Wk 1 (pc_q := 1) (loc_q := [some (.ref 66)]) (st_q := [.ref 66]) (h_q := u) (cl_q := 0) (sl_q := 0) rfl ?_
          refine fw_gf rfl rfl u66 rfl ?_
          refine ik_Wk 1 (pc_q := 5) (loc_q := [some (.ref 66)]) (st_q := [fI 1, fI pl]) (h_q := u) (cl_q := 0) (sl_q := 0) rfl ?_
          refine fw_sub rfl ?_
          refine ik_Wret rfl rfl ⟨_, _, rfl, rfl, ?_⟩
          refine ik_Wk 0 (pc_q := 10) (loc_q := [some (.ref 66)]) (st_q := [fI (pl - 1), fI x]) (h_q := u) (cl_q := 0) (sl_q := 0) rfl ?_
          refine fw_ic_ne rfl rfl (by omega) (by omega) (by omega) (by omega) (fun hc8 => ?_) (fun hc8 => ?_)
          · refine ik_Wk 3 (pc_q := 19) (loc_q := [some (.ref 66)]) (st_q := [.ref 66, fI 1]) (h_q := u) (cl_q := 0) (sl_q := 0) rfl ?_
            refine fw_gf rfl rfl u66 rfl ?_
            refine ik_Wk 1 (pc_q := 23) (loc_q := [some (.ref 66)]) (st_q := [fI 1, .ref 71, fI 1]) (h_q := u) (cl_q := 0) (sl_q := 0) rfl ?_
            refine fw_ial (z := 1) rfl u71 (by decide +kernel) (Nat.le_of_ble_eq_true rfl) (by decide +kernel) ?_
            refine ik_Wk 0 (pc_q := 24) (loc_q := [some (.ref 66)]) (st_q := [fI y, fI 1]) (h_q := u) (cl_q := 0) (sl_q := 0) rfl ?_
            refine ik_Wk 1 (pc_q := 25) (loc_q := [some (.ref 66)]) (st_q := [.ref 66, fI y, fI 1]) (h_q := u) (cl_q := 0) (sl_q := 0) rfl ?_
            refine ik_Wc 130 1 0 [.ref 66] [fI y, fI 1] rfl rfl rfl (by decide +kernel) rfl rfl (fw_rec ul rfl u66 rfl (Nat.le_of_ble_eq_true rfl)) ?_
            refine ik_Wk 0 (pc_q := 0) (loc_q := [some (.ref 66)]) (st_q := []) (h_q := u) (cl_q := 0) (sl_q := 0) rfl ?_
            refine ik_Wk 1 (pc_q := 1) (loc_q := [some (.ref 66)]) (st_q := [.ref 66]) (h_q := u) (cl_q := 0) (sl_q := 0) rfl ?_
            refine fw_gf rfl rfl u66 rfl ?_
            refine ik_Wk 1 (pc_q := 5) (loc_q := [some (.ref 66)]) (st_q := [fI 1, fI pl]) (h_q := u) (cl_q := 0) (sl_q := 0) rfl ?_
            refine fw_sub rfl ?_
            refine ik_Wret rfl rfl ⟨_, _, rfl, rfl, ?_⟩
            refine ik_Wk 0 (pc_q := 28) (loc_q := [some (.ref 66)]) (st_q := [fI (pl - 1), fI y, fI 1]) (h_q := u) (cl_q := 0) (sl_q := 0) rfl ?_
            refine fw_ic_ne rfl rfl (by omega) (by omega) (by omega) (by omega) (fun hc9 => ?_) (fun hc9 => ?_)
            · refine ik_Wk 2 (pc_q := 36) (loc_q := [some (.ref 66)]) (st_q := [fI 2, fI 1]) (h_q := u) (cl_q := 0) (sl_q := 0) rfl ?_
              refine fw_add rfl ?_
              refine ik_Wret rfl rfl ⟨_, _, rfl, rfl, ?_⟩
              refine ik_Wk 0 (pc_q := 44) (loc_q := [some (.ref 66), some (fI n), some (fI i)]) (st_q := [fI 3]) (h_q := u) (cl_q := 0) (sl_q := 0) rfl ?_
              have e0 : (mx_dr (fun x => mx_w cn go ch s x) (pl - 1) ka pa fa kb pb fb ((n - i).toNat) x y m d) = (x, y, m, d) := by
                first
                | exact mx_dr_b (by omega)
                | (have q : (n - i).toNat = 0 := by omega); rw [q]; rfl
              have ev : mx_en (pl - 1) x y = 3 := by unfold mx_en; (repeat' split) <;> omega
              rw [he, e0]
              exact ik_Wret rfl rfl ⟨_, _, rfl, rfl, rfl, rfl, ⟨w, g1, d1, (congrArg (fun z => [fI z]) ev.symm), u66, u71, u77, n77, u78, n78, F⟩⟩
            · refine ik_Wk 1 (pc_q := 36) (loc_q := [some (.ref 66)]) (st_q := [fI 0, fI 1]) (h_q := u) (cl_q := 0) (sl_q := 0) rfl ?_
              refine fw_add rfl ?_
              refine ik_Wret rfl rfl ⟨_, _, rfl, rfl, ?_⟩
              refine ik_Wk 0 (pc_q := 44) (loc_q := [some (.ref 66), some (fI n), some (fI i)]) (st_q := [fI 1]) (h_q := u) (cl_q := 0) (sl_q := 0) rfl ?_
              have e0 : (mx_dr (fun x => mx_w cn go ch s x) (pl - 1) ka pa fa kb pb fb ((n - i).toNat) x y m d) = (x, y, m, d) := by
                first
                | exact mx_dr_b (by omega)
                | (have q : (n - i).toNat = 0 := by omega); rw [q]; rfl
              have ev : mx_en (pl - 1) x y = 1 := by unfold mx_en; (repeat' split) <;> omega
              rw [he, e0]
              exact ik_Wret rfl rfl ⟨_, _, rfl, rfl, rfl, rfl, ⟨w, g1, d1, (congrArg (fun z => [fI z]) ev.symm), u66, u71, u77, n77, u78, n78, F⟩⟩
          · refine ik_Wk 2 (pc_q := 19) (loc_q := [some (.ref 66)]) (st_q := [.ref 66, fI 0]) (h_q := u) (cl_q := 0) (sl_q := 0) rfl ?_
            refine fw_gf rfl rfl u66 rfl ?_
            refine ik_Wk 1 (pc_q := 23) (loc_q := [some (.ref 66)]) (st_q := [fI 1, .ref 71, fI 0]) (h_q := u) (cl_q := 0) (sl_q := 0) rfl ?_
            refine fw_ial (z := 1) rfl u71 (by decide +kernel) (Nat.le_of_ble_eq_true rfl) (by decide +kernel) ?_
            refine ik_Wk 0 (pc_q := 24) (loc_q := [some (.ref 66)]) (st_q := [fI y, fI 0]) (h_q := u) (cl_q := 0) (sl_q := 0) rfl ?_
            refine ik_Wk 1 (pc_q := 25) (loc_q := [some (.ref 66)]) (st_q := [.ref 66, fI y, fI 0]) (h_q := u) (cl_q := 0) (sl_q := 0) rfl ?_
            refine ik_Wc 130 1 0 [.ref 66] [fI y, fI 0] rfl rfl rfl (by decide +kernel) rfl rfl (fw_rec ul rfl u66 rfl (Nat.le_of_ble_eq_true rfl)) ?_
            refine ik_Wk 0 (pc_q := 0) (loc_q := [some (.ref 66)]) (st_q := []) (h_q := u) (cl_q := 0) (sl_q := 0) rfl ?_
            refine ik_Wk 1 (pc_q := 1) (loc_q := [some (.ref 66)]) (st_q := [.ref 66]) (h_q := u) (cl_q := 0) (sl_q := 0) rfl ?_
            refine fw_gf rfl rfl u66 rfl ?_
            refine ik_Wk 1 (pc_q := 5) (loc_q := [some (.ref 66)]) (st_q := [fI 1, fI pl]) (h_q := u) (cl_q := 0) (sl_q := 0) rfl ?_
            refine fw_sub rfl ?_
            refine ik_Wret rfl rfl ⟨_, _, rfl, rfl, ?_⟩
            refine ik_Wk 0 (pc_q := 28) (loc_q := [some (.ref 66)]) (st_q := [fI (pl - 1), fI y, fI 0]) (h_q := u) (cl_q := 0) (sl_q := 0) rfl ?_
            refine fw_ic_ne rfl rfl (by omega) (by omega) (by omega) (by omega) (fun hc10 => ?_) (fun hc10 => ?_)
            · refine ik_Wk 2 (pc_q := 36) (loc_q := [some (.ref 66)]) (st_q := [fI 2, fI 0]) (h_q := u) (cl_q := 0) (sl_q := 0) rfl ?_
              refine fw_add rfl ?_
              refine ik_Wret rfl rfl ⟨_, _, rfl, rfl, ?_⟩
              refine ik_Wk 0 (pc_q := 44) (loc_q := [some (.ref 66), some (fI n), some (fI i)]) (st_q := [fI 2]) (h_q := u) (cl_q := 0) (sl_q := 0) rfl ?_
              have e0 : (mx_dr (fun x => mx_w cn go ch s x) (pl - 1) ka pa fa kb pb fb ((n - i).toNat) x y m d) = (x, y, m, d) := by
                first
                | exact mx_dr_b (by omega)
                | (have q : (n - i).toNat = 0 := by omega); rw [q]; rfl
              have ev : mx_en (pl - 1) x y = 2 := by unfold mx_en; (repeat' split) <;> omega
              rw [he, e0]
              exact ik_Wret rfl rfl ⟨_, _, rfl, rfl, rfl, rfl, ⟨w, g1, d1, (congrArg (fun z => [fI z]) ev.symm), u66, u71, u77, n77, u78, n78, F⟩⟩
            · refine ik_Wk 1 (pc_q := 36) (loc_q := [some (.ref 66)]) (st_q := [fI 0, fI 0]) (h_q := u) (cl_q := 0) (sl_q := 0) rfl ?_
              refine fw_add rfl ?_
              refine ik_Wret rfl rfl ⟨_, _, rfl, rfl, ?_⟩
              refine ik_Wk 0 (pc_q := 44) (loc_q := [some (.ref 66), some (fI n), some (fI i)]) (st_q := [fI 0]) (h_q := u) (cl_q := 0) (sl_q := 0) rfl ?_
              have e0 : (mx_dr (fun x => mx_w cn go ch s x) (pl - 1) ka pa fa kb pb fb ((n - i).toNat) x y m d) = (x, y, m, d) := by
                first
                | exact mx_dr_b (by omega)
                | (have q : (n - i).toNat = 0 := by omega); rw [q]; rfl
              have ev : mx_en (pl - 1) x y = 0 := by unfold mx_en; (repeat' split) <;> omega
              rw [he, e0]
              exact ik_Wret rfl rfl ⟨_, _, rfl, rfl, rfl, rfl, ⟨w, g1, d1, (congrArg (fun z => [fI z]) ev.symm), u66, u71, u77, n77, u78, n78, F⟩⟩
        · refine ik_Wk 1 (pc_q := 36) (loc_q := [some (.ref 66)]) (st_q := [fI 0, fI 1]) (h_q := u) (cl_q := 0) (sl_q := 0) rfl ?_
          refine fw_add rfl ?_
          refine ik_Wret rfl rfl ⟨_, _, rfl, rfl, ?_⟩
          refine ik_Wk 0 (pc_q := 11) (loc_q := [some (.ref 66), some (fI n), some (fI i)]) (st_q := [fI 1]) (h_q := u) (cl_q := 0) (sl_q := 0) rfl ?_
          refine fw_if_ne rfl rfl (by decide +kernel) (by decide +kernel) (fun hc11 => absurd hc11 (by decide +kernel)) (fun hc11 => ?_)
          refine ik_Wk 1 (pc_q := 41) (loc_q := [some (.ref 66), some (fI n), some (fI i)]) (st_q := [.ref 66]) (h_q := u) (cl_q := 0) (sl_q := 0) rfl ?_
          refine ik_Wc 197 1 0 [.ref 66] [] rfl rfl rfl (by decide +kernel) rfl rfl (fw_rec ul rfl u66 rfl (Nat.le_of_ble_eq_true rfl)) ?_
          refine ik_Wk 0 (pc_q := 0) (loc_q := [some (.ref 66)]) (st_q := []) (h_q := u) (cl_q := 0) (sl_q := 0) rfl ?_
          refine ik_Wk 1 (pc_q := 1) (loc_q := [some (.ref 66)]) (st_q := [.ref 66]) (h_q := u) (cl_q := 0) (sl_q := 0) rfl ?_
          refine fw_gf rfl rfl u66 rfl ?_
          refine ik_Wk 1 (pc_q := 5) (loc_q := [some (.ref 66)]) (st_q := [fI 0, .ref 71]) (h_q := u) (cl_q := 0) (sl_q := 0) rfl ?_
          refine fw_ial (z := 0) rfl u71 (by decide +kernel) (Nat.le_of_ble_eq_true rfl) (by decide +kernel) ?_
          refine ik_Wk 0 (pc_q := 6) (loc_q := [some (.ref 66)]) (st_q := [fI x]) (h_q := u) (cl_q := 0) (sl_q := 0) rfl ?_
          refine ik_Wk 1 (pc_q := 7) (loc_q := [some (.ref 66)]) (st_q := [.ref 66, fI x]) (h_q := u) (cl_q := 0) (sl_q := 0) rfl ?_
          refine ik_Wc 130 1 0 [.ref 66] [fI x] rfl rfl rfl (by decide +kernel) rfl rfl (fw_rec ul rfl u66 rfl (Nat.le_of_ble_eq_true rfl)) ?_
          refine ik_Wk 0 (pc_q := 0) (loc_q := [some (.ref 66)]) (st_q := []) (h_q := u) (cl_q := 0) (sl_q := 0) rfl ?_
          refine ik_Wk 1 (pc_q := 1) (loc_q := [some (.ref 66)]) (st_q := [.ref 66]) (h_q := u) (cl_q := 0) (sl_q := 0) rfl ?_
          refine fw_gf rfl rfl u66 rfl ?_
          refine ik_Wk 1 (pc_q := 5) (loc_q := [some (.ref 66)]) (st_q := [fI 1, fI pl]) (h_q := u) (cl_q := 0) (sl_q := 0) rfl ?_
          refine fw_sub rfl ?_
          refine ik_Wret rfl rfl ⟨_, _, rfl, rfl, ?_⟩
          refine ik_Wk 0 (pc_q := 10) (loc_q := [some (.ref 66)]) (st_q := [fI (pl - 1), fI x]) (h_q := u) (cl_q := 0) (sl_q := 0) rfl ?_
          refine fw_ic_ne rfl rfl (by omega) (by omega) (by omega) (by omega) (fun hc12 => ?_) (fun hc12 => ?_)
          · refine ik_Wk 3 (pc_q := 19) (loc_q := [some (.ref 66)]) (st_q := [.ref 66, fI 1]) (h_q := u) (cl_q := 0) (sl_q := 0) rfl ?_
            refine fw_gf rfl rfl u66 rfl ?_
            refine ik_Wk 1 (pc_q := 23) (loc_q := [some (.ref 66)]) (st_q := [fI 1, .ref 71, fI 1]) (h_q := u) (cl_q := 0) (sl_q := 0) rfl ?_
            refine fw_ial (z := 1) rfl u71 (by decide +kernel) (Nat.le_of_ble_eq_true rfl) (by decide +kernel) ?_
            refine ik_Wk 0 (pc_q := 24) (loc_q := [some (.ref 66)]) (st_q := [fI y, fI 1]) (h_q := u) (cl_q := 0) (sl_q := 0) rfl ?_
            refine ik_Wk 1 (pc_q := 25) (loc_q := [some (.ref 66)]) (st_q := [.ref 66, fI y, fI 1]) (h_q := u) (cl_q := 0) (sl_q := 0) rfl ?_
            refine ik_Wc 130 1 0 [.ref 66] [fI y, fI 1] rfl rfl rfl (by decide +kernel) rfl rfl (fw_rec ul rfl u66 rfl (Nat.le_of_ble_eq_true rfl)) ?_
            refine ik_Wk 0 (pc_q := 0) (loc_q := [some (.ref 66)]) (st_q := []) (h_q := u) (cl_q := 0) (sl_q := 0) rfl ?_
            refine ik_Wk 1 (pc_q := 1) (loc_q := [some (.ref 66)]) (st_q := [.ref 66]) (h_q := u) (cl_q := 0) (sl_q := 0) rfl ?_
            refine fw_gf rfl rfl u66 rfl ?_
            refine ik_Wk 1 (pc_q := 5) (loc_q := [some (.ref 66)]) (st_q := [fI 1, fI pl]) (h_q := u) (cl_q := 0) (sl_q := 0) rfl ?_
            refine fw_sub rfl ?_
            refine ik_Wret rfl rfl ⟨_, _, rfl, rfl, ?_⟩
            refine ik_Wk 0 (pc_q := 28) (loc_q := [some (.ref 66)]) (st_q := [fI (pl - 1), fI y, fI 1]) (h_q := u) (cl_q := 0) (sl_q := 0) rfl ?_
            refine fw_ic_ne rfl rfl (by omega) (by omega) (by omega) (by omega) (fun hc13 => ?_) (fun hc13 => ?_)
            · refine ik_Wk 2 (pc_q := 36) (loc_q := [some (.ref 66)]) (st_q := [fI 2, fI 1]) (h_q := u) (cl_q := 0) (sl_q := 0) rfl ?_
              refine fw_add rfl ?_
              refine ik_Wret rfl rfl ⟨_, _, rfl, rfl, ?_⟩
              refine ik_Wk 0 (pc_q := 44) (loc_q := [some (.ref 66), some (fI n), some (fI i)]) (st_q := [fI 3]) (h_q := u) (cl_q := 0) (sl_q := 0) rfl ?_
              have e0 : (mx_dr (fun x => mx_w cn go ch s x) (pl - 1) ka pa fa kb pb fb ((n - i).toNat) x y m d) = (x, y, m, d) := by
                first
                | exact mx_dr_b (by omega)
                | (have q : (n - i).toNat = 0 := by omega); rw [q]; rfl
              have ev : mx_en (pl - 1) x y = 3 := by unfold mx_en; (repeat' split) <;> omega
              rw [he, e0]
              exact ik_Wret rfl rfl ⟨_, _, rfl, rfl, rfl, rfl, ⟨w, g1, d1, (congrArg (fun z => [fI z]) ev.symm), u66, u71, u77, n77, u78, n78, F⟩⟩
            · refine ik_Wk 1 (pc_q := 36) (loc_q := [some (.ref 66)]) (st_q := [fI 0, fI 1]) (h_q := u) (cl_q := 0) (sl_q := 0) rfl ?_
              refine fw_add rfl ?_
              refine ik_Wret rfl rfl ⟨_, _, rfl, rfl, ?_⟩
              refine ik_Wk 0 (pc_q := 44) (loc_q := [some (.ref 66), some (fI n), some (fI i)]) (st_q := [fI 1]) (h_q := u) (cl_q := 0) (sl_q := 0) rfl ?_
              have e0 : (mx_dr (fun x => mx_w cn go ch s x) (pl - 1) ka pa fa kb pb fb ((n - i).toNat) x y m d) = (x, y, m, d) := by
                first
                | exact mx_dr_b (by omega)
                | (have q : (n - i).toNat = 0 := by omega); rw [q]; rfl
              have ev : mx_en (pl - 1) x y = 1 := by unfold mx_en; (repeat' split) <;> omega
              rw [he, e0]
              exact ik_Wret rfl rfl ⟨_, _, rfl, rfl, rfl, rfl, ⟨w, g1, d1, (congrArg (fun z => [fI z]) ev.symm), u66, u71, u77, n77, u78, n78, F⟩⟩
          · refine ik_Wk 2 (pc_q := 19) (loc_q := [some (.ref 66)]) (st_q := [.ref 66, fI 0]) (h_q := u) (cl_q := 0) (sl_q := 0) rfl ?_
            refine fw_gf rfl rfl u66 rfl ?_
            refine ik_Wk 1 (pc_q := 23) (loc_q := [some (.ref 66)]) (st_q := [fI 1, .ref 71, fI 0]) (h_q := u) (cl_q := 0) (sl_q := 0) rfl ?_
            refine fw_ial (z := 1) rfl u71 (by decide +kernel) (Nat.le_of_ble_eq_true rfl) (by decide +kernel) ?_
            refine ik_Wk 0 (pc_q := 24) (loc_q := [some (.ref 66)]) (st_q := [fI y, fI 0]) (h_q := u) (cl_q := 0) (sl_q := 0) rfl ?_
            refine ik_Wk 1 (pc_q := 25) (loc_q := [some (.ref 66)]) (st_q := [.ref 66, fI y, fI 0]) (h_q := u) (cl_q := 0) (sl_q := 0) rfl ?_
            refine ik_Wc 130 1 0 [.ref 66] [fI y, fI 0] rfl rfl rfl (by decide +kernel) rfl rfl (fw_rec ul rfl u66 rfl (Nat.le_of_ble_eq_true rfl)) ?_
            refine ik_Wk 0 (pc_q := 0) (loc_q := [some (.ref 66)]) (st_q := []) (h_q := u) (cl_q := 0) (sl_q := 0) rfl ?_
            refine ik_Wk 1 (pc_q := 1) (loc_q := [some (.ref 66)]) (st_q := [.ref 66]) (h_q := u) (cl_q := 0) (sl_q := 0) rfl ?_
            refine fw_gf rfl rfl u66 rfl ?_
            refine ik_Wk 1 (pc_q := 5) (loc_q := [some (.ref 66)]) (st_q := [fI 1, fI pl]) (h_q := u) (cl_q := 0) (sl_q := 0) rfl ?_
            refine fw_sub rfl ?_
            refine ik_Wret rfl rfl ⟨_, _, rfl, rfl, ?_⟩
            refine ik_Wk 0 (pc_q := 28) (loc_q := [some (.ref 66)]) (st_q := [fI (pl - 1), fI y, fI 0]) (h_q := u) (cl_q := 0) (sl_q := 0) rfl ?_
            refine fw_ic_ne rfl rfl (by omega) (by omega) (by omega) (by omega) (fun hc14 => ?_) (fun hc14 => ?_)
            · refine ik_Wk 2 (pc_q := 36) (loc_q := [some (.ref 66)]) (st_q := [fI 2, fI 0]) (h_q := u) (cl_q := 0) (sl_q := 0) rfl ?_
              refine fw_add rfl ?_
              refine ik_Wret rfl rfl ⟨_, _, rfl, rfl, ?_⟩
              refine ik_Wk 0 (pc_q := 44) (loc_q := [some (.ref 66), some (fI n), some (fI i)]) (st_q := [fI 2]) (h_q := u) (cl_q := 0) (sl_q := 0) rfl ?_
              have e0 : (mx_dr (fun x => mx_w cn go ch s x) (pl - 1) ka pa fa kb pb fb ((n - i).toNat) x y m d) = (x, y, m, d) := by
                first
                | exact mx_dr_b (by omega)
                | (have q : (n - i).toNat = 0 := by omega); rw [q]; rfl
              have ev : mx_en (pl - 1) x y = 2 := by unfold mx_en; (repeat' split) <;> omega
              rw [he, e0]
              exact ik_Wret rfl rfl ⟨_, _, rfl, rfl, rfl, rfl, ⟨w, g1, d1, (congrArg (fun z => [fI z]) ev.symm), u66, u71, u77, n77, u78, n78, F⟩⟩
            · refine ik_Wk 1 (pc_q := 36) (loc_q := [some (.ref 66)]) (st_q := [fI 0, fI 0]) (h_q := u) (cl_q := 0) (sl_q := 0) rfl ?_
              refine fw_add rfl ?_
              refine ik_Wret rfl rfl ⟨_, _, rfl, rfl, ?_⟩
              refine ik_Wk 0 (pc_q := 44) (loc_q := [some (.ref 66), some (fI n), some (fI i)]) (st_q := [fI 0]) (h_q := u) (cl_q := 0) (sl_q := 0) rfl ?_
              have e0 : (mx_dr (fun x => mx_w cn go ch s x) (pl - 1) ka pa fa kb pb fb ((n - i).toNat) x y m d) = (x, y, m, d) := by
                first
                | exact mx_dr_b (by omega)
                | (have q : (n - i).toNat = 0 := by omega); rw [q]; rfl
              have ev : mx_en (pl - 1) x y = 0 := by unfold mx_en; (repeat' split) <;> omega
              rw [he, e0]
              exact ik_Wret rfl rfl ⟨_, _, rfl, rfl, rfl, rfl, ⟨w, g1, d1, (congrArg (fun z => [fI z]) ev.symm), u66, u71, u77, n77, u78, n78, F⟩⟩
      · refine ik_Wk 2 (pc_q := 19) (loc_q := [some (.ref 66)]) (st_q := [.ref 66, fI 0]) (h_q := u) (cl_q := 0) (sl_q := 0) rfl ?_
        refine fw_gf rfl rfl u66 rfl ?_
        refine ik_Wk 1 (pc_q := 23) (loc_q := [some (.ref 66)]) (st_q := [fI 1, .ref 71, fI 0]) (h_q := u) (cl_q := 0) (sl_q := 0) rfl ?_
        refine fw_ial (z := 1) rfl u71 (by decide +kernel) (Nat.le_of_ble_eq_true rfl) (by decide +kernel) ?_
        refine ik_Wk 0 (pc_q := 24) (loc_q := [some (.ref 66)]) (st_q := [fI y, fI 0]) (h_q := u) (cl_q := 0) (sl_q := 0) rfl ?_
        refine ik_Wk 1 (pc_q := 25) (loc_q := [some (.ref 66)]) (st_q := [.ref 66, fI y, fI 0]) (h_q := u) (cl_q := 0) (sl_q := 0) rfl ?_
        refine ik_Wc 130 1 0 [.ref 66] [fI y, fI 0] rfl rfl rfl (by decide +kernel) rfl rfl (fw_rec ul rfl u66 rfl (Nat.le_of_ble_eq_true rfl)) ?_
        refine ik_Wk 0 (pc_q := 0) (loc_q := [some (.ref 66)]) (st_q := []) (h_q := u) (cl_q := 0) (sl_q := 0) rfl ?_
        refine ik_Wk 1 (pc_q := 1) (loc_q := [some (.ref 66)]) (st_q := [.ref 66]) (h_q := u) (cl_q := 0) (sl_q := 0) rfl ?_
        refine fw_gf rfl rfl u66 rfl ?_
        refine ik_Wk 1 (pc_q := 5) (loc_q := [some (.ref 66)]) (st_q := [fI 1, fI pl]) (h_q := u) (cl_q := 0) (sl_q := 0) rfl ?_
        refine fw_sub rfl ?_
        refine ik_Wret rfl rfl ⟨_, _, rfl, rfl, ?_⟩
        refine ik_Wk 0 (pc_q := 28) (loc_q := [some (.ref 66)]) (st_q := [fI (pl - 1), fI y, fI 0]) (h_q := u) (cl_q := 0) (sl_q := 0) rfl ?_
        refine fw_ic_ne rfl rfl (by omega) (by omega) (by omega) (by omega) (fun hc15 => ?_) (fun hc15 => ?_)
        · refine ik_Wk 2 (pc_q := 36) (loc_q := [some (.ref 66)]) (st_q := [fI 2, fI 0]) (h_q := u) (cl_q := 0) (sl_q := 0) rfl ?_
          refine fw_add rfl ?_
          refine ik_Wret rfl rfl ⟨_, _, rfl, rfl, ?_⟩
          refine ik_Wk 0 (pc_q := 11) (loc_q := [some (.ref 66), some (fI n), some (fI i)]) (st_q := [fI 2]) (h_q := u) (cl_q := 0) (sl_q := 0) rfl ?_
          refine fw_if_ne rfl rfl (by decide +kernel) (by decide +kernel) (fun hc16 => absurd hc16 (by decide +kernel)) (fun hc16 => ?_)
          refine ik_Wk 1 (pc_q := 41) (loc_q := [some (.ref 66), some (fI n), some (fI i)]) (st_q := [.ref 66]) (h_q := u) (cl_q := 0) (sl_q := 0) rfl ?_
          refine ik_Wc 197 1 0 [.ref 66] [] rfl rfl rfl (by decide +kernel) rfl rfl (fw_rec ul rfl u66 rfl (Nat.le_of_ble_eq_true rfl)) ?_
          refine ik_Wk 0 (pc_q := 0) (loc_q := [some (.ref 66)]) (st_q := []) (h_q := u) (cl_q := 0) (sl_q := 0) rfl ?_
          refine ik_Wk 1 (pc_q := 1) (loc_q := [some (.ref 66)]) (st_q := [.ref 66]) (h_q := u) (cl_q := 0) (sl_q := 0) rfl ?_
          refine fw_gf rfl rfl u66 rfl ?_
          refine ik_Wk 1 (pc_q := 5) (loc_q := [some (.ref 66)]) (st_q := [fI 0, .ref 71]) (h_q := u) (cl_q := 0) (sl_q := 0) rfl ?_
          refine fw_ial (z := 0) rfl u71 (by decide +kernel) (Nat.le_of_ble_eq_true rfl) (by decide +kernel) ?_
          refine ik_Wk 0 (pc_q := 6) (loc_q := [some (.ref 66)]) (st_q := [fI x]) (h_q := u) (cl_q := 0) (sl_q := 0) rfl ?_
          refine ik_Wk 1 (pc_q := 7) (loc_q := [some (.ref 66)]) (st_q := [.ref 66, fI x]) (h_q := u) (cl_q := 0) (sl_q := 0) rfl ?_
          refine ik_Wc 130 1 0 [.ref 66] [fI x] rfl rfl rfl (by decide +kernel) rfl rfl (fw_rec ul rfl u66 rfl (Nat.le_of_ble_eq_true rfl)) ?_
          refine ik_Wk 0 (pc_q := 0) (loc_q := [some (.ref 66)]) (st_q := []) (h_q := u) (cl_q := 0) (sl_q := 0) rfl ?_
          refine ik_Wk 1 (pc_q := 1) (loc_q := [some (.ref 66)]) (st_q := [.ref 66]) (h_q := u) (cl_q := 0) (sl_q := 0) rfl ?_
          refine fw_gf rfl rfl u66 rfl ?_
          refine ik_Wk 1 (pc_q := 5) (loc_q := [some (.ref 66)]) (st_q := [fI 1, fI pl]) (h_q := u) (cl_q := 0) (sl_q := 0) rfl ?_
          refine fw_sub rfl ?_
          refine ik_Wret rfl rfl ⟨_, _, rfl, rfl, ?_⟩
          refine ik_Wk 0 (pc_q := 10) (loc_q := [some (.ref 66)]) (st_q := [fI (pl - 1), fI x]) (h_q := u) (cl_q := 0) (sl_q := 0) rfl ?_
          refine fw_ic_ne rfl rfl (by omega) (by omega) (by omega) (by omega) (fun hc17 => ?_) (fun hc17 => ?_)
          · refine ik_Wk 3 (pc_q := 19) (loc_q := [some (.ref 66)]) (st_q := [.ref 66, fI 1]) (h_q := u) (cl_q := 0) (sl_q := 0) rfl ?_
            refine fw_gf rfl rfl u66 rfl ?_
            refine ik_Wk 1 (pc_q := 23) (loc_q := [some (.ref 66)]) (st_q := [fI 1, .ref 71, fI 1]) (h_q := u) (cl_q := 0) (sl_q := 0) rfl ?_
            refine fw_ial (z := 1) rfl u71 (by decide +kernel) (Nat.le_of_ble_eq_true rfl) (by decide +kernel) ?_
            refine ik_Wk 0 (pc_q := 24) (loc_q := [some (.ref 66)]) (st_q := [fI y, fI 1]) (h_q := u) (cl_q := 0) (sl_q := 0) rfl ?_
            refine ik_Wk 1 (pc_q := 25) (loc_q := [some (.ref 66)]) (st_q := [.ref 66, fI y, fI 1]) (h_q := u) (cl_q := 0) (sl_q := 0) rfl ?_
            refine ik_Wc 130 1 0 [.ref 66] [fI y, fI 1] rfl rfl rfl (by decide +kernel) rfl rfl (fw_rec ul rfl u66 rfl (Nat.le_of_ble_eq_true rfl)) ?_
            refine ik_Wk 0 (pc_q := 0) (loc_q := [some (.ref 66)]) (st_q := []) (h_q := u) (cl_q := 0) (sl_q := 0) rfl ?_
            refine ik_Wk 1 (pc_q := 1) (loc_q := [some (.ref 66)]) (st_q := [.ref 66]) (h_q := u) (cl_q := 0) (sl_q := 0) rfl ?_
            refine fw_gf rfl rfl u66 rfl ?_
            refine ik_Wk 1 (pc_q := 5) (loc_q := [some (.ref 66)]) (st_q := [fI 1, fI pl]) (h_q := u) (cl_q := 0) (sl_q := 0) rfl ?_
            refine fw_sub rfl ?_
            refine ik_Wret rfl rfl ⟨_, _, rfl, rfl, ?_⟩
            refine ik_Wk 0 (pc_q := 28) (loc_q := [some (.ref 66)]) (st_q := [fI (pl - 1), fI y, fI 1]) (h_q := u) (cl_q := 0) (sl_q := 0) rfl ?_
            refine fw_ic_ne rfl rfl (by omega) (by omega) (by omega) (by omega) (fun hc18 => ?_) (fun hc18 => ?_)
            · refine ik_Wk 2 (pc_q := 36) (loc_q := [some (.ref 66)]) (st_q := [fI 2, fI 1]) (h_q := u) (cl_q := 0) (sl_q := 0) rfl ?_
              refine fw_add rfl ?_
              refine ik_Wret rfl rfl ⟨_, _, rfl, rfl, ?_⟩
              refine ik_Wk 0 (pc_q := 44) (loc_q := [some (.ref 66), some (fI n), some (fI i)]) (st_q := [fI 3]) (h_q := u) (cl_q := 0) (sl_q := 0) rfl ?_
              have e0 : (mx_dr (fun x => mx_w cn go ch s x) (pl - 1) ka pa fa kb pb fb ((n - i).toNat) x y m d) = (x, y, m, d) := by
                first
                | exact mx_dr_b (by omega)
                | (have q : (n - i).toNat = 0 := by omega); rw [q]; rfl
              have ev : mx_en (pl - 1) x y = 3 := by unfold mx_en; (repeat' split) <;> omega
              rw [he, e0]
              exact ik_Wret rfl rfl ⟨_, _, rfl, rfl, rfl, rfl, ⟨w, g1, d1, (congrArg (fun z => [fI z]) ev.symm), u66, u71, u77, n77, u78, n78, F⟩⟩
            · refine ik_Wk 1 (pc_q := 36) (loc_q := [some (.ref 66)]) (st_q := [fI 0, fI 1]) (h_q := u) (cl_q := 0) (sl_q := 0) rfl ?_
              refine fw_add rfl ?_
              refine ik_Wret rfl rfl ⟨_, _, rfl, rfl, ?_⟩
              refine ik_Wk 0 (pc_q := 44) (loc_q := [some (.ref 66), some (fI n), some (fI i)]) (st_q := [fI 1]) (h_q := u) (cl_q := 0) (sl_q := 0) rfl ?_
              have e0 : (mx_dr (fun x => mx_w cn go ch s x) (pl - 1) ka pa fa kb pb fb ((n - i).toNat) x y m d) = (x, y, m, d) := by
                first
                | exact mx_dr_b (by omega)
                | (have q : (n - i).toNat = 0 := by omega); rw [q]; rfl
              have ev : mx_en (pl - 1) x y = 1 := by unfold mx_en; (repeat' split) <;> omega
              rw [he, e0]
              exact ik_Wret rfl rfl ⟨_, _, rfl, rfl, rfl, rfl, ⟨w, g1, d1, (congrArg (fun z => [fI z]) ev.symm), u66, u71, u77, n77, u78, n78, F⟩⟩
          · refine ik_Wk 2 (pc_q := 19) (loc_q := [some (.ref 66)]) (st_q := [.ref 66, fI 0]) (h_q := u) (cl_q := 0) (sl_q := 0) rfl ?_
            refine fw_gf rfl rfl u66 rfl ?_
            refine ik_Wk 1 (pc_q := 23) (loc_q := [some (.ref 66)]) (st_q := [fI 1, .ref 71, fI 0]) (h_q := u) (cl_q := 0) (sl_q := 0) rfl ?_
            refine fw_ial (z := 1) rfl u71 (by decide +kernel) (Nat.le_of_ble_eq_true rfl) (by decide +kernel) ?_
            refine ik_Wk 0 (pc_q := 24) (loc_q := [some (.ref 66)]) (st_q := [fI y, fI 0]) (h_q := u) (cl_q := 0) (sl_q := 0) rfl ?_
            refine ik_Wk 1 (pc_q := 25) (loc_q := [some (.ref 66)]) (st_q := [.ref 66, fI y, fI 0]) (h_q := u) (cl_q := 0) (sl_q := 0) rfl ?_
            refine ik_Wc 130 1 0 [.ref 66] [fI y, fI 0] rfl rfl rfl (by decide +kernel) rfl rfl (fw_rec ul rfl u66 rfl (Nat.le_of_ble_eq_true rfl)) ?_
            refine ik_Wk 0 (pc_q := 0) (loc_q := [some (.ref 66)]) (st_q := []) (h_q := u) (cl_q := 0) (sl_q := 0) rfl ?_
            refine ik_Wk 1 (pc_q := 1) (loc_q := [some (.ref 66)]) (st_q := [.ref 66]) (h_q := u) (cl_q := 0) (sl_q := 0) rfl ?_
            refine fw_gf rfl rfl u66 rfl ?_
            refine ik_Wk 1 (pc_q := 5) (loc_q := [some (.ref 66)]) (st_q := [fI 1, fI pl]) (h_q := u) (cl_q := 0) (sl_q := 0) rfl ?_
            refine fw_sub rfl ?_
            refine ik_Wret rfl rfl ⟨_, _, rfl, rfl, ?_⟩
            refine ik_Wk 0 (pc_q := 28) (loc_q := [some (.ref 66)]) (st_q := [fI (pl - 1), fI y, fI 0]) (h_q := u) (cl_q := 0) (sl_q := 0) rfl ?_
            refine fw_ic_ne rfl rfl (by omega) (by omega) (by omega) (by omega) (fun hc19 => ?_) (fun hc19 => ?_)
            · refine ik_Wk 2 (pc_q := 36) (loc_q := [some (.ref 66)]) (st_q := [fI 2, fI 0]) (h_q := u) (cl_q := 0) (sl_q := 0) rfl ?_
              refine fw_add rfl ?_
              refine ik_Wret rfl rfl ⟨_, _, rfl, rfl, ?_⟩
              refine ik_Wk 0 (pc_q := 44) (loc_q := [some (.ref 66), some (fI n), some (fI i)]) (st_q := [fI 2]) (h_q := u) (cl_q := 0) (sl_q := 0) rfl ?_
              have e0 : (mx_dr (fun x => mx_w cn go ch s x) (pl - 1) ka pa fa kb pb fb ((n - i).toNat) x y m d) = (x, y, m, d) := by
                first
                | exact mx_dr_b (by omega)
                | (have q : (n - i).toNat = 0 := by omega); rw [q]; rfl
              have ev : mx_en (pl - 1) x y = 2 := by unfold mx_en; (repeat' split) <;> omega
              rw [he, e0]
              exact ik_Wret rfl rfl ⟨_, _, rfl, rfl, rfl, rfl, ⟨w, g1, d1, (congrArg (fun z => [fI z]) ev.symm), u66, u71, u77, n77, u78, n78, F⟩⟩
            · refine ik_Wk 1 (pc_q := 36) (loc_q := [some (.ref 66)]) (st_q := [fI 0, fI 0]) (h_q := u) (cl_q := 0) (sl_q := 0) rfl ?_
              refine fw_add rfl ?_
              refine ik_Wret rfl rfl ⟨_, _, rfl, rfl, ?_⟩
              refine ik_Wk 0 (pc_q := 44) (loc_q := [some (.ref 66), some (fI n), some (fI i)]) (st_q := [fI 0]) (h_q := u) (cl_q := 0) (sl_q := 0) rfl ?_
              have e0 : (mx_dr (fun x => mx_w cn go ch s x) (pl - 1) ka pa fa kb pb fb ((n - i).toNat) x y m d) = (x, y, m, d) := by
                first
                | exact mx_dr_b (by omega)
                | (have q : (n - i).toNat = 0 := by omega); rw [q]; rfl
              have ev : mx_en (pl - 1) x y = 0 := by unfold mx_en; (repeat' split) <;> omega
              rw [he, e0]
              exact ik_Wret rfl rfl ⟨_, _, rfl, rfl, rfl, rfl, ⟨w, g1, d1, (congrArg (fun z => [fI z]) ev.symm), u66, u71, u77, n77, u78, n78, F⟩⟩
        · refine ik_Wk 1 (pc_q := 36) (loc_q := [some (.ref 66)]) (st_q := [fI 0, fI 0]) (h_q := u) (cl_q := 0) (sl_q := 0) rfl ?_
          refine fw_add rfl ?_
          refine ik_Wret rfl rfl ⟨_, _, rfl, rfl, ?_⟩
          refine ik_Wk 0 (pc_q := 11) (loc_q := [some (.ref 66), some (fI n), some (fI i)]) (st_q := [fI 0]) (h_q := u) (cl_q := 0) (sl_q := 0) rfl ?_
          refine fw_if_ne rfl rfl (by decide +kernel) (by decide +kernel) (fun hc20 => ?_) (fun hc20 => absurd hc20 (by decide +kernel))
          refine ik_Wk 2 (pc_q := 16) (loc_q := [some (.ref 66), some (fI n), some (fI i)]) (st_q := [.ref 66, .ref 66]) (h_q := u) (cl_q := 0) (sl_q := 0) rfl ?_
          refine fw_gf rfl rfl u66 rfl ?_
          refine ik_Wk 1 (pc_q := 20) (loc_q := [some (.ref 66), some (fI n), some (fI i)]) (st_q := [fI 1, fI m, .ref 66]) (h_q := u) (cl_q := 0) (sl_q := 0) rfl ?_
          refine fw_add rfl ?_
          refine fx_pf rfl rfl u66 (Nat.le_of_ble_eq_true rfl) rfl rfl ?_
          intro h_84 e_84 f_84 l_84
          have k_84 : cL h_84 := l_84.trans ul
          have fr_84 := hfr_wb F f_84 l_84 rfl
          clear l_84
          have g_84_67 := (f_84 67 (Nat.ne_of_beq_eq_false rfl)).trans u67
          have g_84_68 := (f_84 68 (Nat.ne_of_beq_eq_false rfl)).trans u68
          have g_84_69 := (f_84 69 (Nat.ne_of_beq_eq_false rfl)).trans u69
          have g_84_70 := (f_84 70 (Nat.ne_of_beq_eq_false rfl)).trans u70
          have g_84_71 := (f_84 71 (Nat.ne_of_beq_eq_false rfl)).trans u71
          have g_84_77 := (f_84 77 (Nat.ne_of_beq_eq_false rfl)).trans u77
          have g_84_78 := (f_84 78 (Nat.ne_of_beq_eq_false rfl)).trans u78
          have g_84_66 : cE h_84 66 (.inr (10, (fI pl :: .ref 67 :: .ref 68 :: .ref 69 :: fI ((s : Nat) : Int) :: .ref 70 :: .ref 71 :: fI (m + 1) :: fI d :: .ref 72 :: fI (f 10) :: fI (f 11) :: fI (f 12) :: fJ (f 13) :: fI (f 14) :: fI (f 15) :: fI (f 16) :: fI (f 17) :: .ref 73 :: .ref 74 :: .ref 75 :: .ref 76 :: .ref 77 :: .ref 78 :: fI w :: .ref 79 :: .ref 80 :: .ref 81 :: .ref 82 :: .ref 83 :: .ref 84 :: .ref 85 :: fJ (f 32) :: fJ (f 33) :: .ref 86 :: .ref 87 :: fI (f 36) :: .ref 88 :: .ref 89 :: .ref 90 :: .ref 91 :: .ref 92 :: .ref 93 :: []))) := e_84
          refine ik_Wk 2 (pc_q := 26) (loc_q := [some (.ref 66), some (fI n), some (fI i)]) (st_q := [fI 0, .ref 66]) (h_q := h_84) (cl_q := 0) (sl_q := 0) rfl ?_
          refine fw_call 196 2 0 [.ref 66, fI 0] [] rfl rfl rfl (Nat.le_of_ble_eq_true rfl) rfl rfl (fw_rec k_84 rfl g_84_66 rfl (Nat.le_of_ble_eq_true rfl)) (cr_side0 (pl := pl) (mi := m + 1) (sd := d) (ka := ka) (pa := pa) (fa := fa) (kb := kb) (pb := pb) (fb := fb) (xa := x) (xb := y) (s := s) (cn := cn) (go := go) (ch := ch) (f := fun j => ((0 :: 0 :: 0 :: 0 :: 0 :: 0 :: 0 :: 0 :: 0 :: 0 :: f 10 :: f 11 :: f 12 :: f 13 :: f 14 :: f 15 :: f 16 :: f 17 :: 0 :: 0 :: 0 :: 0 :: 0 :: 0 :: w :: 0 :: 0 :: 0 :: 0 :: 0 :: 0 :: 0 :: f 32 :: f 33 :: 0 :: 0 :: f 36 :: 0 :: 0 :: 0 :: 0 :: 0 :: 0 :: []) : List Int).getD j 0) (gt := g1) (gd := d1) (by omega) (by omega) (by omega) (by omega) q4 q5 q6 (by omega) (by omega) (by omega) g_84_66 g_84_67 n67 g_84_68 n68 g_84_69 n69 g_84_70 g_84_71 g_84_77 n77 g_84_78 n78 k_84) ?_
          rintro _ h_85 ⟨w'_85, gt'_85, gd'_85, rfl, e_85_66, e_85_71, e_85_77, m_85_77, e_85_78, m_85_78, F_85⟩
          have k_85 : cL h_85 := F_85.1.trans k_84
          have fr_85 := hfr_cb fr_84 F_85 rfl
          have g_85_67 := (hfr_g F_85 67 rfl).trans g_84_67
          have g_85_68 := (hfr_g F_85 68 rfl).trans g_84_68
          have g_85_69 := (hfr_g F_85 69 rfl).trans g_84_69
          have g_85_70 := (hfr_g F_85 70 rfl).trans g_84_70
          have g_85_66 : cE h_85 66 (.inr (10, (fI pl :: .ref 67 :: .ref 68 :: .ref 69 :: fI ((s : Nat) : Int) :: .ref 70 :: .ref 71 :: fI (m + 1) :: fI ((mx_sd (fun x => mx_w cn go ch s x) (pl - 1) ka pa fa (m + 1) x d).2) :: .ref 72 :: fI (f 10) :: fI (f 11) :: fI (f 12) :: fJ (f 13) :: fI (f 14) :: fI (f 15) :: fI (f 16) :: fI (f 17) :: .ref 73 :: .ref 74 :: .ref 75 :: .ref 76 :: .ref 77 :: .ref 78 :: fI w'_85 :: .ref 79 :: .ref 80 :: .ref 81 :: .ref 82 :: .ref 83 :: .ref 84 :: .ref 85 :: fJ (f 32) :: fJ (f 33) :: .ref 86 :: .ref 87 :: fI (f 36) :: .ref 88 :: .ref 89 :: .ref 90 :: .ref 91 :: .ref 92 :: .ref 93 :: []))) := e_85_66
          have g_85_71 : cE h_85 71 (.inl (.int, fA [(mx_sd (fun x => mx_w cn go ch s x) (pl - 1) ka pa fa (m + 1) x d).1, y])) := e_85_71
          have g_85_77 : cE h_85 77 (.inl (.int, fA gt'_85)) := e_85_77
          have g_85_78 : cE h_85 78 (.inl (.int, fA gd'_85)) := e_85_78
          refine ik_Wk 0 (pc_q := 29) (loc_q := [some (.ref 66), some (fI n), some (fI i)]) (st_q := []) (h_q := h_85) (cl_q := 0) (sl_q := 0) rfl ?_
          have zin0 := mx_sd_in (W := (fun x => mx_w cn go ch s x)) (pl := pl) (k := ka) (c := pa) (fr := fa) (m := m + 1) (x := x) (d := d) q6 (by omega) (by omega) (by omega)
          have zlo0 := mx_sd_lo (W := (fun x => mx_w cn go ch s x)) (pl := pl) (k := ka) (c := pa) (fr := fa) (m := m + 1) (x := x) (d := d) q6 (by omega) (by omega) (by omega) (by omega)
          refine ik_Wk 2 (pc_q := 31) (loc_q := [some (.ref 66), some (fI n), some (fI i)]) (st_q := [fI 1, .ref 66]) (h_q := h_85) (cl_q := 0) (sl_q := 0) rfl ?_
          refine fw_call 196 2 0 [.ref 66, fI 1] [] rfl rfl rfl (Nat.le_of_ble_eq_true rfl) rfl rfl (fw_rec k_85 rfl g_85_66 rfl (Nat.le_of_ble_eq_true rfl)) (cr_side1 (pl := pl) (mi := (m + 1)) (sd := (mx_sd (fun x => mx_w cn go ch s x) (pl - 1) ka pa fa (m + 1) x d).2) (ka := ka) (pa := pa) (fa := fa) (kb := kb) (pb := pb) (fb := fb) (xa := (mx_sd (fun x => mx_w cn go ch s x) (pl - 1) ka pa fa (m + 1) x d).1) (xb := y) (s := s) (cn := cn) (go := go) (ch := ch) (f := fun j => ((0 :: 0 :: 0 :: 0 :: 0 :: 0 :: 0 :: 0 :: 0 :: 0 :: ((f 10)) :: ((f 11)) :: ((f 12)) :: ((f 13)) :: ((f 14)) :: ((f 15)) :: ((f 16)) :: ((f 17)) :: 0 :: 0 :: 0 :: 0 :: 0 :: 0 :: w'_85 :: 0 :: 0 :: 0 :: 0 :: 0 :: 0 :: 0 :: ((f 32)) :: ((f 33)) :: 0 :: 0 :: ((f 36)) :: 0 :: 0 :: 0 :: 0 :: 0 :: 0 :: []) : List Int).getD j 0) (gt := gt'_85) (gd := gd'_85) (by omega) (by omega) (by omega) (by omega) q4 q5 q6 (by omega) (by omega) (by omega) g_85_66 g_85_67 n67 g_85_68 n68 g_85_69 n69 g_85_70 g_85_71 g_85_77 m_85_77 g_85_78 m_85_78 k_85) ?_
          rintro _ h_86 ⟨w'_86, gt'_86, gd'_86, rfl, e_86_66, e_86_71, e_86_77, m_86_77, e_86_78, m_86_78, F_86⟩
          have k_86 : cL h_86 := F_86.1.trans k_85
          have fr_86 := hfr_cb fr_85 F_86 rfl
          have g_86_67 := (hfr_g F_86 67 rfl).trans g_85_67
          have g_86_68 := (hfr_g F_86 68 rfl).trans g_85_68
          have g_86_69 := (hfr_g F_86 69 rfl).trans g_85_69
          have g_86_70 := (hfr_g F_86 70 rfl).trans g_85_70
          have g_86_66 : cE h_86 66 (.inr (10, (fI pl :: .ref 67 :: .ref 68 :: .ref 69 :: fI ((s : Nat) : Int) :: .ref 70 :: .ref 71 :: fI (m + 1) :: (fI ((mx_sd (fun x => mx_w cn go ch s x) (pl - 1) kb pb fb (m + 1) y ((mx_sd (fun x => mx_w cn go ch s x) (pl - 1) ka pa fa (m + 1) x d).2)).2)) :: .ref 72 :: fI (f 10) :: fI (f 11) :: fI (f 12) :: fJ (f 13) :: fI (f 14) :: fI (f 15) :: fI (f 16) :: fI (f 17) :: .ref 73 :: .ref 74 :: .ref 75 :: .ref 76 :: .ref 77 :: .ref 78 :: fI w'_86 :: .ref 79 :: .ref 80 :: .ref 81 :: .ref 82 :: .ref 83 :: .ref 84 :: .ref 85 :: fJ (f 32) :: fJ (f 33) :: .ref 86 :: .ref 87 :: fI (f 36) :: .ref 88 :: .ref 89 :: .ref 90 :: .ref 91 :: .ref 92 :: .ref 93 :: []))) := e_86_66
          have g_86_71 : cE h_86 71 (.inl (.int, fA [((mx_sd (fun x => mx_w cn go ch s x) (pl - 1) ka pa fa (m + 1) x d).1), (mx_sd (fun x => mx_w cn go ch s x) (pl - 1) kb pb fb (m + 1) y ((mx_sd (fun x => mx_w cn go ch s x) (pl - 1) ka pa fa (m + 1) x d).2)).1])) := e_86_71
          have g_86_77 : cE h_86 77 (.inl (.int, fA gt'_86)) := e_86_77
          have g_86_78 : cE h_86 78 (.inl (.int, fA gd'_86)) := e_86_78
          refine ik_Wk 0 (pc_q := 34) (loc_q := [some (.ref 66), some (fI n), some (fI i)]) (st_q := []) (h_q := h_86) (cl_q := 0) (sl_q := 0) rfl ?_
          have zin1 := mx_sd_in (W := (fun x => mx_w cn go ch s x)) (pl := pl) (k := kb) (c := pb) (fr := fb) (m := m + 1) (x := y) (d := (mx_sd (fun x => mx_w cn go ch s x) (pl - 1) ka pa fa (m + 1) x d).2) q6 (by omega) (by omega) (by omega)
          have zlo1 := mx_sd_lo (W := (fun x => mx_w cn go ch s x)) (pl := pl) (k := kb) (c := pb) (fr := fb) (m := m + 1) (x := y) (d := (mx_sd (fun x => mx_w cn go ch s x) (pl - 1) ka pa fa (m + 1) x d).2) q6 (by omega) (by omega) (by omega) (by omega)
          refine fw_inc (a := i) (loc_q := [some (.ref 66), some (fI n), some (fI (i + 1))]) rfl rfl (Nat.le_of_ble_eq_true rfl) rfl ?_
          refine ik_Wk 1 (pc_q := 2) (loc_q := [some (.ref 66), some (fI n), some (fI (i + 1))]) (st_q := []) (h_q := h_86) (cl_q := 0) (sl_q := 0) rfl ?_
          exact ih  (i + 1) ((mx_sd (fun x => mx_w cn go ch s x) (pl - 1) ka pa fa (m + 1) x d).1) ((mx_sd (fun x => mx_w cn go ch s x) (pl - 1) kb pb fb (m + 1) y ((mx_sd (fun x => mx_w cn go ch s x) (pl - 1) ka pa fa (m + 1) x d).2)).1) (m + 1) ((mx_sd (fun x => mx_w cn go ch s x) (pl - 1) kb pb fb (m + 1) y ((mx_sd (fun x => mx_w cn go ch s x) (pl - 1) ka pa fa (m + 1) x d).2)).2) w'_86 gt'_86 gd'_86 h_86 g_86_66 g_86_67 n67 g_86_68 n68 g_86_69 n69 g_86_70 g_86_71 g_86_77 m_86_77 g_86_78 m_86_78 k_86 fr_86 (by omega) (by omega) (by omega) (by omega) (by omega) (by omega) (by omega) (by rw [he, show (n - i).toNat = (n - (i + 1)).toNat + 1 by omega, mx_dr_n (by omega)]) (by omega)

theorem cr_drift {h : List ik_E} {pl : Int} {mi : Int} {sd : Int} {ka : Int} {pa : Int} {fa : Int} {kb : Int} {pb : Int} {fb : Int} {xa : Int} {xb : Int} {s : Nat} {cn : List Int} {go : List Int} {ch : List Int} {n : Int} {f : Nat → Int} {gt : List Int} {gd : List Int} (q0 : 2 ≤ pl ∧ pl ≤ 12) (q1 : s < 4096) (q2 : 0 ≤ sd ∧ sd < 2147483648) (q3 : 0 ≤ mi ∧ mi < 2000000000) (q4 : ∀ x : Int, (0 : Int) ≤ x → x < pl - 1 → 1 ≤ cn.getD x.toNat 0 ∧ ∀ j : Int, 4 * x ≤ j → j < 4 * x + cn.getD x.toNat 0 → 0 ≤ ch.getD j.toNat 0 ∧ ch.getD j.toNat 0 ≤ 100) (q5 : ∀ x : Int, (0 : Int) ≤ x → x < pl → 0 ≤ cn.getD x.toNat 0 ∧ cn.getD x.toNat 0 ≤ 4) (q6 : ∀ x : Int, (0 : Int) ≤ x → x < pl - 1 → mx_ok pl (mx_w cn go ch s x)) (q7 : (0 : Int) ≤ ka ∧ ka ≤ (2 : Int)) (q8 : (0 : Int) ≤ kb ∧ kb ≤ (2 : Int)) (q9 : (0 : Int) ≤ fa ∧ fa ≤ (30 : Int)) (q10 : (0 : Int) ≤ fb ∧ fb ≤ (30 : Int)) (q11 : (0 : Int) ≤ pa ∧ pa < pl) (q12 : (0 : Int) ≤ pb ∧ pb < pl) (q13 : fa ≤ mi → (0 : Int) ≤ xa) (q14 : fb ≤ mi → (0 : Int) ≤ xb) (q15 : (-1 : Int) ≤ xa ∧ xa < pl) (q16 : (-1 : Int) ≤ xb ∧ xb < pl) (q17 : (0 : Int) ≤ n ∧ n ≤ (200 : Int)) (q18 : mi < (1999999000 : Int)) (h66 : cE h 66 (.inr (10, (fI pl :: .ref 67 :: .ref 68 :: .ref 69 :: fI ((s : Nat) : Int) :: .ref 70 :: .ref 71 :: fI mi :: fI sd :: .ref 72 :: fI (f 10) :: fI (f 11) :: fI (f 12) :: fJ (f 13) :: fI (f 14) :: fI (f 15) :: fI (f 16) :: fI (f 17) :: .ref 73 :: .ref 74 :: .ref 75 :: .ref 76 :: .ref 77 :: .ref 78 :: fI (f 24) :: .ref 79 :: .ref 80 :: .ref 81 :: .ref 82 :: .ref 83 :: .ref 84 :: .ref 85 :: fJ (f 32) :: fJ (f 33) :: .ref 86 :: .ref 87 :: fI (f 36) :: .ref 88 :: .ref 89 :: .ref 90 :: .ref 91 :: .ref 92 :: .ref 93 :: [])))) (h67 : cE h 67 (.inl (.int, fA cn))) (n67 : cn.length = (12 : Nat)) (h68 : cE h 68 (.inl (.int, fA go))) (n68 : go.length = (48 : Nat)) (h69 : cE h 69 (.inl (.int, fA ch))) (n69 : ch.length = (48 : Nat)) (h70 : cE h 70 (.inl (.int, fA [ka, pa, fa, kb, pb, fb]))) (h71 : cE h 71 (.inl (.int, fA [xa, xb]))) (h77 : cE h 77 (.inl (.int, fA gt))) (n77 : gt.length = (5 : Nat)) (h78 : cE h 78 (.inl (.int, fA gd))) (n78 : gd.length = (5 : Nat)) (hl : h.length = (94 : Nat)) : ik_F 198 [.ref 66, fI n] h (fun rv h_q => ∃ (w' : Int) (gt' : List Int) (gd' : List Int), rv = [fI (mx_en (pl - 1) (mx_dr (fun x => mx_w cn go ch s x) (pl - 1) ka pa fa kb pb fb n.toNat xa xb mi sd).1 (mx_dr (fun x => mx_w cn go ch s x) (pl - 1) ka pa fa kb pb fb n.toNat xa xb mi sd).2.1)] ∧ cE h_q 66 (.inr (10, (fI pl :: .ref 67 :: .ref 68 :: .ref 69 :: fI ((s : Nat) : Int) :: .ref 70 :: .ref 71 :: fI ((mx_dr (fun x => mx_w cn go ch s x) (pl - 1) ka pa fa kb pb fb n.toNat xa xb mi sd).2.2.1) :: fI ((mx_dr (fun x => mx_w cn go ch s x) (pl - 1) ka pa fa kb pb fb n.toNat xa xb mi sd).2.2.2) :: .ref 72 :: fI (f 10) :: fI (f 11) :: fI (f 12) :: fJ (f 13) :: fI (f 14) :: fI (f 15) :: fI (f 16) :: fI (f 17) :: .ref 73 :: .ref 74 :: .ref 75 :: .ref 76 :: .ref 77 :: .ref 78 :: fI w' :: .ref 79 :: .ref 80 :: .ref 81 :: .ref 82 :: .ref 83 :: .ref 84 :: .ref 85 :: fJ (f 32) :: fJ (f 33) :: .ref 86 :: .ref 87 :: fI (f 36) :: .ref 88 :: .ref 89 :: .ref 90 :: .ref 91 :: .ref 92 :: .ref 93 :: []))) ∧ cE h_q 71 (.inl (.int, fA [(mx_dr (fun x => mx_w cn go ch s x) (pl - 1) ka pa fa kb pb fb n.toNat xa xb mi sd).1, (mx_dr (fun x => mx_w cn go ch s x) (pl - 1) ka pa fa kb pb fb n.toNat xa xb mi sd).2.1])) ∧ cE h_q 77 (.inl (.int, fA gt')) ∧ gt'.length = (5 : Nat) ∧ cE h_q 78 (.inl (.int, fA gd')) ∧ gd'.length = (5 : Nat) ∧ hfr [66, 71, 77, 78] h h_q) := by
  refine ik_Wk 2 (pc_q := 2) (loc_q := [some (.ref 66), some (fI n), some (fI 0)]) (st_q := []) (h_q := h) (cl_q := 0) (sl_q := 0) rfl ?_
  exact cr_driftL (pl := pl) (mi := mi) (sd := sd) (ka := ka) (pa := pa) (fa := fa) (kb := kb) (pb := pb) (fb := fb) (xa := xa) (xb := xb) (s := s) (cn := cn) (go := go) (ch := ch) (n := n) (f := f) (gt := gt) (gd := gd) q0 q1 q2 q3 q4 q5 q6 q7 q8 q9 q10 q11 q12 q13 q14 q15 q16 q17 q18  (n.toNat + 1) 0 xa xb mi sd (f 24) gt gd h h66 h67 n67 h68 n68 h69 n69 h70 h71 h77 n77 h78 n78 hl (hfr_refl [66, 71, 77, 78] h) (by omega) (by omega) (by omega) (by omega) (by omega) (by omega) (by omega) (by rw [show n - 0 = n by omega]) (by omega)

theorem cs_driftL {h : List ik_E} {pl : Int} {mi : Int} {sd : Int} {ka : Int} {pa : Int} {fa : Int} {kb : Int} {pb : Int} {fb : Int} {xa : Int} {xb : Int} {s : Nat} {cn : List Int} {go : List Int} {ch : List Int} {n : Int} {lo : Int} {wg : List Int} {wc : List Int} {we : List Int} (q0 : 2 ≤ pl ∧ pl ≤ 12) (q1 : s < 4096) (q2 : 0 ≤ sd ∧ sd < 2147483648) (q3 : 0 ≤ mi ∧ mi < 2000000000) (q4 : ∀ x : Int, (0 : Int) ≤ x → x < pl - 1 → mx_wy wg wc we x (mx_w cn go ch s x)) (q5 : ∀ x : Int, (0 : Int) ≤ x → x < pl - 1 → mx_ok pl (mx_w cn go ch s x)) (q6 : (0 : Int) ≤ ka ∧ ka ≤ (2 : Int)) (q7 : (0 : Int) ≤ kb ∧ kb ≤ (2 : Int)) (q8 : (0 : Int) ≤ fa ∧ fa ≤ (30 : Int)) (q9 : (0 : Int) ≤ fb ∧ fb ≤ (30 : Int)) (q10 : (0 : Int) ≤ pa ∧ pa < pl) (q11 : (0 : Int) ≤ pb ∧ pb < pl) (q12 : fa ≤ mi → (0 : Int) ≤ xa) (q13 : fb ≤ mi → (0 : Int) ≤ xb) (q14 : (-1 : Int) ≤ xa ∧ xa < pl) (q15 : (-1 : Int) ≤ xb ∧ xb < pl) (q16 : (0 : Int) ≤ n ∧ n ≤ (200 : Int)) (q17 : mi < (1999999000 : Int))  : ∀ (k : Nat) (i : Int) (x : Int) (y : Int) (m : Int) (d : Int) (u : List ik_E) (u7 : cE u 7 (.inr (0, [fI pl, fI ((s : Nat) : Int), fI lo, .ref 8, .ref 9, .ref 10, .ref 11, .ref 12, .ref 13]))) (u11 : cE u 11 (.inl (.int, fA wg))) (n11 : wg.length = (60 : Nat)) (u12 : cE u 12 (.inl (.int, fA wc))) (n12 : wc.length = (60 : Nat)) (u13 : cE u 13 (.inl (.int, fA we))) (n13 : we.length = (12 : Nat)) (u14 : cE u 14 (.inr (1, [.ref 7, .ref 15, .ref 16, fI m, fJ d]))) (u15 : cE u 15 (.inl (.int, fA [ka, pa, fa, kb, pb, fb]))) (u16 : cE u 16 (.inl (.int, fA [x, y]))) (ul : u.length = (94 : Nat)) (F : hfr [14, 16] h u) (hi : (0 : Int) ≤ i ∧ i ≤ n) (hx0 : fa ≤ m → (0 : Int) ≤ x) (hx1 : fb ≤ m → (0 : Int) ≤ y) (hx2 : (-1 : Int) ≤ x ∧ x < pl) (hx3 : (-1 : Int) ≤ y ∧ y < pl) (hd : (0 : Int) ≤ d ∧ d < (2147483648 : Int)) (hm : m = mi + i) (he : (mx_dr (fun x => mx_w cn go ch s x) (pl - 1) ka pa fa kb pb fb n.toNat xa xb mi sd) = (mx_dr (fun x => mx_w cn go ch s x) (pl - 1) ka pa fa kb pb fb ((n - i).toNat) x y m d)) (hk : n - i < (k : Int)), ik_G 25 2 [some (.ref 14), some (fI n), some (fI i)] [] u (fun rv h_q => rv = [] ∧ cE h_q 14 (.inr (1, [.ref 7, .ref 15, .ref 16, fI ((mx_dr (fun x => mx_w cn go ch s x) (pl - 1) ka pa fa kb pb fb n.toNat xa xb mi sd).2.2.1), fJ ((mx_dr (fun x => mx_w cn go ch s x) (pl - 1) ka pa fa kb pb fb n.toNat xa xb mi sd).2.2.2)])) ∧ cE h_q 16 (.inl (.int, fA [(mx_dr (fun x => mx_w cn go ch s x) (pl - 1) ka pa fa kb pb fb n.toNat xa xb mi sd).1, (mx_dr (fun x => mx_w cn go ch s x) (pl - 1) ka pa fa kb pb fb n.toNat xa xb mi sd).2.1])) ∧ hfr [14, 16] h h_q) := by
  intro k
  induction k with
  | zero => intro i x y m d u u7 u11 n11 u12 n12 u13 n13 u14 u15 u16 ul F hi hx0 hx1 hx2 hx3 hd hm he hk; omega
  | succ k ih =>
    intro i x y m d u u7 u11 n11 u12 n12 u13 n13 u14 u15 u16 ul F hi hx0 hx1 hx2 hx3 hd hm he hk
    refine ik_Wk 2 (pc_q := 4) (loc_q := [some (.ref 14), some (fI n), some (fI i)]) (st_q := [fI n, fI i]) (h_q := u) (cl_q := 0) (sl_q := 0) rfl ?_
    refine fw_ic_ge rfl rfl (by omega) (by omega) (by omega) (by omega) (fun hc1 => ?_) (fun hc1 => ?_)
    · have e0 : (mx_dr (fun x => mx_w cn go ch s x) (pl - 1) ka pa fa kb pb fb ((n - i).toNat) x y m d) = (x, y, m, d) := by
        first
        | exact mx_dr_b (by omega)
        | (have q : (n - i).toNat = 0 := by omega); rw [q]; rfl
      rw [he, e0]
      exact ik_Wret rfl rfl ⟨_, _, rfl, rfl, rfl, rfl, ⟨rfl, u14, u16, F⟩⟩
    · refine ik_Wk 1 (pc_q := 8) (loc_q := [some (.ref 14), some (fI n), some (fI i)]) (st_q := [.ref 14]) (h_q := u) (cl_q := 0) (sl_q := 0) rfl ?_
      refine ik_Wc 24 1 0 [.ref 14] [] rfl rfl rfl (by decide +kernel) rfl rfl (fw_rec ul rfl u14 rfl (Nat.le_of_ble_eq_true rfl)) ?_
      refine ik_Wk 0 (pc_q := 0) (loc_q := [some (.ref 14)]) (st_q := []) (h_q := u) (cl_q := 0) (sl_q := 0) rfl ?_
      refine ik_Wk 1 (pc_q := 1) (loc_q := [some (.ref 14)]) (st_q := [.ref 14]) (h_q := u) (cl_q := 0) (sl_q := 0) rfl ?_
      refine fw_gf rfl rfl u14 rfl ?_
      refine ik_Wk 1 (pc_q := 5) (loc_q := [some (.ref 14)]) (st_q := [fI 0, .ref 16]) (h_q := u) (cl_q := 0) (sl_q := 0) rfl ?_
      refine fw_ial (z := 0) rfl u16 (by decide +kernel) (Nat.le_of_ble_eq_true rfl) (by decide +kernel) ?_
      refine ik_Wk 0 (pc_q := 6) (loc_q := [some (.ref 14)]) (st_q := [fI x]) (h_q := u) (cl_q := 0) (sl_q := 0) rfl ?_
      refine ik_Wk 1 (pc_q := 7) (loc_q := [some (.ref 14)]) (st_q := [.ref 14, fI x]) (h_q := u) (cl_q := 0) (sl_q := 0) rfl ?_
      refine fw_gf rfl rfl u14 rfl ?_
      refine ik_Wc 2 1 0 [.ref 7] [fI x] rfl rfl rfl (by decide +kernel) rfl rfl (fw_rec ul rfl u7 rfl (Nat.le_of_ble_eq_true rfl)) ?_
      refine ik_Wk 0 (pc_q := 0) (loc_q := [some (.ref 7)]) (st_q := []) (h_q := u) (cl_q := 0) (sl_q := 0) rfl ?_
      refine ik_Wk 1 (pc_q := 1) (loc_q := [some (.ref 7)]) (st_q := [.ref 7]) (h_q := u) (cl_q := 0) (sl_q := 0) rfl ?_
      refine fw_gf rfl rfl u7 rfl ?_
      refine ik_Wk 1 (pc_q := 5) (loc_q := [some (.ref 7)]) (st_q := [fI 1, fI pl]) (h_q := u) (cl_q := 0) (sl_q := 0) rfl ?_
      refine fw_sub rfl ?_
      refine ik_Wret rfl rfl ⟨_, _, rfl, rfl, ?_⟩
      refine ik_Wk 0 (pc_q := 13) (loc_q := [some (.ref 14)]) (st_q := [fI (pl - 1), fI x]) (h_q := u) (cl_q := 0) (sl_q := 0) rfl ?_
      refine fw_ic_ne rfl rfl (by omega) (by omega) (by omega) (by omega) (fun hc2 => ?_) (fun hc2 => ?_)
      · refine ik_Wk 3 (pc_q := 22) (loc_q := [some (.ref 14)]) (st_q := [.ref 14, fI 1]) (h_q := u) (cl_q := 0) (sl_q := 0) rfl ?_
        refine fw_gf rfl rfl u14 rfl ?_
        refine ik_Wk 1 (pc_q := 26) (loc_q := [some (.ref 14)]) (st_q := [fI 1, .ref 16, fI 1]) (h_q := u) (cl_q := 0) (sl_q := 0) rfl ?_
        refine fw_ial (z := 1) rfl u16 (by decide +kernel) (Nat.le_of_ble_eq_true rfl) (by decide +kernel) ?_
        refine ik_Wk 0 (pc_q := 27) (loc_q := [some (.ref 14)]) (st_q := [fI y, fI 1]) (h_q := u) (cl_q := 0) (sl_q := 0) rfl ?_
        refine ik_Wk 1 (pc_q := 28) (loc_q := [some (.ref 14)]) (st_q := [.ref 14, fI y, fI 1]) (h_q := u) (cl_q := 0) (sl_q := 0) rfl ?_
        refine fw_gf rfl rfl u14 rfl ?_
        refine ik_Wc 2 1 0 [.ref 7] [fI y, fI 1] rfl rfl rfl (by decide +kernel) rfl rfl (fw_rec ul rfl u7 rfl (Nat.le_of_ble_eq_true rfl)) ?_
        refine ik_Wk 0 (pc_q := 0) (loc_q := [some (.ref 7)]) (st_q := []) (h_q := u) (cl_q := 0) (sl_q := 0) rfl ?_
        refine ik_Wk 1 (pc_q := 1) (loc_q := [some (.ref 7)]) (st_q := [.ref 7]) (h_q := u) (cl_q := 0) (sl_q := 0) rfl ?_
        refine fw_gf rfl rfl u7 rfl ?_
        refine ik_Wk 1 (pc_q := 5) (loc_q := [some (.ref 7)]) (st_q := [fI 1, fI pl]) (h_q := u) (cl_q := 0) (sl_q := 0) rfl ?_
        refine fw_sub rfl ?_
        refine ik_Wret rfl rfl ⟨_, _, rfl, rfl, ?_⟩
        refine ik_Wk 0 (pc_q := 34) (loc_q := [some (.ref 14)]) (st_q := [fI (pl - 1), fI y, fI 1]) (h_q := u) (cl_q := 0) (sl_q := 0) rfl ?_
        refine fw_ic_ne rfl rfl (by omega) (by omega) (by omega) (by omega) (fun hc3 => ?_) (fun hc3 => ?_)
        · refine ik_Wk 2 (pc_q := 42) (loc_q := [some (.ref 14)]) (st_q := [fI 2, fI 1]) (h_q := u) (cl_q := 0) (sl_q := 0) rfl ?_
          refine fw_add rfl ?_
          refine ik_Wret rfl rfl ⟨_, _, rfl, rfl, ?_⟩
          refine ik_Wk 0 (pc_q := 11) (loc_q := [some (.ref 14), some (fI n), some (fI i)]) (st_q := [fI 3]) (h_q := u) (cl_q := 0) (sl_q := 0) rfl ?_
          refine fw_if_ne rfl rfl (by decide +kernel) (by decide +kernel) (fun hc4 => absurd hc4 (by decide +kernel)) (fun hc4 => ?_)
          have e0 : (mx_dr (fun x => mx_w cn go ch s x) (pl - 1) ka pa fa kb pb fb ((n - i).toNat) x y m d) = (x, y, m, d) := by
            first
            | exact mx_dr_b (by omega)
            | (have q : (n - i).toNat = 0 := by omega); rw [q]; rfl
          rw [he, e0]
          exact ik_Wret rfl rfl ⟨_, _, rfl, rfl, rfl, rfl, ⟨rfl, u14, u16, F⟩⟩
        · refine ik_Wk 1 (pc_q := 42) (loc_q := [some (.ref 14)]) (st_q := [fI 0, fI 1]) (h_q := u) (cl_q := 0) (sl_q := 0) rfl ?_
          refine fw_add rfl ?_
          refine ik_Wret rfl rfl ⟨_, _, rfl, rfl, ?_⟩
          refine ik_Wk 0 (pc_q := 11) (loc_q := [some (.ref 14), some (fI n), some (fI i)]) (st_q := [fI 1]) (h_q := u) (cl_q := 0) (sl_q := 0) rfl ?_
          refine fw_if_ne rfl rfl (by decide +kernel) (by decide +kernel) (fun hc5 => absurd hc5 (by decide +kernel)) (fun hc5 => ?_)
          have e0 : (mx_dr (fun x => mx_w cn go ch s x) (pl - 1) ka pa fa kb pb fb ((n - i).toNat) x y m d) = (x, y, m, d) := by
            first
            | exact mx_dr_b (by omega)
            | (have q : (n - i).toNat = 0 := by omega); rw [q]; rfl
          rw [he, e0]
          exact ik_Wret rfl rfl ⟨_, _, rfl, rfl, rfl, rfl, ⟨rfl, u14, u16, F⟩⟩
      · refine ik_Wk 2 (pc_q := 22) (loc_q := [some (.ref 14)]) (st_q := [.ref 14, fI 0]) (h_q := u) (cl_q := 0) (sl_q := 0) rfl ?_
        refine fw_gf rfl rfl u14 rfl ?_
        refine ik_Wk 1 (pc_q := 26) (loc_q := [some (.ref 14)]) (st_q := [fI 1, .ref 16, fI 0]) (h_q := u) (cl_q := 0) (sl_q := 0) rfl ?_
        refine fw_ial (z := 1) rfl u16 (by decide +kernel) (Nat.le_of_ble_eq_true rfl) (by decide +kernel) ?_
        refine ik_Wk 0 (pc_q := 27) (loc_q := [some (.ref 14)]) (st_q := [fI y, fI 0]) (h_q := u) (cl_q := 0) (sl_q := 0) rfl ?_
        refine ik_Wk 1 (pc_q := 28) (loc_q := [some (.ref 14)]) (st_q := [.ref 14, fI y, fI 0]) (h_q := u) (cl_q := 0) (sl_q := 0) rfl ?_
        refine fw_gf rfl rfl u14 rfl ?_
        refine ik_Wc 2 1 0 [.ref 7] [fI y, fI 0] rfl rfl rfl (by decide +kernel) rfl rfl (fw_rec ul rfl u7 rfl (Nat.le_of_ble_eq_true rfl)) ?_
        refine ik_Wk 0 (pc_q := 0) (loc_q := [some (.ref 7)]) (st_q := []) (h_q := u) (cl_q := 0) (sl_q := 0) rfl ?_
        refine ik_Wk 1 (pc_q := 1) (loc_q := [some (.ref 7)]) (st_q := [.ref 7]) (h_q := u) (cl_q := 0) (sl_q := 0) rfl ?_
        refine fw_gf rfl rfl u7 rfl ?_
        refine ik_Wk 1 (pc_q := 5) (loc_q := [some (.ref 7)]) (st_q := [fI 1, fI pl]) (h_q := u) (cl_q := 0) (sl_q := 0) rfl ?_
        refine fw_sub rfl ?_
        refine ik_Wret rfl rfl ⟨_, _, rfl, rfl, ?_⟩
        refine ik_Wk 0 (pc_q := 34) (loc_q := [some (.ref 14)]) (st_q := [fI (pl - 1), fI y, fI 0]) (h_q := u) (cl_q := 0) (sl_q := 0) rfl ?_
        refine fw_ic_ne rfl rfl (by omega) (by omega) (by omega) (by omega) (fun hc6 => ?_) (fun hc6 => ?_)
        · refine ik_Wk 2 (pc_q := 42) (loc_q := [some (.ref 14)]) (st_q := [fI 2, fI 0]) (h_q := u) (cl_q := 0) (sl_q := 0) rfl ?_
          refine fw_add rfl ?_
          refine ik_Wret rfl rfl ⟨_, _, rfl, rfl, ?_⟩
          refine ik_Wk 0 (pc_q := 11) (loc_q := [some (.ref 14), some (fI n), some (fI i)]) (st_q := [fI 2]) (h_q := u) (cl_q := 0) (sl_q := 0) rfl ?_
          refine fw_if_ne rfl rfl (by decide +kernel) (by decide +kernel) (fun hc7 => absurd hc7 (by decide +kernel)) (fun hc7 => ?_)
          have e0 : (mx_dr (fun x => mx_w cn go ch s x) (pl - 1) ka pa fa kb pb fb ((n - i).toNat) x y m d) = (x, y, m, d) := by
            first
            | exact mx_dr_b (by omega)
            | (have q : (n - i).toNat = 0 := by omega); rw [q]; rfl
          rw [he, e0]
          exact ik_Wret rfl rfl ⟨_, _, rfl, rfl, rfl, rfl, ⟨rfl, u14, u16, F⟩⟩
        · refine ik_Wk 1 (pc_q := 42) (loc_q := [some (.ref 14)]) (st_q := [fI 0, fI 0]) (h_q := u) (cl_q := 0) (sl_q := 0) rfl ?_
          refine fw_add rfl ?_
          refine ik_Wret rfl rfl ⟨_, _, rfl, rfl, ?_⟩
          refine ik_Wk 0 (pc_q := 11) (loc_q := [some (.ref 14), some (fI n), some (fI i)]) (st_q := [fI 0]) (h_q := u) (cl_q := 0) (sl_q := 0) rfl ?_
          refine fw_if_ne rfl rfl (by decide +kernel) (by decide +kernel) (fun hc8 => ?_) (fun hc8 => absurd hc8 (by decide +kernel))
          refine ik_Wk 2 (pc_q := 16) (loc_q := [some (.ref 14), some (fI n), some (fI i)]) (st_q := [.ref 14, .ref 14]) (h_q := u) (cl_q := 0) (sl_q := 0) rfl ?_
          refine fw_gf rfl rfl u14 rfl ?_
          refine ik_Wk 1 (pc_q := 20) (loc_q := [some (.ref 14), some (fI n), some (fI i)]) (st_q := [fI 1, fI m, .ref 14]) (h_q := u) (cl_q := 0) (sl_q := 0) rfl ?_
          refine fw_add rfl ?_
          refine fx_pf rfl rfl u14 (Nat.le_of_ble_eq_true rfl) rfl rfl ?_
          intro h_87 e_87 f_87 l_87
          have k_87 : cL h_87 := l_87.trans ul
          have fr_87 := hfr_wb F f_87 l_87 rfl
          clear l_87
          have g_87_7 := (f_87 7 (Nat.ne_of_beq_eq_false rfl)).trans u7
          have g_87_11 := (f_87 11 (Nat.ne_of_beq_eq_false rfl)).trans u11
          have g_87_12 := (f_87 12 (Nat.ne_of_beq_eq_false rfl)).trans u12
          have g_87_13 := (f_87 13 (Nat.ne_of_beq_eq_false rfl)).trans u13
          have g_87_15 := (f_87 15 (Nat.ne_of_beq_eq_false rfl)).trans u15
          have g_87_16 := (f_87 16 (Nat.ne_of_beq_eq_false rfl)).trans u16
          have g_87_14 : cE h_87 14 (.inr (1, [.ref 7, .ref 15, .ref 16, fI (m + 1), fJ d])) := e_87
          refine ik_Wk 2 (pc_q := 26) (loc_q := [some (.ref 14), some (fI n), some (fI i)]) (st_q := [fI 0, .ref 14]) (h_q := h_87) (cl_q := 0) (sl_q := 0) rfl ?_
          refine fw_call 26 2 0 [.ref 14, fI 0] [] rfl rfl rfl (Nat.le_of_ble_eq_true rfl) rfl rfl (fw_rec k_87 rfl g_87_14 rfl (Nat.le_of_ble_eq_true rfl)) (cs_pass0 (pl := pl) (mi := m + 1) (sd := d) (ka := ka) (pa := pa) (fa := fa) (kb := kb) (pb := pb) (fb := fb) (xa := x) (xb := y) (s := s) (lo := lo) (wg := wg) (wc := wc) (we := we) (by omega) (by omega) (by omega) (by omega) q4 q5 (by omega) (by omega) (by omega) g_87_7 g_87_11 n11 g_87_12 n12 g_87_13 n13 g_87_14 g_87_15 g_87_16 k_87) ?_
          rintro _ h_88 ⟨rfl, e_88_14, e_88_16, F_88⟩
          have k_88 : cL h_88 := F_88.1.trans k_87
          have fr_88 := hfr_cb fr_87 F_88 rfl
          have g_88_7 := (hfr_g F_88 7 rfl).trans g_87_7
          have g_88_11 := (hfr_g F_88 11 rfl).trans g_87_11
          have g_88_12 := (hfr_g F_88 12 rfl).trans g_87_12
          have g_88_13 := (hfr_g F_88 13 rfl).trans g_87_13
          have g_88_15 := (hfr_g F_88 15 rfl).trans g_87_15
          have g_88_14 : cE h_88 14 (.inr (1, [.ref 7, .ref 15, .ref 16, fI (m + 1), fJ ((mx_sd (fun x => mx_w cn go ch s x) (pl - 1) ka pa fa (m + 1) x d).2)])) := e_88_14
          have g_88_16 : cE h_88 16 (.inl (.int, fA [(mx_sd (fun x => mx_w cn go ch s x) (pl - 1) ka pa fa (m + 1) x d).1, y])) := e_88_16
          refine ik_Wk 0 (pc_q := 29) (loc_q := [some (.ref 14), some (fI n), some (fI i)]) (st_q := []) (h_q := h_88) (cl_q := 0) (sl_q := 0) rfl ?_
          have zin0 := mx_sd_in (W := (fun x => mx_w cn go ch s x)) (pl := pl) (k := ka) (c := pa) (fr := fa) (m := m + 1) (x := x) (d := d) q5 (by omega) (by omega) (by omega)
          have zlo0 := mx_sd_lo (W := (fun x => mx_w cn go ch s x)) (pl := pl) (k := ka) (c := pa) (fr := fa) (m := m + 1) (x := x) (d := d) q5 (by omega) (by omega) (by omega) (by omega)
          refine ik_Wk 2 (pc_q := 31) (loc_q := [some (.ref 14), some (fI n), some (fI i)]) (st_q := [fI 1, .ref 14]) (h_q := h_88) (cl_q := 0) (sl_q := 0) rfl ?_
          refine fw_call 26 2 0 [.ref 14, fI 1] [] rfl rfl rfl (Nat.le_of_ble_eq_true rfl) rfl rfl (fw_rec k_88 rfl g_88_14 rfl (Nat.le_of_ble_eq_true rfl)) (cs_pass1 (pl := pl) (mi := (m + 1)) (sd := (mx_sd (fun x => mx_w cn go ch s x) (pl - 1) ka pa fa (m + 1) x d).2) (ka := ka) (pa := pa) (fa := fa) (kb := kb) (pb := pb) (fb := fb) (xa := (mx_sd (fun x => mx_w cn go ch s x) (pl - 1) ka pa fa (m + 1) x d).1) (xb := y) (s := s) (lo := lo) (wg := wg) (wc := wc) (we := we) (by omega) (by omega) (by omega) (by omega) q4 q5 (by omega) (by omega) (by omega) g_88_7 g_88_11 n11 g_88_12 n12 g_88_13 n13 g_88_14 g_88_15 g_88_16 k_88) ?_
          rintro _ h_89 ⟨rfl, e_89_14, e_89_16, F_89⟩
          have k_89 : cL h_89 := F_89.1.trans k_88
          have fr_89 := hfr_cb fr_88 F_89 rfl
          have g_89_7 := (hfr_g F_89 7 rfl).trans g_88_7
          have g_89_11 := (hfr_g F_89 11 rfl).trans g_88_11
          have g_89_12 := (hfr_g F_89 12 rfl).trans g_88_12
          have g_89_13 := (hfr_g F_89 13 rfl).trans g_88_13
          have g_89_15 := (hfr_g F_89 15 rfl).trans g_88_15
          have g_89_14 : cE h_89 14 (.inr (1, [.ref 7, .ref 15, .ref 16, fI (m + 1), fJ ((mx_sd (fun x => mx_w cn go ch s x) (pl - 1) kb pb fb (m + 1) y ((mx_sd (fun x => mx_w cn go ch s x) (pl - 1) ka pa fa (m + 1) x d).2)).2)])) := e_89_14
          have g_89_16 : cE h_89 16 (.inl (.int, fA [((mx_sd (fun x => mx_w cn go ch s x) (pl - 1) ka pa fa (m + 1) x d).1), (mx_sd (fun x => mx_w cn go ch s x) (pl - 1) kb pb fb (m + 1) y ((mx_sd (fun x => mx_w cn go ch s x) (pl - 1) ka pa fa (m + 1) x d).2)).1])) := e_89_16
          refine ik_Wk 0 (pc_q := 34) (loc_q := [some (.ref 14), some (fI n), some (fI i)]) (st_q := []) (h_q := h_89) (cl_q := 0) (sl_q := 0) rfl ?_
          have zin1 := mx_sd_in (W := (fun x => mx_w cn go ch s x)) (pl := pl) (k := kb) (c := pb) (fr := fb) (m := m + 1) (x := y) (d := (mx_sd (fun x => mx_w cn go ch s x) (pl - 1) ka pa fa (m + 1) x d).2) q5 (by omega) (by omega) (by omega)
          have zlo1 := mx_sd_lo (W := (fun x => mx_w cn go ch s x)) (pl := pl) (k := kb) (c := pb) (fr := fb) (m := m + 1) (x := y) (d := (mx_sd (fun x => mx_w cn go ch s x) (pl - 1) ka pa fa (m + 1) x d).2) q5 (by omega) (by omega) (by omega) (by omega)
          refine fw_inc (a := i) (loc_q := [some (.ref 14), some (fI n), some (fI (i + 1))]) rfl rfl (Nat.le_of_ble_eq_true rfl) rfl ?_
          refine ik_Wk 1 (pc_q := 2) (loc_q := [some (.ref 14), some (fI n), some (fI (i + 1))]) (st_q := []) (h_q := h_89) (cl_q := 0) (sl_q := 0) rfl ?_
          exact ih  (i + 1) ((mx_sd (fun x => mx_w cn go ch s x) (pl - 1) ka pa fa (m + 1) x d).1) ((mx_sd (fun x => mx_w cn go ch s x) (pl - 1) kb pb fb (m + 1) y ((mx_sd (fun x => mx_w cn go ch s x) (pl - 1) ka pa fa (m + 1) x d).2)).1) (m + 1) ((mx_sd (fun x => mx_w cn go ch s x) (pl - 1) kb pb fb (m + 1) y ((mx_sd (fun x => mx_w cn go ch s x) (pl - 1) ka pa fa (m + 1) x d).2)).2) h_89 g_89_7 g_89_11 n11 g_89_12 n12 g_89_13 n13 g_89_14 g_89_15 g_89_16 k_89 fr_89 (by omega) (by omega) (by omega) (by omega) (by omega) (by omega) (by omega) (by rw [he, show (n - i).toNat = (n - (i + 1)).toNat + 1 by omega, mx_dr_n (by omega)]) (by omega)

theorem cs_drift {h : List ik_E} {pl : Int} {mi : Int} {sd : Int} {ka : Int} {pa : Int} {fa : Int} {kb : Int} {pb : Int} {fb : Int} {xa : Int} {xb : Int} {s : Nat} {cn : List Int} {go : List Int} {ch : List Int} {n : Int} {lo : Int} {wg : List Int} {wc : List Int} {we : List Int} (q0 : 2 ≤ pl ∧ pl ≤ 12) (q1 : s < 4096) (q2 : 0 ≤ sd ∧ sd < 2147483648) (q3 : 0 ≤ mi ∧ mi < 2000000000) (q4 : ∀ x : Int, (0 : Int) ≤ x → x < pl - 1 → mx_wy wg wc we x (mx_w cn go ch s x)) (q5 : ∀ x : Int, (0 : Int) ≤ x → x < pl - 1 → mx_ok pl (mx_w cn go ch s x)) (q6 : (0 : Int) ≤ ka ∧ ka ≤ (2 : Int)) (q7 : (0 : Int) ≤ kb ∧ kb ≤ (2 : Int)) (q8 : (0 : Int) ≤ fa ∧ fa ≤ (30 : Int)) (q9 : (0 : Int) ≤ fb ∧ fb ≤ (30 : Int)) (q10 : (0 : Int) ≤ pa ∧ pa < pl) (q11 : (0 : Int) ≤ pb ∧ pb < pl) (q12 : fa ≤ mi → (0 : Int) ≤ xa) (q13 : fb ≤ mi → (0 : Int) ≤ xb) (q14 : (-1 : Int) ≤ xa ∧ xa < pl) (q15 : (-1 : Int) ≤ xb ∧ xb < pl) (q16 : (0 : Int) ≤ n ∧ n ≤ (200 : Int)) (q17 : mi < (1999999000 : Int)) (h7 : cE h 7 (.inr (0, [fI pl, fI ((s : Nat) : Int), fI lo, .ref 8, .ref 9, .ref 10, .ref 11, .ref 12, .ref 13]))) (h11 : cE h 11 (.inl (.int, fA wg))) (n11 : wg.length = (60 : Nat)) (h12 : cE h 12 (.inl (.int, fA wc))) (n12 : wc.length = (60 : Nat)) (h13 : cE h 13 (.inl (.int, fA we))) (n13 : we.length = (12 : Nat)) (h14 : cE h 14 (.inr (1, [.ref 7, .ref 15, .ref 16, fI mi, fJ sd]))) (h15 : cE h 15 (.inl (.int, fA [ka, pa, fa, kb, pb, fb]))) (h16 : cE h 16 (.inl (.int, fA [xa, xb]))) (hl : h.length = (94 : Nat)) : ik_F 25 [.ref 14, fI n] h (fun rv h_q => rv = [] ∧ cE h_q 14 (.inr (1, [.ref 7, .ref 15, .ref 16, fI ((mx_dr (fun x => mx_w cn go ch s x) (pl - 1) ka pa fa kb pb fb n.toNat xa xb mi sd).2.2.1), fJ ((mx_dr (fun x => mx_w cn go ch s x) (pl - 1) ka pa fa kb pb fb n.toNat xa xb mi sd).2.2.2)])) ∧ cE h_q 16 (.inl (.int, fA [(mx_dr (fun x => mx_w cn go ch s x) (pl - 1) ka pa fa kb pb fb n.toNat xa xb mi sd).1, (mx_dr (fun x => mx_w cn go ch s x) (pl - 1) ka pa fa kb pb fb n.toNat xa xb mi sd).2.1])) ∧ hfr [14, 16] h h_q) := by
  refine ik_Wk 2 (pc_q := 2) (loc_q := [some (.ref 14), some (fI n), some (fI 0)]) (st_q := []) (h_q := h) (cl_q := 0) (sl_q := 0) rfl ?_
  exact cs_driftL (pl := pl) (mi := mi) (sd := sd) (ka := ka) (pa := pa) (fa := fa) (kb := kb) (pb := pb) (fb := fb) (xa := xa) (xb := xb) (s := s) (cn := cn) (go := go) (ch := ch) (n := n) (lo := lo) (wg := wg) (wc := wc) (we := we) q0 q1 q2 q3 q4 q5 q6 q7 q8 q9 q10 q11 q12 q13 q14 q15 q16 q17  (n.toNat + 1) 0 xa xb mi sd h h7 h11 n11 h12 n12 h13 n13 h14 h15 h16 hl (hfr_refl [14, 16] h) (by omega) (by omega) (by omega) (by omega) (by omega) (by omega) (by omega) (by rw [show n - 0 = n by omega]) (by omega)

end
