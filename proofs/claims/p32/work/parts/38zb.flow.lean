noncomputable section
/-! one go of all odds: flow of both (written by wip/fx/u7.py) -/
theorem cs_flowI {h : List ik_E} {a : Nat} {b : Nat} {pl : Int} {lo : Int} {s : Nat} {wg : List Int} {wc : List Int} {we : List Int} {xs : List Int} {ys : List Int} {o : Nat → Int} {W : Int → List (Int × Int)} (q0 : 1 ≤ pl ∧ pl ≤ 12) (q1 : ∀ x : Int, 0 ≤ x → x < pl - 1 → mx_wy wg wc we x (W x)) (q2 : ∀ x : Int, 0 ≤ x → x < pl - 1 → mx_ok pl (W x)) (q3 : mf_is pl xs o) (q4 : mf_gd pl o) (q5 : 14 < a ∧ a < 94 ∧ 14 < b ∧ b < 94 ∧ ¬ a = b) (p : Int) (hp : 0 ≤ p ∧ p < pl - 1) {R : List Value → List ik_E → Prop} (K : ∀ (w : List ik_E) (y2 : List Int) (l2 : Int) (k2 : Int) (x9 : Option Value) (w7 : cE w 7 (.inr (0, [fI pl, fI ((s : Nat) : Int), fI lo, .ref 8, .ref 9, .ref 10, .ref 11, .ref 12, .ref 13]))) (w11 : cE w 11 (.inl (.int, fA wg))) (nw_11 : wg.length = 60) (w12 : cE w 12 (.inl (.int, fA wc))) (nw_12 : wc.length = 60) (w13 : cE w 13 (.inl (.int, fA we))) (nw_13 : we.length = 12) (wa : cE w a (.inl (.long, fL xs))) (nw_a : xs.length = 12) (wb : cE w b (.inl (.long, fL y2))) (nw_b : y2.length = 12) (wl : w.length = 94) (F : hfr [b] h w) (hy2 : mf_is pl y2 (mf_fn W o (pl - 1).toNat (p + 1).toNat)), ik_G 17 137 [some (.ref 7), some (.ref a), some (.ref b), some (fI (pl - 1)), some (fI p), some (fJ l2), none, some (fI (we.getD p.toNat 0 - 1)), some (fI k2), x9, none] [] w R) : ∀ (k : Nat) (j : Nat) (l : Int) (kk : Int) (y1 : List Int) (T : Nat → Int) (x9 : Option Value) (u : List ik_E) (u7 : cE u 7 (.inr (0, [fI pl, fI ((s : Nat) : Int), fI lo, .ref 8, .ref 9, .ref 10, .ref 11, .ref 12, .ref 13]))) (u11 : cE u 11 (.inl (.int, fA wg))) (n11 : wg.length = 60) (u12 : cE u 12 (.inl (.int, fA wc))) (n12 : wc.length = 60) (u13 : cE u 13 (.inl (.int, fA we))) (n13 : we.length = 12) (ua : cE u a (.inl (.long, fL xs))) (na : xs.length = 12) (ub : cE u b (.inl (.long, fL y1))) (nb : y1.length = 12) (ul : u.length = 94) (F : hfr [b] h u) (hj : j ≤ (W p).length) (hkk : kk = 5 * p + (j : Int)) (hl0 : 0 ≤ l ∧ l ≤ o p.toNat) (hlc : o p.toNat * mx_cs ((W p).drop j) ≤ 100 * l) (hy : mf_is pl y1 T) (hT : (0 < o p.toNat ∧ mf_fn W o (pl - 1).toNat (p + 1).toNat = mf_ps ((W p).drop j) (o p.toNat) l T) ∨ (o p.toNat = 0 ∧ mf_fn W o (pl - 1).toNat (p + 1).toNat = T)) (hk : ((W p).length : Int) - (j : Int) < (k : Int)), ik_G 17 65 [some (.ref 7), some (.ref a), some (.ref b), some (fI (pl - 1)), some (fI p), some (fJ l), none, some (fI (we.getD p.toNat 0 - 1)), some (fI kk), x9, none] [] u R := by
  intro k
  induction k with
  | zero => intro j l kk y1 T x9 u u7 u11 n11 u12 n12 u13 n13 ua na ub nb ul F hj hkk hl0 hlc hy hT hk; omega
  | succ k ih =>
    intro j l kk y1 T x9 u u7 u11 n11 u12 n12 u13 n13 ua na ub nb ul F hj hkk hl0 hlc hy hT hk
    have hok := q2 p (by omega) (by omega)
    obtain ⟨w1, w2⟩ := q1 p (by omega) (by omega)
    obtain ⟨o1, o2, o3⟩ := hok
    have hx := q3 p.toNat (by omega)
    have hb := mf_gd_b q4 p.toNat
    refine ik_Wk 2 (pc' := 69) (loc' := [some (.ref 7), some (.ref a), some (.ref b), some (fI (pl - 1)), some (fI p), some (fJ l), none, some (fI (we.getD p.toNat 0 - 1)), some (fI kk), x9, none]) (st' := [fI (we.getD p.toNat 0 - 1), fI kk]) (h' := u) (cl' := 0) (sl' := 0) rfl ?_
    refine fw_ic_gt rfl rfl (by omega) (by omega) (by omega) (by omega) (fun hc1 => ?_) (fun hc1 => ?_)
    · have hy2 : mf_is pl y1 (mf_fn W o (pl - 1).toNat (p + 1).toNat) := by
        rcases hT with q | q
        · rcases Nat.lt_or_ge j (W p).length with w | w
          · have := mf_left_p ⟨o1, o2, o3⟩ q.1 w hlc
            omega
          · rw [q.2, mf_ps_e w]; exact hy
        · rw [q.2]; exact hy
      exact K u y1 l kk x9 u7 u11 n11 u12 n12 u13 n13 ua na ub nb ul F hy2
    · refine ik_Wk 1 (pc' := 74) (loc' := [some (.ref 7), some (.ref a), some (.ref b), some (fI (pl - 1)), some (fI p), some (fJ l), none, some (fI (we.getD p.toNat 0 - 1)), some (fI kk), x9, none]) (st' := [fJ l]) (h' := u) (cl' := 0) (sl' := 0) rfl ?_
      refine fw_lc (z := 0) rfl (by decide) ?_
      refine fw_lcmp_le rfl rfl rfl (by omega) (by omega) (by omega) (by omega) (fun hc2 => ?_) (fun hc2 => ?_)
      · have hy2 : mf_is pl y1 (mf_fn W o (pl - 1).toNat (p + 1).toNat) := by
          rcases hT with q | q
          · rcases Nat.lt_or_ge j (W p).length with w | w
            · have := mf_left_p ⟨o1, o2, o3⟩ q.1 w hlc
              omega
            · rw [q.2, mf_ps_e w]; exact hy
          · rw [q.2]; exact hy
        exact K u y1 l kk x9 u7 u11 n11 u12 n12 u13 n13 ua na ub nb ul F hy2
      · refine ik_Wk 2 (pc' := 83) (loc' := [some (.ref 7), some (.ref a), some (.ref b), some (fI (pl - 1)), some (fI p), some (fJ l), none, some (fI (we.getD p.toNat 0 - 1)), some (fI kk), x9, none]) (st' := [fI (we.getD p.toNat 0 - 1), fI kk]) (h' := u) (cl' := 0) (sl' := 0) rfl ?_
        have ej : kk.toNat = 5 * p.toNat + j := by omega
        have hw := w2 j (by omega)
        rw [← ej] at hw
        have hq := o3 j (by omega)
        have hlp : 0 < o p.toNat := by omega
        have hT2 : mf_fn W o (pl - 1).toNat (p + 1).toNat = mf_ps ((W p).drop j) (o p.toNat) l T := by
          rcases hT with q | q
          · exact q.2
          · omega
        have hln := mf_left_n (l := l) ⟨o1, o2, o3⟩ (Int.le_of_lt hlp) (show j < (W p).length by omega) hlc
        refine fw_ic_ne rfl rfl (by omega) (by omega) (by omega) (by omega) (fun hc3 => ?_) (fun hc3 => ?_)
        · refine ik_Wk 5 (pc' := 112) (loc' := [some (.ref 7), some (.ref a), some (.ref b), some (fI (pl - 1)), some (fI p), some (fJ l), none, some (fI (we.getD p.toNat 0 - 1)), some (fI kk), some (fJ l), none]) (st' := [.ref 7, .ref b]) (h' := u) (cl' := 0) (sl' := 0) rfl ?_
          refine fw_gf rfl rfl u7 rfl ?_
          refine ik_Wk 1 (pc' := 117) (loc' := [some (.ref 7), some (.ref a), some (.ref b), some (fI (pl - 1)), some (fI p), some (fJ l), none, some (fI (we.getD p.toNat 0 - 1)), some (fI kk), some (fJ l), none]) (st' := [fI kk, .ref 11, .ref b]) (h' := u) (cl' := 0) (sl' := 0) rfl ?_
          refine fw_ial rfl u11 (by omega) (by omega) (by omega) ?_
          refine ik_Wk 1 (pc' := 119) (loc' := [some (.ref 7), some (.ref a), some (.ref b), some (fI (pl - 1)), some (fI p), some (fJ l), none, some (fI (we.getD p.toNat 0 - 1)), some (fI kk), some (fJ l), none]) (st' := [fI (wg.getD kk.toNat 0), .ref b, fI (wg.getD kk.toNat 0), .ref b]) (h' := u) (cl' := 0) (sl' := 0) rfl ?_
          refine fx_lal rfl ub (by omega) (by omega) (by omega) ?_
          refine ik_Wk 1 (pc' := 122) (loc' := [some (.ref 7), some (.ref a), some (.ref b), some (fI (pl - 1)), some (fI p), some (fJ l), none, some (fI (we.getD p.toNat 0 - 1)), some (fI kk), some (fJ l), none]) (st' := [fJ l, fJ (y1.getD (wg.getD kk.toNat 0).toNat 0), fI (wg.getD kk.toNat 0), .ref b]) (h' := u) (cl' := 0) (sl' := 0) rfl ?_
          refine fw_ladd rfl ?_
          have hl4 : (y1.set (wg.getD kk.toNat 0).toNat ((y1.getD (wg.getD kk.toNat 0).toNat 0) + l)).length = 12 := (List.length_set ..).trans nb
          refine fx_las rfl ub (by omega) (by omega) (by omega) ?_
          intro h_106 e_106 f_106 l_106
          have k_106 := l_106.trans ul
          have fr_106 := hfr_w F f_106 l_106 (by simp <;> omega)
          have g_106_7 := (f_106 7 (by omega)).trans u7
          have g_106_11 := (f_106 11 (by omega)).trans u11
          have g_106_12 := (f_106 12 (by omega)).trans u12
          have g_106_13 := (f_106 13 (by omega)).trans u13
          have g_106_a := (f_106 a (by omega)).trans ua
          have g_106_b : cE h_106 b (.inl (.long, fL (y1.set (wg.getD kk.toNat 0).toNat ((y1.getD (wg.getD kk.toNat 0).toNat 0) + l)))) := e_106
          refine ik_Wk 2 (pc' := 128) (loc' := [some (.ref 7), some (.ref a), some (.ref b), some (fI (pl - 1)), some (fI p), some (fJ l), none, some (fI (we.getD p.toNat 0 - 1)), some (fI kk), some (fJ l), none]) (st' := [fJ l, fJ l]) (h' := h_106) (cl' := 0) (sl' := 0) rfl ?_
          refine fw_lsub rfl ?_
          refine ik_Wk 1 (pc' := 131) (loc' := [some (.ref 7), some (.ref a), some (.ref b), some (fI (pl - 1)), some (fI p), some (fJ (l - l)), none, some (fI (we.getD p.toNat 0 - 1)), some (fI kk), some (fJ l), none]) (st' := []) (h' := h_106) (cl' := 0) (sl' := 0) rfl ?_
          refine fw_inc (a := kk) (loc' := [some (.ref 7), some (.ref a), some (.ref b), some (fI (pl - 1)), some (fI p), some (fJ (l - l)), none, some (fI (we.getD p.toNat 0 - 1)), some (fI (kk + 1)), some (fJ l), none]) rfl rfl (Nat.le_of_ble_eq_true rfl) rfl ?_
          refine ik_Wk 1 (pc' := 65) (loc' := [some (.ref 7), some (.ref a), some (.ref b), some (fI (pl - 1)), some (fI p), some (fJ (l - l)), none, some (fI (we.getD p.toNat 0 - 1)), some (fI (kk + 1)), some (fJ l), none]) (st' := []) (h' := h_106) (cl' := 0) (sl' := 0) rfl ?_
          have ejl : j + 1 = (W p).length := by omega
          have hce := mx_cs_e (L := W p) (j := j + 1) (by omega)
          exact ih (j + 1) (l - l) (kk + 1) (y1.set (wg.getD kk.toNat 0).toNat ((y1.getD (wg.getD kk.toNat 0).toNat 0) + l)) (mf_up T ((W p).getD j (0, 0)).1.toNat (T ((W p).getD j (0, 0)).1.toNat + l)) (some (fJ l)) h_106 g_106_7 g_106_11 n11 g_106_12 n12 g_106_13 n13 g_106_a na g_106_b hl4 k_106 fr_106 (by omega) (by omega) (by omega) (by rw [hce]; omega) (mf_is_a hy hw.1 (by omega) (by omega) (by omega) rfl) (Or.inl ⟨hlp, by rw [hT2, mf_ps_d (by omega), if_pos ejl, mf_ps_e (by omega)]⟩) (by omega)
        · refine ik_Wk 2 (pc' := 94) (loc' := [some (.ref 7), some (.ref a), some (.ref b), some (fI (pl - 1)), some (fI p), some (fJ l), none, some (fI (we.getD p.toNat 0 - 1)), some (fI kk), x9, none]) (st' := [fI p, .ref a]) (h' := u) (cl' := 0) (sl' := 0) rfl ?_
          refine fx_lal rfl ua (by omega) (by omega) (by omega) ?_
          refine ik_Wk 1 (pc' := 96) (loc' := [some (.ref 7), some (.ref a), some (.ref b), some (fI (pl - 1)), some (fI p), some (fJ l), none, some (fI (we.getD p.toNat 0 - 1)), some (fI kk), x9, none]) (st' := [.ref 7, fJ (xs.getD p.toNat 0)]) (h' := u) (cl' := 0) (sl' := 0) rfl ?_
          refine fw_gf rfl rfl u7 rfl ?_
          refine ik_Wk 1 (pc' := 101) (loc' := [some (.ref 7), some (.ref a), some (.ref b), some (fI (pl - 1)), some (fI p), some (fJ l), none, some (fI (we.getD p.toNat 0 - 1)), some (fI kk), x9, none]) (st' := [fI kk, .ref 12, fJ (xs.getD p.toNat 0)]) (h' := u) (cl' := 0) (sl' := 0) rfl ?_
          refine fw_ial rfl u12 (by omega) (by omega) (by omega) ?_
          refine fw_i2l rfl (by omega) (by omega) ?_
          refine fw_lmul rfl ?_
          refine fw_l2 100 rfl rfl (by decide) ?_
          have hmb := mf_mul_b (x := xs.getD p.toNat 0) (c := wc.getD kk.toNat 0) (by omega) (by omega) (by omega) (by omega)
          refine fx_ldiv rfl (by omega) (by omega) (by omega) (by omega) ?_
          refine ik_Wk 3 (pc' := 112) (loc' := [some (.ref 7), some (.ref a), some (.ref b), some (fI (pl - 1)), some (fI p), some (fJ l), none, some (fI (we.getD p.toNat 0 - 1)), some (fI kk), some (fJ (((xs.getD p.toNat 0) * (wc.getD kk.toNat 0)) / 100)), none]) (st' := [.ref 7, .ref b]) (h' := u) (cl' := 0) (sl' := 0) rfl ?_
          refine fw_gf rfl rfl u7 rfl ?_
          refine ik_Wk 1 (pc' := 117) (loc' := [some (.ref 7), some (.ref a), some (.ref b), some (fI (pl - 1)), some (fI p), some (fJ l), none, some (fI (we.getD p.toNat 0 - 1)), some (fI kk), some (fJ (((xs.getD p.toNat 0) * (wc.getD kk.toNat 0)) / 100)), none]) (st' := [fI kk, .ref 11, .ref b]) (h' := u) (cl' := 0) (sl' := 0) rfl ?_
          refine fw_ial rfl u11 (by omega) (by omega) (by omega) ?_
          refine ik_Wk 1 (pc' := 119) (loc' := [some (.ref 7), some (.ref a), some (.ref b), some (fI (pl - 1)), some (fI p), some (fJ l), none, some (fI (we.getD p.toNat 0 - 1)), some (fI kk), some (fJ (((xs.getD p.toNat 0) * (wc.getD kk.toNat 0)) / 100)), none]) (st' := [fI (wg.getD kk.toNat 0), .ref b, fI (wg.getD kk.toNat 0), .ref b]) (h' := u) (cl' := 0) (sl' := 0) rfl ?_
          refine fx_lal rfl ub (by omega) (by omega) (by omega) ?_
          refine ik_Wk 1 (pc' := 122) (loc' := [some (.ref 7), some (.ref a), some (.ref b), some (fI (pl - 1)), some (fI p), some (fJ l), none, some (fI (we.getD p.toNat 0 - 1)), some (fI kk), some (fJ (((xs.getD p.toNat 0) * (wc.getD kk.toNat 0)) / 100)), none]) (st' := [fJ (((xs.getD p.toNat 0) * (wc.getD kk.toNat 0)) / 100), fJ (y1.getD (wg.getD kk.toNat 0).toNat 0), fI (wg.getD kk.toNat 0), .ref b]) (h' := u) (cl' := 0) (sl' := 0) rfl ?_
          refine fw_ladd rfl ?_
          have hl5 : (y1.set (wg.getD kk.toNat 0).toNat ((y1.getD (wg.getD kk.toNat 0).toNat 0) + (((xs.getD p.toNat 0) * (wc.getD kk.toNat 0)) / 100))).length = 12 := (List.length_set ..).trans nb
          refine fx_las rfl ub (by omega) (by omega) (by omega) ?_
          intro h_107 e_107 f_107 l_107
          have k_107 := l_107.trans ul
          have fr_107 := hfr_w F f_107 l_107 (by simp <;> omega)
          have g_107_7 := (f_107 7 (by omega)).trans u7
          have g_107_11 := (f_107 11 (by omega)).trans u11
          have g_107_12 := (f_107 12 (by omega)).trans u12
          have g_107_13 := (f_107 13 (by omega)).trans u13
          have g_107_a := (f_107 a (by omega)).trans ua
          have g_107_b : cE h_107 b (.inl (.long, fL (y1.set (wg.getD kk.toNat 0).toNat ((y1.getD (wg.getD kk.toNat 0).toNat 0) + (((xs.getD p.toNat 0) * (wc.getD kk.toNat 0)) / 100))))) := e_107
          refine ik_Wk 2 (pc' := 128) (loc' := [some (.ref 7), some (.ref a), some (.ref b), some (fI (pl - 1)), some (fI p), some (fJ l), none, some (fI (we.getD p.toNat 0 - 1)), some (fI kk), some (fJ (((xs.getD p.toNat 0) * (wc.getD kk.toNat 0)) / 100)), none]) (st' := [fJ (((xs.getD p.toNat 0) * (wc.getD kk.toNat 0)) / 100), fJ l]) (h' := h_107) (cl' := 0) (sl' := 0) rfl ?_
          refine fw_lsub rfl ?_
          refine ik_Wk 1 (pc' := 131) (loc' := [some (.ref 7), some (.ref a), some (.ref b), some (fI (pl - 1)), some (fI p), some (fJ (l - (((xs.getD p.toNat 0) * (wc.getD kk.toNat 0)) / 100))), none, some (fI (we.getD p.toNat 0 - 1)), some (fI kk), some (fJ (((xs.getD p.toNat 0) * (wc.getD kk.toNat 0)) / 100)), none]) (st' := []) (h' := h_107) (cl' := 0) (sl' := 0) rfl ?_
          refine fw_inc (a := kk) (loc' := [some (.ref 7), some (.ref a), some (.ref b), some (fI (pl - 1)), some (fI p), some (fJ (l - (((xs.getD p.toNat 0) * (wc.getD kk.toNat 0)) / 100))), none, some (fI (we.getD p.toNat 0 - 1)), some (fI (kk + 1)), some (fJ (((xs.getD p.toNat 0) * (wc.getD kk.toNat 0)) / 100)), none]) rfl rfl (Nat.le_of_ble_eq_true rfl) rfl ?_
          refine ik_Wk 1 (pc' := 65) (loc' := [some (.ref 7), some (.ref a), some (.ref b), some (fI (pl - 1)), some (fI p), some (fJ (l - (((xs.getD p.toNat 0) * (wc.getD kk.toNat 0)) / 100))), none, some (fI (we.getD p.toNat 0 - 1)), some (fI (kk + 1)), some (fJ (((xs.getD p.toNat 0) * (wc.getD kk.toNat 0)) / 100)), none]) (st' := []) (h' := h_107) (cl' := 0) (sl' := 0) rfl ?_
          have ejl : ¬ j + 1 = (W p).length := by omega
          have epx : xs.getD p.toNat 0 * wc.getD kk.toNat 0 / 100 = o p.toNat * ((W p).getD j (0, 0)).2 / 100 := by rw [hx, hw.2]
          exact ih (j + 1) (l - (((xs.getD p.toNat 0) * (wc.getD kk.toNat 0)) / 100)) (kk + 1) (y1.set (wg.getD kk.toNat 0).toNat ((y1.getD (wg.getD kk.toNat 0).toNat 0) + (((xs.getD p.toNat 0) * (wc.getD kk.toNat 0)) / 100))) (mf_up T ((W p).getD j (0, 0)).1.toNat (T ((W p).getD j (0, 0)).1.toNat + (o p.toNat * ((W p).getD j (0, 0)).2 / 100))) (some (fJ (((xs.getD p.toNat 0) * (wc.getD kk.toNat 0)) / 100))) h_107 g_107_7 g_107_11 n11 g_107_12 n12 g_107_13 n13 g_107_a na g_107_b hl5 k_107 fr_107 (by omega) (by omega) (by rw [epx]; omega) (by rw [epx]; exact hln.1) (mf_is_a hy hw.1 (by omega) (by omega) (by omega) epx) (Or.inl ⟨hlp, by rw [hT2, mf_ps_d (by omega), if_neg ejl, epx]⟩) (by omega)

theorem cs_flowO {h : List ik_E} {a : Nat} {b : Nat} {pl : Int} {lo : Int} {s : Nat} {wg : List Int} {wc : List Int} {we : List Int} {xs : List Int} {ys : List Int} {o : Nat → Int} {W : Int → List (Int × Int)} (q0 : 1 ≤ pl ∧ pl ≤ 12) (q1 : ∀ x : Int, 0 ≤ x → x < pl - 1 → mx_wy wg wc we x (W x)) (q2 : ∀ x : Int, 0 ≤ x → x < pl - 1 → mx_ok pl (W x)) (q3 : mf_is pl xs o) (q4 : mf_gd pl o) (q5 : 14 < a ∧ a < 94 ∧ 14 < b ∧ b < 94 ∧ ¬ a = b)  : ∀ (k : Nat) (p : Int) (y1 : List Int) (x5 : Option Value) (x7 : Option Value) (x8 : Option Value) (x9 : Option Value) (u : List ik_E) (u7 : cE u 7 (.inr (0, [fI pl, fI ((s : Nat) : Int), fI lo, .ref 8, .ref 9, .ref 10, .ref 11, .ref 12, .ref 13]))) (u11 : cE u 11 (.inl (.int, fA wg))) (n11 : wg.length = 60) (u12 : cE u 12 (.inl (.int, fA wc))) (n12 : wc.length = 60) (u13 : cE u 13 (.inl (.int, fA we))) (n13 : we.length = 12) (ua : cE u a (.inl (.long, fL xs))) (na : xs.length = 12) (ub : cE u b (.inl (.long, fL y1))) (nb : y1.length = 12) (ul : u.length = 94) (F : hfr [b] h u) (hp : 0 ≤ p ∧ p ≤ pl - 1) (hy : mf_is pl y1 (mf_fn W o (pl - 1).toNat p.toNat)) (hk : pl - 1 - p < (k : Int)), ik_G 17 36 [some (.ref 7), some (.ref a), some (.ref b), some (fI (pl - 1)), some (fI p), x5, none, x7, x8, x9, none] [] u (fun rv h' => ∃ (ys' : List Int), rv = [] ∧ cE h' b (.inl (.long, fL ys')) ∧ ys'.length = 12 ∧ (mf_is pl ys' (mf_fl W (pl - 1) o)) ∧ hfr [b] h h') := by
  intro k
  induction k with
  | zero => intro p y1 x5 x7 x8 x9 u u7 u11 n11 u12 n12 u13 n13 ua na ub nb ul F hp hy hk; omega
  | succ k ih =>
    intro p y1 x5 x7 x8 x9 u u7 u11 n11 u12 n12 u13 n13 ua na ub nb ul F hp hy hk
    refine ik_Wk 2 (pc' := 39) (loc' := [some (.ref 7), some (.ref a), some (.ref b), some (fI (pl - 1)), some (fI p), x5, none, x7, x8, x9, none]) (st' := [fI (pl - 1), fI p]) (h' := u) (cl' := 0) (sl' := 0) rfl ?_
    refine fw_ic_ge rfl rfl (by omega) (by omega) (by omega) (by omega) (fun hc1 => ?_) (fun hc1 => ?_)
    · have ep : p = pl - 1 := by omega
      rw [ep] at hy
      exact ik_Wret rfl rfl ⟨_, _, rfl, rfl, rfl, rfl, ⟨y1, rfl, ub, nb, hy, F⟩⟩
    · refine ik_Wk 2 (pc' := 45) (loc' := [some (.ref 7), some (.ref a), some (.ref b), some (fI (pl - 1)), some (fI p), x5, none, x7, x8, x9, none]) (st' := [fI p, .ref a]) (h' := u) (cl' := 0) (sl' := 0) rfl ?_
      refine fx_lal rfl ua (by omega) (by omega) (by omega) ?_
      refine ik_Wk 2 (pc' := 49) (loc' := [some (.ref 7), some (.ref a), some (.ref b), some (fI (pl - 1)), some (fI p), some (fJ (xs.getD p.toNat 0)), none, x7, x8, x9, none]) (st' := [.ref 7]) (h' := u) (cl' := 0) (sl' := 0) rfl ?_
      refine fw_gf rfl rfl u7 rfl ?_
      refine ik_Wk 1 (pc' := 54) (loc' := [some (.ref 7), some (.ref a), some (.ref b), some (fI (pl - 1)), some (fI p), some (fJ (xs.getD p.toNat 0)), none, x7, x8, x9, none]) (st' := [fI p, .ref 13]) (h' := u) (cl' := 0) (sl' := 0) rfl ?_
      refine fw_ial rfl u13 (by omega) (by omega) (by omega) ?_
      refine ik_Wk 1 (pc' := 56) (loc' := [some (.ref 7), some (.ref a), some (.ref b), some (fI (pl - 1)), some (fI p), some (fJ (xs.getD p.toNat 0)), none, x7, x8, x9, none]) (st' := [fI 1, fI (we.getD p.toNat 0)]) (h' := u) (cl' := 0) (sl' := 0) rfl ?_
      refine fw_sub rfl ?_
      refine ik_Wk 3 (pc' := 62) (loc' := [some (.ref 7), some (.ref a), some (.ref b), some (fI (pl - 1)), some (fI p), some (fJ (xs.getD p.toNat 0)), none, some (fI ((we.getD p.toNat 0) - 1)), x8, x9, none]) (st' := [fI 5, fI p]) (h' := u) (cl' := 0) (sl' := 0) rfl ?_
      refine fx_mulc rfl ?_
      refine ik_Wk 1 (pc' := 65) (loc' := [some (.ref 7), some (.ref a), some (.ref b), some (fI (pl - 1)), some (fI p), some (fJ (xs.getD p.toNat 0)), none, some (fI ((we.getD p.toNat 0) - 1)), some (fI (5 * p)), x9, none]) (st' := []) (h' := u) (cl' := 0) (sl' := 0) rfl ?_
      have hok := q2 p (by omega) (by omega)
      have hx := q3 p.toNat (by omega)
      have hb := mf_gd_b q4 p.toNat
      have hfs := mf_fn_s (W := W) (o := o) (br := (pl - 1).toNat) (p := p) (by omega)
      have hT : (0 < o p.toNat ∧ mf_fn W o (pl - 1).toNat (p + 1).toNat = mf_ps ((W p).drop 0) (o p.toNat) (xs.getD p.toNat 0) (mf_fn W o (pl - 1).toNat p.toNat)) ∨ (o p.toNat = 0 ∧ mf_fn W o (pl - 1).toNat (p + 1).toNat = mf_fn W o (pl - 1).toNat p.toNat) := by
        by_cases q : 0 < o p.toNat
        · rw [if_pos q] at hfs; exact Or.inl ⟨q, by rw [hfs, hx, List.drop_zero]⟩
        · rw [if_neg q] at hfs; exact Or.inr ⟨by omega, hfs⟩
      refine cs_flowI (a := a) (b := b) (pl := pl) (lo := lo) (s := s) (wg := wg) (wc := wc) (we := we) (xs := xs) (ys := ys) (o := o) (W := W) q0 q1 q2 q3 q4 q5 p (by omega) (R := (fun rv h' => ∃ (ys' : List Int), rv = [] ∧ cE h' b (.inl (.long, fL ys')) ∧ ys'.length = 12 ∧ (mf_is pl ys' (mf_fl W (pl - 1) o)) ∧ hfr [b] h h')) (fun h_108 y2_108 l2_108 k2_108 x9_108 g_108_7 g_108_11 m_108_11 g_108_12 m_108_12 g_108_13 m_108_13 g_108_a m_108_a g_108_b m_108_b k_108 fr_108 hy2_108 => ?_) ((W p).length + 1) 0 (xs.getD p.toNat 0) (5 * p) y1 (mf_fn W o (pl - 1).toNat p.toNat) x9 u u7 u11 n11 u12 n12 u13 n13 ua na ub nb ul F (by omega) (by omega) (by omega) (by rw [List.drop_zero, hok.2.1, hx]; omega) hy hT (by omega)
      refine fw_inc (a := p) (loc' := [some (.ref 7), some (.ref a), some (.ref b), some (fI (pl - 1)), some (fI (p + 1)), some (fJ l2_108), none, some (fI (we.getD p.toNat 0 - 1)), some (fI k2_108), x9_108, none]) rfl rfl (Nat.le_of_ble_eq_true rfl) rfl ?_
      refine ik_Wk 1 (pc' := 36) (loc' := [some (.ref 7), some (.ref a), some (.ref b), some (fI (pl - 1)), some (fI (p + 1)), some (fJ l2_108), none, some (fI (we.getD p.toNat 0 - 1)), some (fI k2_108), x9_108, none]) (st' := []) (h' := h_108) (cl' := 0) (sl' := 0) rfl ?_
      exact ih  (p + 1) y2_108 (some (fJ l2_108)) (some (fI (we.getD p.toNat 0 - 1))) (some (fI k2_108)) x9_108 h_108 g_108_7 g_108_11 m_108_11 g_108_12 m_108_12 g_108_13 m_108_13 g_108_a m_108_a g_108_b m_108_b k_108 fr_108 (by omega) hy2_108 (by omega)

theorem cs_flowZ {h : List ik_E} {a : Nat} {b : Nat} {pl : Int} {lo : Int} {s : Nat} {wg : List Int} {wc : List Int} {we : List Int} {xs : List Int} {ys : List Int} {o : Nat → Int} {W : Int → List (Int × Int)} (q0 : 1 ≤ pl ∧ pl ≤ 12) (q1 : ∀ x : Int, 0 ≤ x → x < pl - 1 → mx_wy wg wc we x (W x)) (q2 : ∀ x : Int, 0 ≤ x → x < pl - 1 → mx_ok pl (W x)) (q3 : mf_is pl xs o) (q4 : mf_gd pl o) (q5 : 14 < a ∧ a < 94 ∧ 14 < b ∧ b < 94 ∧ ¬ a = b)  : ∀ (k : Nat) (p : Int) (y1 : List Int) (u : List ik_E) (u7 : cE u 7 (.inr (0, [fI pl, fI ((s : Nat) : Int), fI lo, .ref 8, .ref 9, .ref 10, .ref 11, .ref 12, .ref 13]))) (u11 : cE u 11 (.inl (.int, fA wg))) (n11 : wg.length = 60) (u12 : cE u 12 (.inl (.int, fA wc))) (n12 : wc.length = 60) (u13 : cE u 13 (.inl (.int, fA we))) (n13 : we.length = 12) (ua : cE u a (.inl (.long, fL xs))) (na : xs.length = 12) (ub : cE u b (.inl (.long, fL y1))) (nb : y1.length = 12) (ul : u.length = 94) (F : hfr [b] h u) (hp : 0 ≤ p ∧ p ≤ pl - 1) (hy : mf_is p y1 (fun _ => 0)) (hk : pl - 1 - p < (k : Int)), ik_G 17 10 [some (.ref 7), some (.ref a), some (.ref b), some (fI (pl - 1)), some (fI p), none, none, none, none, none, none] [] u (fun rv h' => ∃ (ys' : List Int), rv = [] ∧ cE h' b (.inl (.long, fL ys')) ∧ ys'.length = 12 ∧ (mf_is pl ys' (mf_fl W (pl - 1) o)) ∧ hfr [b] h h') := by
  intro k
  induction k with
  | zero => intro p y1 u u7 u11 n11 u12 n12 u13 n13 ua na ub nb ul F hp hy hk; omega
  | succ k ih =>
    intro p y1 u u7 u11 n11 u12 n12 u13 n13 ua na ub nb ul F hp hy hk
    refine ik_Wk 2 (pc' := 13) (loc' := [some (.ref 7), some (.ref a), some (.ref b), some (fI (pl - 1)), some (fI p), none, none, none, none, none, none]) (st' := [fI (pl - 1), fI p]) (h' := u) (cl' := 0) (sl' := 0) rfl ?_
    refine fw_ic_ge rfl rfl (by omega) (by omega) (by omega) (by omega) (fun hc1 => ?_) (fun hc1 => ?_)
    · refine ik_Wk 4 (pc' := 31) (loc' := [some (.ref 7), some (.ref a), some (.ref b), some (fI (pl - 1)), some (fI p), none, none, none, none, none, none]) (st' := [fI (pl - 1), .ref a, fI (pl - 1), .ref b]) (h' := u) (cl' := 0) (sl' := 0) rfl ?_
      refine fx_lal rfl ua (by omega) (by omega) (by omega) ?_
      have hl2 : (y1.set (pl - 1).toNat (xs.getD (pl - 1).toNat 0)).length = 12 := (List.length_set ..).trans nb
      refine fx_las rfl ub (by omega) (by omega) (by omega) ?_
      intro h_109 e_109 f_109 l_109
      have k_109 := l_109.trans ul
      have fr_109 := hfr_w F f_109 l_109 (by simp <;> omega)
      have g_109_7 := (f_109 7 (by omega)).trans u7
      have g_109_11 := (f_109 11 (by omega)).trans u11
      have g_109_12 := (f_109 12 (by omega)).trans u12
      have g_109_13 := (f_109 13 (by omega)).trans u13
      have g_109_a := (f_109 a (by omega)).trans ua
      have g_109_b : cE h_109 b (.inl (.long, fL (y1.set (pl - 1).toNat (xs.getD (pl - 1).toNat 0)))) := e_109
      refine ik_Wk 2 (pc' := 36) (loc' := [some (.ref 7), some (.ref a), some (.ref b), some (fI (pl - 1)), some (fI 0), none, none, none, none, none, none]) (st' := []) (h' := h_109) (cl' := 0) (sl' := 0) rfl ?_
      have ep : p = pl - 1 := by omega
      rw [ep] at hy
      exact cs_flowO (a := a) (b := b) (pl := pl) (lo := lo) (s := s) (wg := wg) (wc := wc) (we := we) (xs := xs) (ys := ys) (o := o) (W := W) q0 q1 q2 q3 q4 q5  pl.toNat 0 (y1.set (pl - 1).toNat (xs.getD (pl - 1).toNat 0)) none none none none h_109 g_109_7 g_109_11 n11 g_109_12 n12 g_109_13 n13 g_109_a na g_109_b hl2 k_109 fr_109 (by omega) (mf_is_b hy (by omega) q3 (by omega)) (by omega)
    · refine ik_Wk 2 (pc' := 19) (loc' := [some (.ref 7), some (.ref a), some (.ref b), some (fI (pl - 1)), some (fI p), none, none, none, none, none, none]) (st' := [fI p, .ref b]) (h' := u) (cl' := 0) (sl' := 0) rfl ?_
      refine fw_lc (z := 0) rfl (by decide) ?_
      have hl3 : (y1.set p.toNat 0).length = 12 := (List.length_set ..).trans nb
      refine fx_las rfl ub (by omega) (by omega) (by omega) ?_
      intro h_110 e_110 f_110 l_110
      have k_110 := l_110.trans ul
      have fr_110 := hfr_w F f_110 l_110 (by simp <;> omega)
      have g_110_7 := (f_110 7 (by omega)).trans u7
      have g_110_11 := (f_110 11 (by omega)).trans u11
      have g_110_12 := (f_110 12 (by omega)).trans u12
      have g_110_13 := (f_110 13 (by omega)).trans u13
      have g_110_a := (f_110 a (by omega)).trans ua
      have g_110_b : cE h_110 b (.inl (.long, fL (y1.set p.toNat 0))) := e_110
      refine fw_inc (a := p) (loc' := [some (.ref 7), some (.ref a), some (.ref b), some (fI (pl - 1)), some (fI (p + 1)), none, none, none, none, none, none]) rfl rfl (Nat.le_of_ble_eq_true rfl) rfl ?_
      refine ik_Wk 1 (pc' := 10) (loc' := [some (.ref 7), some (.ref a), some (.ref b), some (fI (pl - 1)), some (fI (p + 1)), none, none, none, none, none, none]) (st' := []) (h' := h_110) (cl' := 0) (sl' := 0) rfl ?_
      exact ih  (p + 1) (y1.set p.toNat 0) h_110 g_110_7 g_110_11 n11 g_110_12 n12 g_110_13 n13 g_110_a na g_110_b hl3 k_110 fr_110 (by omega) (mf_is_x hy (by omega) (by omega) rfl) (by omega)

theorem cs_flow {h : List ik_E} {a : Nat} {b : Nat} {pl : Int} {lo : Int} {s : Nat} {wg : List Int} {wc : List Int} {we : List Int} {xs : List Int} {ys : List Int} {o : Nat → Int} {W : Int → List (Int × Int)} (q0 : 1 ≤ pl ∧ pl ≤ 12) (q1 : ∀ x : Int, 0 ≤ x → x < pl - 1 → mx_wy wg wc we x (W x)) (q2 : ∀ x : Int, 0 ≤ x → x < pl - 1 → mx_ok pl (W x)) (q3 : mf_is pl xs o) (q4 : mf_gd pl o) (q5 : 14 < a ∧ a < 94 ∧ 14 < b ∧ b < 94 ∧ ¬ a = b) (h7 : cE h 7 (.inr (0, [fI pl, fI ((s : Nat) : Int), fI lo, .ref 8, .ref 9, .ref 10, .ref 11, .ref 12, .ref 13]))) (h11 : cE h 11 (.inl (.int, fA wg))) (n11 : wg.length = 60) (h12 : cE h 12 (.inl (.int, fA wc))) (n12 : wc.length = 60) (h13 : cE h 13 (.inl (.int, fA we))) (n13 : we.length = 12) (ha : cE h a (.inl (.long, fL xs))) (na : xs.length = 12) (hb : cE h b (.inl (.long, fL ys))) (nb : ys.length = 12) (hl : h.length = 94) : ik_F 17 [.ref 7, .ref a, .ref b] h (fun rv h' => ∃ (ys' : List Int), rv = [] ∧ cE h' b (.inl (.long, fL ys')) ∧ ys'.length = 12 ∧ (mf_is pl ys' (mf_fl W (pl - 1) o)) ∧ hfr [b] h h') := by
  refine ik_Wk 1 (pc' := 1) (loc' := [some (.ref 7), some (.ref a), some (.ref b), none, none, none, none, none, none, none, none]) (st' := [.ref 7]) (h' := h) (cl' := 0) (sl' := 0) rfl ?_
  refine fw_gf rfl rfl h7 rfl ?_
  refine ik_Wk 1 (pc' := 5) (loc' := [some (.ref 7), some (.ref a), some (.ref b), none, none, none, none, none, none, none, none]) (st' := [fI 1, fI pl]) (h' := h) (cl' := 0) (sl' := 0) rfl ?_
  refine fw_sub rfl ?_
  refine ik_Wk 3 (pc' := 10) (loc' := [some (.ref 7), some (.ref a), some (.ref b), some (fI (pl - 1)), some (fI 0), none, none, none, none, none, none]) (st' := []) (h' := h) (cl' := 0) (sl' := 0) rfl ?_
  exact cs_flowZ (a := a) (b := b) (pl := pl) (lo := lo) (s := s) (wg := wg) (wc := wc) (we := we) (xs := xs) (ys := ys) (o := o) (W := W) q0 q1 q2 q3 q4 q5  (pl.toNat + 1) 0 ys h h7 h11 n11 h12 n12 h13 n13 ha na hb nb hl (hfr_refl [b] h) (by omega) (mf_is_0 (by omega)) (by omega)

theorem cr_flowI {h : List ik_E} {pl : Int} {f : Nat → Int} {s : Nat} {cn : List Int} {go : List Int} {ch : List Int} {gt : List Int} {gd : List Int} {xs : List Int} {ys : List Int} {o : Nat → Int} (q0 : 1 ≤ pl ∧ pl ≤ 12) (q1 : s < 4096) (q2 : ∀ x : Int, 0 ≤ x → x < pl - 1 → 0 ≤ cn.getD x.toNat 0 ∧ cn.getD x.toNat 0 ≤ 4) (q3 : ∀ x : Int, 0 ≤ x → x < pl - 1 → 1 ≤ cn.getD x.toNat 0 ∧ ∀ j : Int, 4 * x ≤ j → j < 4 * x + cn.getD x.toNat 0 → 0 ≤ ch.getD j.toNat 0 ∧ ch.getD j.toNat 0 ≤ 100) (q4 : ∀ x : Int, 0 ≤ x → x < pl - 1 → mx_ok pl (mx_w cn go ch s x)) (q5 : mf_is pl xs o) (q6 : mf_gd pl o) (p : Int) (hp : 0 ≤ p ∧ p < pl - 1) (hlp : 0 < o p.toNat) (g1 : List Int) (d1 : List Int) (hat : mx_at 0 (mx_w cn go ch s p) g1 d1 (mx_w cn go ch s p).length) {R : List Value → List ik_E → Prop} (K : ∀ (w : List ik_E) (y2 : List Int) (l2 : Int) (i2 : Int) (x5 : Option Value) (w66 : cE w 66 (.inr (10, [fI pl, .ref 67, .ref 68, .ref 69, fI ((s : Nat) : Int), .ref 70, .ref 71, fI (f 7), fI (f 8), .ref 72, fI (f 10), fI (f 11), fI (f 12), fJ (f 13), fI (f 14), fI (f 15), fI (f 16), fI (f 17), .ref 73, .ref 74, .ref 75, .ref 76, .ref 77, .ref 78, fI ((mx_w cn go ch s p).length : Int), .ref 79, .ref 80, .ref 81, .ref 82, .ref 83, .ref 84, .ref 85, fJ (f 32), fJ (f 33), .ref 86, .ref 87, fI (f 36), .ref 88, .ref 89, .ref 90, .ref 91, .ref 92, .ref 93]))) (w67 : cE w 67 (.inl (.int, fA cn))) (nw_67 : cn.length = 12) (w68 : cE w 68 (.inl (.int, fA go))) (nw_68 : go.length = 48) (w69 : cE w 69 (.inl (.int, fA ch))) (nw_69 : ch.length = 48) (w77 : cE w 77 (.inl (.int, fA g1))) (nw_77 : g1.length = 5) (w78 : cE w 78 (.inl (.int, fA d1))) (nw_78 : d1.length = 5) (w79 : cE w 79 (.inl (.long, fL xs))) (nw_79 : xs.length = 12) (w80 : cE w 80 (.inl (.long, fL y2))) (nw_80 : y2.length = 12) (wl : w.length = 94) (F : hfr [66, 77, 78, 79, 80] h w) (hy2 : mf_is pl y2 (mf_fn (fun x => mx_w cn go ch s x) o (pl - 1).toNat (p + 1).toNat)) (w5 : ik_wl 94 x5 = true), ik_G 153 151 [some (.ref 66), some (fI p), some (fJ l2), none, some (fI i2), x5, none] [] w R) : ∀ (k : Nat) (j : Nat) (l : Int) (i : Int) (y1 : List Int) (T : Nat → Int) (x5 : Option Value) (u : List ik_E) (u66 : cE u 66 (.inr (10, [fI pl, .ref 67, .ref 68, .ref 69, fI ((s : Nat) : Int), .ref 70, .ref 71, fI (f 7), fI (f 8), .ref 72, fI (f 10), fI (f 11), fI (f 12), fJ (f 13), fI (f 14), fI (f 15), fI (f 16), fI (f 17), .ref 73, .ref 74, .ref 75, .ref 76, .ref 77, .ref 78, fI ((mx_w cn go ch s p).length : Int), .ref 79, .ref 80, .ref 81, .ref 82, .ref 83, .ref 84, .ref 85, fJ (f 32), fJ (f 33), .ref 86, .ref 87, fI (f 36), .ref 88, .ref 89, .ref 90, .ref 91, .ref 92, .ref 93]))) (u67 : cE u 67 (.inl (.int, fA cn))) (n67 : cn.length = 12) (u68 : cE u 68 (.inl (.int, fA go))) (n68 : go.length = 48) (u69 : cE u 69 (.inl (.int, fA ch))) (n69 : ch.length = 48) (u77 : cE u 77 (.inl (.int, fA g1))) (n77 : g1.length = 5) (u78 : cE u 78 (.inl (.int, fA d1))) (n78 : d1.length = 5) (u79 : cE u 79 (.inl (.long, fL xs))) (n79 : xs.length = 12) (u80 : cE u 80 (.inl (.long, fL y1))) (n80 : y1.length = 12) (ul : u.length = 94) (F : hfr [66, 77, 78, 79, 80] h u) (hj : j ≤ (mx_w cn go ch s p).length) (hi : i = (j : Int)) (hl0 : 0 ≤ l ∧ l ≤ o p.toNat) (hlc : o p.toNat * mx_cs ((mx_w cn go ch s p).drop j) ≤ 100 * l) (hy : mf_is pl y1 T) (hT : mf_fn (fun x => mx_w cn go ch s x) o (pl - 1).toNat (p + 1).toNat = mf_ps ((mx_w cn go ch s p).drop j) (o p.toNat) l T) (w5 : ik_wl 94 x5 = true) (hk : ((mx_w cn go ch s p).length : Int) - (j : Int) < (k : Int)), ik_G 153 78 [some (.ref 66), some (fI p), some (fJ l), none, some (fI i), x5, none] [] u R := by
  intro k
  induction k with
  | zero => intro j l i y1 T x5 u u66 u67 n67 u68 n68 u69 n69 u77 n77 u78 n78 u79 n79 u80 n80 ul F hj hi hl0 hlc hy hT w5 hk; omega
  | succ k ih =>
    intro j l i y1 T x5 u u66 u67 n67 u68 n68 u69 n69 u77 n77 u78 n78 u79 n79 u80 n80 ul F hj hi hl0 hlc hy hT w5 hk
    have hok := q4 p (by omega) (by omega)
    obtain ⟨o1, o2, o3⟩ := hok
    have hx := q5 p.toNat (by omega)
    have hb := mf_gd_b q6 p.toNat
    refine ik_Wk 2 (pc' := 81) (loc' := [some (.ref 66), some (fI p), some (fJ l), none, some (fI i), x5, none]) (st' := [.ref 66, fI i]) (h' := u) (cl' := 0) (sl' := 0) rfl ?_
    refine fw_gf rfl rfl u66 rfl ?_
    refine fw_ic_ge rfl rfl (by omega) (by omega) (by omega) (by omega) (fun hc1 => ?_) (fun hc1 => ?_)
    · exact K u y1 l i x5 u66 u67 n67 u68 n68 u69 n69 u77 n77 u78 n78 u79 n79 u80 n80 ul F (by rw [hT, mf_ps_e (by omega)]; exact hy) w5
    · refine ik_Wk 2 (pc' := 90) (loc' := [some (.ref 66), some (fI p), some (fJ l), none, some (fI i), x5, none]) (st' := [.ref 66, fI i]) (h' := u) (cl' := 0) (sl' := 0) rfl ?_
      refine fw_gf rfl rfl u66 rfl ?_
      refine ik_Wk 1 (pc' := 94) (loc' := [some (.ref 66), some (fI p), some (fJ l), none, some (fI i), x5, none]) (st' := [fI 1, fI ((mx_w cn go ch s p).length : Int), fI i]) (h' := u) (cl' := 0) (sl' := 0) rfl ?_
      refine fw_sub rfl ?_
      have ej : i.toNat = 0 + j := by omega
      have hw := hat j (by omega)
      rw [← ej] at hw
      have hq := o3 j (by omega)
      have hln := mf_left_n (l := l) ⟨o1, o2, o3⟩ (Int.le_of_lt hlp) (show j < (mx_w cn go ch s p).length by omega) hlc
      refine fw_ic_ne rfl rfl (by omega) (by omega) (by omega) (by omega) (fun hc2 => ?_) (fun hc2 => ?_)
      · refine ik_Wk 4 (pc' := 124) (loc' := [some (.ref 66), some (fI p), some (fJ l), none, some (fI i), some (fJ l), none]) (st' := [.ref 66]) (h' := u) (cl' := 0) (sl' := 0) rfl ?_
        refine fw_gf rfl rfl u66 rfl ?_
        refine ik_Wk 1 (pc' := 128) (loc' := [some (.ref 66), some (fI p), some (fJ l), none, some (fI i), some (fJ l), none]) (st' := [.ref 66, .ref 80]) (h' := u) (cl' := 0) (sl' := 0) rfl ?_
        refine fw_gf rfl rfl u66 rfl ?_
        refine ik_Wk 1 (pc' := 133) (loc' := [some (.ref 66), some (fI p), some (fJ l), none, some (fI i), some (fJ l), none]) (st' := [fI i, .ref 77, .ref 80]) (h' := u) (cl' := 0) (sl' := 0) rfl ?_
        refine fw_ial rfl u77 (by omega) (by omega) (by omega) ?_
        refine ik_Wk 1 (pc' := 135) (loc' := [some (.ref 66), some (fI p), some (fJ l), none, some (fI i), some (fJ l), none]) (st' := [fI (g1.getD i.toNat 0), .ref 80, fI (g1.getD i.toNat 0), .ref 80]) (h' := u) (cl' := 0) (sl' := 0) rfl ?_
        refine fx_lal rfl u80 (by omega) (by omega) (by omega) ?_
        refine ik_Wk 1 (pc' := 138) (loc' := [some (.ref 66), some (fI p), some (fJ l), none, some (fI i), some (fJ l), none]) (st' := [fJ l, fJ (y1.getD (g1.getD i.toNat 0).toNat 0), fI (g1.getD i.toNat 0), .ref 80]) (h' := u) (cl' := 0) (sl' := 0) rfl ?_
        refine fw_ladd rfl ?_
        have hl3 : (y1.set (g1.getD i.toNat 0).toNat ((y1.getD (g1.getD i.toNat 0).toNat 0) + l)).length = 12 := (List.length_set ..).trans n80
        refine fx_las rfl u80 (by omega) (by omega) (by omega) ?_
        intro h_111 e_111 f_111 l_111
        have k_111 := l_111.trans ul
        have fr_111 := hfr_w F f_111 l_111 (by decide)
        have g_111_66 := (f_111 66 (by decide)).trans u66
        have g_111_67 := (f_111 67 (by decide)).trans u67
        have g_111_68 := (f_111 68 (by decide)).trans u68
        have g_111_69 := (f_111 69 (by decide)).trans u69
        have g_111_77 := (f_111 77 (by decide)).trans u77
        have g_111_78 := (f_111 78 (by decide)).trans u78
        have g_111_79 := (f_111 79 (by decide)).trans u79
        have g_111_80 : cE h_111 80 (.inl (.long, fL (y1.set (g1.getD i.toNat 0).toNat ((y1.getD (g1.getD i.toNat 0).toNat 0) + l)))) := e_111
        refine ik_Wk 2 (pc' := 143) (loc' := [some (.ref 66), some (fI p), some (fJ l), none, some (fI i), some (fJ l), none]) (st' := [fJ l, fJ l]) (h' := h_111) (cl' := 0) (sl' := 0) rfl ?_
        refine fw_lsub rfl ?_
        refine ik_Wk 1 (pc' := 145) (loc' := [some (.ref 66), some (fI p), some (fJ (l - l)), none, some (fI i), some (fJ l), none]) (st' := []) (h' := h_111) (cl' := 0) (sl' := 0) rfl ?_
        refine fw_inc (a := i) (loc' := [some (.ref 66), some (fI p), some (fJ (l - l)), none, some (fI (i + 1)), some (fJ l), none]) rfl rfl (Nat.le_of_ble_eq_true rfl) rfl ?_
        refine ik_Wk 1 (pc' := 78) (loc' := [some (.ref 66), some (fI p), some (fJ (l - l)), none, some (fI (i + 1)), some (fJ l), none]) (st' := []) (h' := h_111) (cl' := 0) (sl' := 0) rfl ?_
        have ejl : j + 1 = (mx_w cn go ch s p).length := by omega
        have hce := mx_cs_e (L := (mx_w cn go ch s p)) (j := j + 1) (by omega)
        exact ih (j + 1) (l - l) (i + 1) (y1.set (g1.getD i.toNat 0).toNat ((y1.getD (g1.getD i.toNat 0).toNat 0) + l)) (mf_up T ((mx_w cn go ch s p).getD j (0, 0)).1.toNat (T ((mx_w cn go ch s p).getD j (0, 0)).1.toNat + l)) (some (fJ l)) h_111 g_111_66 g_111_67 n67 g_111_68 n68 g_111_69 n69 g_111_77 n77 g_111_78 n78 g_111_79 n79 g_111_80 hl3 k_111 fr_111 (by omega) (by omega) (by omega) (by rw [hce]; omega) (mf_is_a hy hw.1 (by omega) (by omega) (by omega) rfl) (by rw [hT, mf_ps_d (by omega), if_pos ejl, mf_ps_e (by omega)]) rfl (by omega)
      · refine ik_Wk 1 (pc' := 103) (loc' := [some (.ref 66), some (fI p), some (fJ l), none, some (fI i), x5, none]) (st' := [.ref 66]) (h' := u) (cl' := 0) (sl' := 0) rfl ?_
        refine fw_gf rfl rfl u66 rfl ?_
        refine ik_Wk 1 (pc' := 107) (loc' := [some (.ref 66), some (fI p), some (fJ l), none, some (fI i), x5, none]) (st' := [fI p, .ref 79]) (h' := u) (cl' := 0) (sl' := 0) rfl ?_
        refine fx_lal rfl u79 (by omega) (by omega) (by omega) ?_
        refine ik_Wk 1 (pc' := 109) (loc' := [some (.ref 66), some (fI p), some (fJ l), none, some (fI i), x5, none]) (st' := [.ref 66, fJ (xs.getD p.toNat 0)]) (h' := u) (cl' := 0) (sl' := 0) rfl ?_
        refine fw_gf rfl rfl u66 rfl ?_
        refine ik_Wk 1 (pc' := 114) (loc' := [some (.ref 66), some (fI p), some (fJ l), none, some (fI i), x5, none]) (st' := [fI i, .ref 78, fJ (xs.getD p.toNat 0)]) (h' := u) (cl' := 0) (sl' := 0) rfl ?_
        refine fw_ial rfl u78 (by omega) (by omega) (by omega) ?_
        refine fw_i2l rfl (by omega) (by omega) ?_
        refine fw_lmul rfl ?_
        refine fw_l2 100 rfl rfl (by decide) ?_
        have hmb := mf_mul_b (x := xs.getD p.toNat 0) (c := d1.getD i.toNat 0) (by omega) (by omega) (by omega) (by omega)
        refine fx_ldiv rfl (by omega) (by omega) (by omega) (by omega) ?_
        refine ik_Wk 2 (pc' := 124) (loc' := [some (.ref 66), some (fI p), some (fJ l), none, some (fI i), some (fJ (((xs.getD p.toNat 0) * (d1.getD i.toNat 0)) / 100)), none]) (st' := [.ref 66]) (h' := u) (cl' := 0) (sl' := 0) rfl ?_
        refine fw_gf rfl rfl u66 rfl ?_
        refine ik_Wk 1 (pc' := 128) (loc' := [some (.ref 66), some (fI p), some (fJ l), none, some (fI i), some (fJ (((xs.getD p.toNat 0) * (d1.getD i.toNat 0)) / 100)), none]) (st' := [.ref 66, .ref 80]) (h' := u) (cl' := 0) (sl' := 0) rfl ?_
        refine fw_gf rfl rfl u66 rfl ?_
        refine ik_Wk 1 (pc' := 133) (loc' := [some (.ref 66), some (fI p), some (fJ l), none, some (fI i), some (fJ (((xs.getD p.toNat 0) * (d1.getD i.toNat 0)) / 100)), none]) (st' := [fI i, .ref 77, .ref 80]) (h' := u) (cl' := 0) (sl' := 0) rfl ?_
        refine fw_ial rfl u77 (by omega) (by omega) (by omega) ?_
        refine ik_Wk 1 (pc' := 135) (loc' := [some (.ref 66), some (fI p), some (fJ l), none, some (fI i), some (fJ (((xs.getD p.toNat 0) * (d1.getD i.toNat 0)) / 100)), none]) (st' := [fI (g1.getD i.toNat 0), .ref 80, fI (g1.getD i.toNat 0), .ref 80]) (h' := u) (cl' := 0) (sl' := 0) rfl ?_
        refine fx_lal rfl u80 (by omega) (by omega) (by omega) ?_
        refine ik_Wk 1 (pc' := 138) (loc' := [some (.ref 66), some (fI p), some (fJ l), none, some (fI i), some (fJ (((xs.getD p.toNat 0) * (d1.getD i.toNat 0)) / 100)), none]) (st' := [fJ (((xs.getD p.toNat 0) * (d1.getD i.toNat 0)) / 100), fJ (y1.getD (g1.getD i.toNat 0).toNat 0), fI (g1.getD i.toNat 0), .ref 80]) (h' := u) (cl' := 0) (sl' := 0) rfl ?_
        refine fw_ladd rfl ?_
        have hl4 : (y1.set (g1.getD i.toNat 0).toNat ((y1.getD (g1.getD i.toNat 0).toNat 0) + (((xs.getD p.toNat 0) * (d1.getD i.toNat 0)) / 100))).length = 12 := (List.length_set ..).trans n80
        refine fx_las rfl u80 (by omega) (by omega) (by omega) ?_
        intro h_112 e_112 f_112 l_112
        have k_112 := l_112.trans ul
        have fr_112 := hfr_w F f_112 l_112 (by decide)
        have g_112_66 := (f_112 66 (by decide)).trans u66
        have g_112_67 := (f_112 67 (by decide)).trans u67
        have g_112_68 := (f_112 68 (by decide)).trans u68
        have g_112_69 := (f_112 69 (by decide)).trans u69
        have g_112_77 := (f_112 77 (by decide)).trans u77
        have g_112_78 := (f_112 78 (by decide)).trans u78
        have g_112_79 := (f_112 79 (by decide)).trans u79
        have g_112_80 : cE h_112 80 (.inl (.long, fL (y1.set (g1.getD i.toNat 0).toNat ((y1.getD (g1.getD i.toNat 0).toNat 0) + (((xs.getD p.toNat 0) * (d1.getD i.toNat 0)) / 100))))) := e_112
        refine ik_Wk 2 (pc' := 143) (loc' := [some (.ref 66), some (fI p), some (fJ l), none, some (fI i), some (fJ (((xs.getD p.toNat 0) * (d1.getD i.toNat 0)) / 100)), none]) (st' := [fJ (((xs.getD p.toNat 0) * (d1.getD i.toNat 0)) / 100), fJ l]) (h' := h_112) (cl' := 0) (sl' := 0) rfl ?_
        refine fw_lsub rfl ?_
        refine ik_Wk 1 (pc' := 145) (loc' := [some (.ref 66), some (fI p), some (fJ (l - (((xs.getD p.toNat 0) * (d1.getD i.toNat 0)) / 100))), none, some (fI i), some (fJ (((xs.getD p.toNat 0) * (d1.getD i.toNat 0)) / 100)), none]) (st' := []) (h' := h_112) (cl' := 0) (sl' := 0) rfl ?_
        refine fw_inc (a := i) (loc' := [some (.ref 66), some (fI p), some (fJ (l - (((xs.getD p.toNat 0) * (d1.getD i.toNat 0)) / 100))), none, some (fI (i + 1)), some (fJ (((xs.getD p.toNat 0) * (d1.getD i.toNat 0)) / 100)), none]) rfl rfl (Nat.le_of_ble_eq_true rfl) rfl ?_
        refine ik_Wk 1 (pc' := 78) (loc' := [some (.ref 66), some (fI p), some (fJ (l - (((xs.getD p.toNat 0) * (d1.getD i.toNat 0)) / 100))), none, some (fI (i + 1)), some (fJ (((xs.getD p.toNat 0) * (d1.getD i.toNat 0)) / 100)), none]) (st' := []) (h' := h_112) (cl' := 0) (sl' := 0) rfl ?_
        have ejl : ¬ j + 1 = (mx_w cn go ch s p).length := by omega
        have epx : xs.getD p.toNat 0 * d1.getD i.toNat 0 / 100 = o p.toNat * ((mx_w cn go ch s p).getD j (0, 0)).2 / 100 := by rw [hx, hw.2]
        exact ih (j + 1) (l - (((xs.getD p.toNat 0) * (d1.getD i.toNat 0)) / 100)) (i + 1) (y1.set (g1.getD i.toNat 0).toNat ((y1.getD (g1.getD i.toNat 0).toNat 0) + (((xs.getD p.toNat 0) * (d1.getD i.toNat 0)) / 100))) (mf_up T ((mx_w cn go ch s p).getD j (0, 0)).1.toNat (T ((mx_w cn go ch s p).getD j (0, 0)).1.toNat + (o p.toNat * ((mx_w cn go ch s p).getD j (0, 0)).2 / 100))) (some (fJ (((xs.getD p.toNat 0) * (d1.getD i.toNat 0)) / 100))) h_112 g_112_66 g_112_67 n67 g_112_68 n68 g_112_69 n69 g_112_77 n77 g_112_78 n78 g_112_79 n79 g_112_80 hl4 k_112 fr_112 (by omega) (by omega) (by rw [epx]; omega) (by rw [epx]; exact hln.1) (mf_is_a hy hw.1 (by omega) (by omega) (by omega) epx) (by rw [hT, mf_ps_d (by omega), if_neg ejl, epx]) rfl (by omega)

theorem cr_flowC {h : List ik_E} {pl : Int} {f : Nat → Int} {s : Nat} {cn : List Int} {go : List Int} {ch : List Int} {gt : List Int} {gd : List Int} {xs : List Int} {ys : List Int} {o : Nat → Int} (q0 : 1 ≤ pl ∧ pl ≤ 12) (q1 : s < 4096) (q2 : ∀ x : Int, 0 ≤ x → x < pl - 1 → 0 ≤ cn.getD x.toNat 0 ∧ cn.getD x.toNat 0 ≤ 4) (q3 : ∀ x : Int, 0 ≤ x → x < pl - 1 → 1 ≤ cn.getD x.toNat 0 ∧ ∀ j : Int, 4 * x ≤ j → j < 4 * x + cn.getD x.toNat 0 → 0 ≤ ch.getD j.toNat 0 ∧ ch.getD j.toNat 0 ≤ 100) (q4 : ∀ x : Int, 0 ≤ x → x < pl - 1 → mx_ok pl (mx_w cn go ch s x)) (q5 : mf_is pl xs o) (q6 : mf_gd pl o) {w1 : Int} {g1 d1 y1 : List Int} (hy : mf_is pl y1 (mf_fn (fun x => mx_w cn go ch s x) o (pl - 1).toNat (pl - 1).toNat)) : ∀ (k : Nat) (p : Int) (x1 : List Int) (x2 : Option Value) (x4 : Option Value) (x5 : Option Value) (u : List ik_E) (u66 : cE u 66 (.inr (10, [fI pl, .ref 67, .ref 68, .ref 69, fI ((s : Nat) : Int), .ref 70, .ref 71, fI (f 7), fI (f 8), .ref 72, fI (f 10), fI (f 11), fI (f 12), fJ (f 13), fI (f 14), fI (f 15), fI (f 16), fI (f 17), .ref 73, .ref 74, .ref 75, .ref 76, .ref 77, .ref 78, fI w1, .ref 79, .ref 80, .ref 81, .ref 82, .ref 83, .ref 84, .ref 85, fJ (f 32), fJ (f 33), .ref 86, .ref 87, fI (f 36), .ref 88, .ref 89, .ref 90, .ref 91, .ref 92, .ref 93]))) (u67 : cE u 67 (.inl (.int, fA cn))) (n67 : cn.length = 12) (u68 : cE u 68 (.inl (.int, fA go))) (n68 : go.length = 48) (u69 : cE u 69 (.inl (.int, fA ch))) (n69 : ch.length = 48) (u77 : cE u 77 (.inl (.int, fA g1))) (n77 : g1.length = 5) (u78 : cE u 78 (.inl (.int, fA d1))) (n78 : d1.length = 5) (u79 : cE u 79 (.inl (.long, fL x1))) (n79 : x1.length = 12) (u80 : cE u 80 (.inl (.long, fL y1))) (n80 : y1.length = 12) (ul : u.length = 94) (F : hfr [66, 77, 78, 79, 80] h u) (hp : 0 ≤ p ∧ p ≤ pl) (hx1 : mf_is p x1 (mf_fn (fun x => mx_w cn go ch s x) o (pl - 1).toNat (pl - 1).toNat)) (hk : pl - p < (k : Int)), ik_G 153 159 [some (.ref 66), some (fI p), x2, none, x4, x5, none] [] u (fun rv h' => ∃ (w' : Int) (gt' : List Int) (gd' : List Int) (xs' : List Int) (ys' : List Int), rv = [] ∧ cE h' 66 (.inr (10, [fI pl, .ref 67, .ref 68, .ref 69, fI ((s : Nat) : Int), .ref 70, .ref 71, fI (f 7), fI (f 8), .ref 72, fI (f 10), fI (f 11), fI (f 12), fJ (f 13), fI (f 14), fI (f 15), fI (f 16), fI (f 17), .ref 73, .ref 74, .ref 75, .ref 76, .ref 77, .ref 78, fI w', .ref 79, .ref 80, .ref 81, .ref 82, .ref 83, .ref 84, .ref 85, fJ (f 32), fJ (f 33), .ref 86, .ref 87, fI (f 36), .ref 88, .ref 89, .ref 90, .ref 91, .ref 92, .ref 93])) ∧ cE h' 77 (.inl (.int, fA gt')) ∧ gt'.length = 5 ∧ cE h' 78 (.inl (.int, fA gd')) ∧ gd'.length = 5 ∧ cE h' 79 (.inl (.long, fL xs')) ∧ xs'.length = 12 ∧ cE h' 80 (.inl (.long, fL ys')) ∧ ys'.length = 12 ∧ (mf_is pl xs' (mf_fl (fun x => mx_w cn go ch s x) (pl - 1) o)) ∧ hfr [66, 77, 78, 79, 80] h h') := by
  intro k
  induction k with
  | zero => intro p x1 x2 x4 x5 u u66 u67 n67 u68 n68 u69 n69 u77 n77 u78 n78 u79 n79 u80 n80 ul F hp hx1 hk; omega
  | succ k ih =>
    intro p x1 x2 x4 x5 u u66 u67 n67 u68 n68 u69 n69 u77 n77 u78 n78 u79 n79 u80 n80 ul F hp hx1 hk
    refine ik_Wk 2 (pc' := 161) (loc' := [some (.ref 66), some (fI p), x2, none, x4, x5, none]) (st' := [.ref 66, fI p]) (h' := u) (cl' := 0) (sl' := 0) rfl ?_
    refine fw_gf rfl rfl u66 rfl ?_
    refine fw_ic_ge rfl rfl (by omega) (by omega) (by omega) (by omega) (fun hc1 => ?_) (fun hc1 => ?_)
    · have ep : p = pl := by omega
      rw [ep] at hx1
      exact ik_Wret rfl rfl ⟨_, _, rfl, rfl, rfl, rfl, ⟨w1, g1, d1, x1, y1, rfl, u66, u77, n77, u78, n78, u79, n79, u80, n80, hx1, F⟩⟩
    · refine ik_Wk 1 (pc' := 168) (loc' := [some (.ref 66), some (fI p), x2, none, x4, x5, none]) (st' := [.ref 66]) (h' := u) (cl' := 0) (sl' := 0) rfl ?_
      refine fw_gf rfl rfl u66 rfl ?_
      refine ik_Wk 2 (pc' := 173) (loc' := [some (.ref 66), some (fI p), x2, none, x4, x5, none]) (st' := [.ref 66, fI p, .ref 79]) (h' := u) (cl' := 0) (sl' := 0) rfl ?_
      refine fw_gf rfl rfl u66 rfl ?_
      refine ik_Wk 1 (pc' := 177) (loc' := [some (.ref 66), some (fI p), x2, none, x4, x5, none]) (st' := [fI p, .ref 80, fI p, .ref 79]) (h' := u) (cl' := 0) (sl' := 0) rfl ?_
      refine fx_lal rfl u80 (by omega) (by omega) (by omega) ?_
      have hl2 : (x1.set p.toNat (y1.getD p.toNat 0)).length = 12 := (List.length_set ..).trans n79
      refine fx_las rfl u79 (by omega) (by omega) (by omega) ?_
      intro h_113 e_113 f_113 l_113
      have k_113 := l_113.trans ul
      have fr_113 := hfr_w F f_113 l_113 (by decide)
      have g_113_66 := (f_113 66 (by decide)).trans u66
      have g_113_67 := (f_113 67 (by decide)).trans u67
      have g_113_68 := (f_113 68 (by decide)).trans u68
      have g_113_69 := (f_113 69 (by decide)).trans u69
      have g_113_77 := (f_113 77 (by decide)).trans u77
      have g_113_78 := (f_113 78 (by decide)).trans u78
      have g_113_80 := (f_113 80 (by decide)).trans u80
      have g_113_79 : cE h_113 79 (.inl (.long, fL (x1.set p.toNat (y1.getD p.toNat 0)))) := e_113
      refine fw_inc (a := p) (loc' := [some (.ref 66), some (fI (p + 1)), x2, none, x4, x5, none]) rfl rfl (Nat.le_of_ble_eq_true rfl) rfl ?_
      refine ik_Wk 1 (pc' := 159) (loc' := [some (.ref 66), some (fI (p + 1)), x2, none, x4, x5, none]) (st' := []) (h' := h_113) (cl' := 0) (sl' := 0) rfl ?_
      exact ih  (p + 1) (x1.set p.toNat (y1.getD p.toNat 0)) x2 x4 x5 h_113 g_113_66 g_113_67 n67 g_113_68 n68 g_113_69 n69 g_113_77 n77 g_113_78 n78 g_113_79 hl2 g_113_80 n80 k_113 fr_113 (by omega) (mf_is_x hx1 (by omega) (by omega) (hy p.toNat (by omega))) (by omega)

theorem cr_flowO {h : List ik_E} {pl : Int} {f : Nat → Int} {s : Nat} {cn : List Int} {go : List Int} {ch : List Int} {gt : List Int} {gd : List Int} {xs : List Int} {ys : List Int} {o : Nat → Int} (q0 : 1 ≤ pl ∧ pl ≤ 12) (q1 : s < 4096) (q2 : ∀ x : Int, 0 ≤ x → x < pl - 1 → 0 ≤ cn.getD x.toNat 0 ∧ cn.getD x.toNat 0 ≤ 4) (q3 : ∀ x : Int, 0 ≤ x → x < pl - 1 → 1 ≤ cn.getD x.toNat 0 ∧ ∀ j : Int, 4 * x ≤ j → j < 4 * x + cn.getD x.toNat 0 → 0 ≤ ch.getD j.toNat 0 ∧ ch.getD j.toNat 0 ≤ 100) (q4 : ∀ x : Int, 0 ≤ x → x < pl - 1 → mx_ok pl (mx_w cn go ch s x)) (q5 : mf_is pl xs o) (q6 : mf_gd pl o)  : ∀ (k : Nat) (p : Int) (w1 : Int) (g1 : List Int) (d1 : List Int) (y1 : List Int) (x2 : Option Value) (x4 : Option Value) (x5 : Option Value) (u : List ik_E) (u66 : cE u 66 (.inr (10, [fI pl, .ref 67, .ref 68, .ref 69, fI ((s : Nat) : Int), .ref 70, .ref 71, fI (f 7), fI (f 8), .ref 72, fI (f 10), fI (f 11), fI (f 12), fJ (f 13), fI (f 14), fI (f 15), fI (f 16), fI (f 17), .ref 73, .ref 74, .ref 75, .ref 76, .ref 77, .ref 78, fI w1, .ref 79, .ref 80, .ref 81, .ref 82, .ref 83, .ref 84, .ref 85, fJ (f 32), fJ (f 33), .ref 86, .ref 87, fI (f 36), .ref 88, .ref 89, .ref 90, .ref 91, .ref 92, .ref 93]))) (u67 : cE u 67 (.inl (.int, fA cn))) (n67 : cn.length = 12) (u68 : cE u 68 (.inl (.int, fA go))) (n68 : go.length = 48) (u69 : cE u 69 (.inl (.int, fA ch))) (n69 : ch.length = 48) (u77 : cE u 77 (.inl (.int, fA g1))) (n77 : g1.length = 5) (u78 : cE u 78 (.inl (.int, fA d1))) (n78 : d1.length = 5) (u79 : cE u 79 (.inl (.long, fL xs))) (n79 : xs.length = 12) (u80 : cE u 80 (.inl (.long, fL y1))) (n80 : y1.length = 12) (ul : u.length = 94) (F : hfr [66, 77, 78, 79, 80] h u) (hp : 0 ≤ p ∧ p ≤ pl - 1) (hy : mf_is pl y1 (mf_fn (fun x => mx_w cn go ch s x) o (pl - 1).toNat p.toNat)) (v2 : ik_wl 94 x2 = true) (v4 : ik_wl 94 x4 = true) (v5 : ik_wl 94 x5 = true) (hk : pl - 1 - p < (k : Int)), ik_G 153 42 [some (.ref 66), some (fI p), x2, none, x4, x5, none] [] u (fun rv h' => ∃ (w' : Int) (gt' : List Int) (gd' : List Int) (xs' : List Int) (ys' : List Int), rv = [] ∧ cE h' 66 (.inr (10, [fI pl, .ref 67, .ref 68, .ref 69, fI ((s : Nat) : Int), .ref 70, .ref 71, fI (f 7), fI (f 8), .ref 72, fI (f 10), fI (f 11), fI (f 12), fJ (f 13), fI (f 14), fI (f 15), fI (f 16), fI (f 17), .ref 73, .ref 74, .ref 75, .ref 76, .ref 77, .ref 78, fI w', .ref 79, .ref 80, .ref 81, .ref 82, .ref 83, .ref 84, .ref 85, fJ (f 32), fJ (f 33), .ref 86, .ref 87, fI (f 36), .ref 88, .ref 89, .ref 90, .ref 91, .ref 92, .ref 93])) ∧ cE h' 77 (.inl (.int, fA gt')) ∧ gt'.length = 5 ∧ cE h' 78 (.inl (.int, fA gd')) ∧ gd'.length = 5 ∧ cE h' 79 (.inl (.long, fL xs')) ∧ xs'.length = 12 ∧ cE h' 80 (.inl (.long, fL ys')) ∧ ys'.length = 12 ∧ (mf_is pl xs' (mf_fl (fun x => mx_w cn go ch s x) (pl - 1) o)) ∧ hfr [66, 77, 78, 79, 80] h h') := by
  intro k
  induction k with
  | zero => intro p w1 g1 d1 y1 x2 x4 x5 u u66 u67 n67 u68 n68 u69 n69 u77 n77 u78 n78 u79 n79 u80 n80 ul F hp hy v2 v4 v5 hk; omega
  | succ k ih =>
    intro p w1 g1 d1 y1 x2 x4 x5 u u66 u67 n67 u68 n68 u69 n69 u77 n77 u78 n78 u79 n79 u80 n80 ul F hp hy v2 v4 v5 hk
    have hx : p < pl - 1 → xs.getD p.toNat 0 = o p.toNat := fun q => q5 p.toNat (by omega)
    have hb := mf_gd_b q6 p.toNat
    refine ik_Wk 2 (pc' := 44) (loc' := [some (.ref 66), some (fI p), x2, none, x4, x5, none]) (st' := [.ref 66, fI p]) (h' := u) (cl' := 0) (sl' := 0) rfl ?_
    refine fw_gf rfl rfl u66 rfl ?_
    refine ik_Wk 1 (pc' := 48) (loc' := [some (.ref 66), some (fI p), x2, none, x4, x5, none]) (st' := [fI 1, fI pl, fI p]) (h' := u) (cl' := 0) (sl' := 0) rfl ?_
    refine fw_sub rfl ?_
    refine fw_ic_ge rfl rfl (by omega) (by omega) (by omega) (by omega) (fun hc1 => ?_) (fun hc1 => ?_)
    · refine ik_Wk 2 (pc' := 159) (loc' := [some (.ref 66), some (fI 0), x2, none, x4, x5, none]) (st' := []) (h' := u) (cl' := 0) (sl' := 0) rfl ?_
      have ep : p = pl - 1 := by omega
      rw [ep] at hy
      exact cr_flowC (pl := pl) (f := f) (s := s) (cn := cn) (go := go) (ch := ch) (gt := gt) (gd := gd) (xs := xs) (ys := ys) (o := o) q0 q1 q2 q3 q4 q5 q6 hy (pl.toNat + 1) 0 xs x2 x4 x5 u u66 u67 n67 u68 n68 u69 n69 u77 n77 u78 n78 u79 n79 u80 n80 ul F (by omega) (mf_is_0 (by omega)) (by omega)
    · refine ik_Wk 1 (pc' := 53) (loc' := [some (.ref 66), some (fI p), x2, none, x4, x5, none]) (st' := [.ref 66]) (h' := u) (cl' := 0) (sl' := 0) rfl ?_
      refine fw_gf rfl rfl u66 rfl ?_
      refine ik_Wk 1 (pc' := 57) (loc' := [some (.ref 66), some (fI p), x2, none, x4, x5, none]) (st' := [fI p, .ref 79]) (h' := u) (cl' := 0) (sl' := 0) rfl ?_
      refine fx_lal rfl u79 (by omega) (by omega) (by omega) ?_
      refine fw_lc (z := 0) rfl (by decide) ?_
      replace hx := hx (by omega)
      refine fw_lcmp_le rfl rfl rfl (by omega) (by omega) (by omega) (by omega) (fun hc2 => ?_) (fun hc2 => ?_)
      · refine fw_inc (a := p) (loc' := [some (.ref 66), some (fI (p + 1)), x2, none, x4, x5, none]) rfl rfl (Nat.le_of_ble_eq_true rfl) rfl ?_
        refine ik_Wk 1 (pc' := 42) (loc' := [some (.ref 66), some (fI (p + 1)), x2, none, x4, x5, none]) (st' := []) (h' := u) (cl' := 0) (sl' := 0) rfl ?_
        exact ih  (p + 1) w1 g1 d1 y1 x2 x4 x5 u u66 u67 n67 u68 n68 u69 n69 u77 n77 u78 n78 u79 n79 u80 n80 ul F (by omega) (by rw [mf_fn_s (by omega), if_neg (by omega)]; exact hy) v2 v4 v5 (by omega)
      · refine ik_Wk 2 (pc' := 65) (loc' := [some (.ref 66), some (fI p), x2, none, x4, x5, none]) (st' := [fI p, .ref 66]) (h' := u) (cl' := 0) (sl' := 0) rfl ?_
        refine fw_call 152 2 0 [.ref 66, fI p] [] rfl rfl rfl (by decide) rfl rfl (fw_rec ul (fw_ftx rfl wv_n (wl_c rfl (wl_c rfl (wl_c v2 (wl_c rfl (wl_c v4 (wl_c v5 (wl_c rfl wl_n)))))))) u66 rfl (by decide)) (cr_list (p := p) (f := fun j => ([pl, 0, 0, 0, 0, 0, 0, f 7, f 8, 0, f 10, f 11, f 12, f 13, f 14, f 15, f 16, f 17, 0, 0, 0, 0, 0, 0, w1, 0, 0, 0, 0, 0, 0, 0, f 32, f 33, 0, 0, f 36, 0, 0, 0, 0, 0, 0] : List Int).getD j 0) (s := s) (cn := cn) (go := go) (ch := ch) (gt := g1) (gd := d1) (by omega) (by omega) (by omega) (q2 p (by omega) (by omega)) (q3 p (by omega) (by omega)).2 (q3 p (by omega) (by omega)).1 u66 u67 n67 u68 n68 u69 n69 u77 n77 u78 n78 ul) ?_
        rintro _ h_114 ⟨gt'_114, gd'_114, rfl, e_114_66, e_114_77, m_114_77, e_114_78, m_114_78, p_114_0, F_114⟩
        have k_114 := F_114.1.trans ul
        have fr_114 := hfr_c F F_114 (by decide)
        have g_114_67 := (F_114.2 67 (by decide +kernel)).trans u67
        have g_114_68 := (F_114.2 68 (by decide +kernel)).trans u68
        have g_114_69 := (F_114.2 69 (by decide +kernel)).trans u69
        have g_114_79 := (F_114.2 79 (by decide +kernel)).trans u79
        have g_114_80 := (F_114.2 80 (by decide +kernel)).trans u80
        have g_114_66 : cE h_114 66 (.inr (10, [fI pl, .ref 67, .ref 68, .ref 69, fI ((s : Nat) : Int), .ref 70, .ref 71, fI (f 7), fI (f 8), .ref 72, fI (f 10), fI (f 11), fI (f 12), fJ (f 13), fI (f 14), fI (f 15), fI (f 16), fI (f 17), .ref 73, .ref 74, .ref 75, .ref 76, .ref 77, .ref 78, fI ((mx_w cn go ch s p).length : Int), .ref 79, .ref 80, .ref 81, .ref 82, .ref 83, .ref 84, .ref 85, fJ (f 32), fJ (f 33), .ref 86, .ref 87, fI (f 36), .ref 88, .ref 89, .ref 90, .ref 91, .ref 92, .ref 93])) := e_114_66
        have g_114_77 : cE h_114 77 (.inl (.int, fA gt'_114)) := e_114_77
        have g_114_78 : cE h_114 78 (.inl (.int, fA gd'_114)) := e_114_78
        refine ik_Wk 0 (pc' := 68) (loc' := [some (.ref 66), some (fI p), x2, none, x4, x5, none]) (st' := []) (h' := h_114) (cl' := 0) (sl' := 0) rfl ?_
        refine ik_Wk 1 (pc' := 69) (loc' := [some (.ref 66), some (fI p), x2, none, x4, x5, none]) (st' := [.ref 66]) (h' := h_114) (cl' := 0) (sl' := 0) rfl ?_
        refine fw_gf rfl rfl g_114_66 rfl ?_
        refine ik_Wk 1 (pc' := 73) (loc' := [some (.ref 66), some (fI p), x2, none, x4, x5, none]) (st' := [fI p, .ref 79]) (h' := h_114) (cl' := 0) (sl' := 0) rfl ?_
        refine fx_lal rfl g_114_79 (by omega) (by omega) (by omega) ?_
        refine ik_Wk 3 (pc' := 78) (loc' := [some (.ref 66), some (fI p), some (fJ (xs.getD p.toNat 0)), none, some (fI 0), x5, none]) (st' := []) (h' := h_114) (cl' := 0) (sl' := 0) rfl ?_
        have hok := q4 p (by omega) (by omega)
        have hfs := mf_fn_s (W := (fun x => mx_w cn go ch s x)) (o := o) (br := (pl - 1).toNat) (p := p) (by omega)
        have hlp : 0 < o p.toNat := by omega
        rw [if_pos hlp] at hfs
        refine cr_flowI (pl := pl) (f := f) (s := s) (cn := cn) (go := go) (ch := ch) (gt := gt) (gd := gd) (xs := xs) (ys := ys) (o := o) q0 q1 q2 q3 q4 q5 q6 p (by omega) hlp gt'_114 gd'_114 p_114_0 (R := (fun rv h' => ∃ (w' : Int) (gt' : List Int) (gd' : List Int) (xs' : List Int) (ys' : List Int), rv = [] ∧ cE h' 66 (.inr (10, [fI pl, .ref 67, .ref 68, .ref 69, fI ((s : Nat) : Int), .ref 70, .ref 71, fI (f 7), fI (f 8), .ref 72, fI (f 10), fI (f 11), fI (f 12), fJ (f 13), fI (f 14), fI (f 15), fI (f 16), fI (f 17), .ref 73, .ref 74, .ref 75, .ref 76, .ref 77, .ref 78, fI w', .ref 79, .ref 80, .ref 81, .ref 82, .ref 83, .ref 84, .ref 85, fJ (f 32), fJ (f 33), .ref 86, .ref 87, fI (f 36), .ref 88, .ref 89, .ref 90, .ref 91, .ref 92, .ref 93])) ∧ cE h' 77 (.inl (.int, fA gt')) ∧ gt'.length = 5 ∧ cE h' 78 (.inl (.int, fA gd')) ∧ gd'.length = 5 ∧ cE h' 79 (.inl (.long, fL xs')) ∧ xs'.length = 12 ∧ cE h' 80 (.inl (.long, fL ys')) ∧ ys'.length = 12 ∧ (mf_is pl xs' (mf_fl (fun x => mx_w cn go ch s x) (pl - 1) o)) ∧ hfr [66, 77, 78, 79, 80] h h')) (fun h_115 y2_115 l2_115 i2_115 x5_115 g_115_66 g_115_67 m_115_67 g_115_68 m_115_68 g_115_69 m_115_69 g_115_77 m_115_77 g_115_78 m_115_78 g_115_79 m_115_79 g_115_80 m_115_80 k_115 fr_115 hy2_115 w5_115 => ?_) ((mx_w cn go ch s p).length + 1) 0 (xs.getD p.toNat 0) 0 y1 (mf_fn (fun x => mx_w cn go ch s x) o (pl - 1).toNat p.toNat) x5 h_114 g_114_66 g_114_67 n67 g_114_68 n68 g_114_69 n69 g_114_77 m_114_77 g_114_78 m_114_78 g_114_79 n79 g_114_80 n80 k_114 fr_114 (by omega) rfl (by omega) (by rw [List.drop_zero, hok.2.1, hx]; omega) hy (by rw [hfs, hx, List.drop_zero]) v5 (by omega)
        refine fw_inc (a := p) (loc' := [some (.ref 66), some (fI (p + 1)), some (fJ l2_115), none, some (fI i2_115), x5_115, none]) rfl rfl (Nat.le_of_ble_eq_true rfl) rfl ?_
        refine ik_Wk 1 (pc' := 42) (loc' := [some (.ref 66), some (fI (p + 1)), some (fJ l2_115), none, some (fI i2_115), x5_115, none]) (st' := []) (h' := h_115) (cl' := 0) (sl' := 0) rfl ?_
        exact ih  (p + 1) ((mx_w cn go ch s p).length : Int) gt'_114 gd'_114 y2_115 (some (fJ l2_115)) (some (fI i2_115)) x5_115 h_115 g_115_66 g_115_67 m_115_67 g_115_68 m_115_68 g_115_69 m_115_69 g_115_77 m_115_77 g_115_78 m_115_78 g_115_79 m_115_79 g_115_80 m_115_80 k_115 fr_115 (by omega) hy2_115 rfl rfl w5_115 (by omega)

theorem cr_flowZ {h : List ik_E} {pl : Int} {f : Nat → Int} {s : Nat} {cn : List Int} {go : List Int} {ch : List Int} {gt : List Int} {gd : List Int} {xs : List Int} {ys : List Int} {o : Nat → Int} (q0 : 1 ≤ pl ∧ pl ≤ 12) (q1 : s < 4096) (q2 : ∀ x : Int, 0 ≤ x → x < pl - 1 → 0 ≤ cn.getD x.toNat 0 ∧ cn.getD x.toNat 0 ≤ 4) (q3 : ∀ x : Int, 0 ≤ x → x < pl - 1 → 1 ≤ cn.getD x.toNat 0 ∧ ∀ j : Int, 4 * x ≤ j → j < 4 * x + cn.getD x.toNat 0 → 0 ≤ ch.getD j.toNat 0 ∧ ch.getD j.toNat 0 ≤ 100) (q4 : ∀ x : Int, 0 ≤ x → x < pl - 1 → mx_ok pl (mx_w cn go ch s x)) (q5 : mf_is pl xs o) (q6 : mf_gd pl o)  : ∀ (k : Nat) (p : Int) (y1 : List Int) (u : List ik_E) (u66 : cE u 66 (.inr (10, [fI pl, .ref 67, .ref 68, .ref 69, fI ((s : Nat) : Int), .ref 70, .ref 71, fI (f 7), fI (f 8), .ref 72, fI (f 10), fI (f 11), fI (f 12), fJ (f 13), fI (f 14), fI (f 15), fI (f 16), fI (f 17), .ref 73, .ref 74, .ref 75, .ref 76, .ref 77, .ref 78, fI (f 24), .ref 79, .ref 80, .ref 81, .ref 82, .ref 83, .ref 84, .ref 85, fJ (f 32), fJ (f 33), .ref 86, .ref 87, fI (f 36), .ref 88, .ref 89, .ref 90, .ref 91, .ref 92, .ref 93]))) (u67 : cE u 67 (.inl (.int, fA cn))) (n67 : cn.length = 12) (u68 : cE u 68 (.inl (.int, fA go))) (n68 : go.length = 48) (u69 : cE u 69 (.inl (.int, fA ch))) (n69 : ch.length = 48) (u77 : cE u 77 (.inl (.int, fA gt))) (n77 : gt.length = 5) (u78 : cE u 78 (.inl (.int, fA gd))) (n78 : gd.length = 5) (u79 : cE u 79 (.inl (.long, fL xs))) (n79 : xs.length = 12) (u80 : cE u 80 (.inl (.long, fL y1))) (n80 : y1.length = 12) (ul : u.length = 94) (F : hfr [66, 77, 78, 79, 80] h u) (hp : 0 ≤ p ∧ p ≤ pl) (hy : mf_is p y1 (mf_fn (fun x => mx_w cn go ch s x) o (pl - 1).toNat 0)) (hk : pl - p < (k : Int)), ik_G 153 2 [some (.ref 66), some (fI p), none, none, none, none, none] [] u (fun rv h' => ∃ (w' : Int) (gt' : List Int) (gd' : List Int) (xs' : List Int) (ys' : List Int), rv = [] ∧ cE h' 66 (.inr (10, [fI pl, .ref 67, .ref 68, .ref 69, fI ((s : Nat) : Int), .ref 70, .ref 71, fI (f 7), fI (f 8), .ref 72, fI (f 10), fI (f 11), fI (f 12), fJ (f 13), fI (f 14), fI (f 15), fI (f 16), fI (f 17), .ref 73, .ref 74, .ref 75, .ref 76, .ref 77, .ref 78, fI w', .ref 79, .ref 80, .ref 81, .ref 82, .ref 83, .ref 84, .ref 85, fJ (f 32), fJ (f 33), .ref 86, .ref 87, fI (f 36), .ref 88, .ref 89, .ref 90, .ref 91, .ref 92, .ref 93])) ∧ cE h' 77 (.inl (.int, fA gt')) ∧ gt'.length = 5 ∧ cE h' 78 (.inl (.int, fA gd')) ∧ gd'.length = 5 ∧ cE h' 79 (.inl (.long, fL xs')) ∧ xs'.length = 12 ∧ cE h' 80 (.inl (.long, fL ys')) ∧ ys'.length = 12 ∧ (mf_is pl xs' (mf_fl (fun x => mx_w cn go ch s x) (pl - 1) o)) ∧ hfr [66, 77, 78, 79, 80] h h') := by
  intro k
  induction k with
  | zero => intro p y1 u u66 u67 n67 u68 n68 u69 n69 u77 n77 u78 n78 u79 n79 u80 n80 ul F hp hy hk; omega
  | succ k ih =>
    intro p y1 u u66 u67 n67 u68 n68 u69 n69 u77 n77 u78 n78 u79 n79 u80 n80 ul F hp hy hk
    refine ik_Wk 2 (pc' := 4) (loc' := [some (.ref 66), some (fI p), none, none, none, none, none]) (st' := [.ref 66, fI p]) (h' := u) (cl' := 0) (sl' := 0) rfl ?_
    refine fw_gf rfl rfl u66 rfl ?_
    refine fw_ic_ge rfl rfl (by omega) (by omega) (by omega) (by omega) (fun hc1 => ?_) (fun hc1 => ?_)
    · refine ik_Wk 2 (pc' := 42) (loc' := [some (.ref 66), some (fI 0), none, none, none, none, none]) (st' := []) (h' := u) (cl' := 0) (sl' := 0) rfl ?_
      have ep : p = pl := by omega
      rw [ep] at hy
      exact cr_flowO (pl := pl) (f := f) (s := s) (cn := cn) (go := go) (ch := ch) (gt := gt) (gd := gd) (xs := xs) (ys := ys) (o := o) q0 q1 q2 q3 q4 q5 q6  pl.toNat 0 (f 24) gt gd y1 none none none u u66 u67 n67 u68 n68 u69 n69 u77 n77 u78 n78 u79 n79 u80 n80 ul F (by omega) hy rfl rfl rfl (by omega)
    · refine ik_Wk 1 (pc' := 11) (loc' := [some (.ref 66), some (fI p), none, none, none, none, none]) (st' := [.ref 66]) (h' := u) (cl' := 0) (sl' := 0) rfl ?_
      refine fw_gf rfl rfl u66 rfl ?_
      refine ik_Wk 3 (pc' := 17) (loc' := [some (.ref 66), some (fI p), none, none, none, none, none]) (st' := [.ref 66, fI p, fI p, .ref 80]) (h' := u) (cl' := 0) (sl' := 0) rfl ?_
      refine ik_Wc 130 1 0 [.ref 66] [fI p, fI p, .ref 80] rfl rfl rfl (by decide) rfl rfl (fw_rec ul rfl u66 rfl (by decide)) ?_
      refine ik_Wk 0 (pc' := 0) (loc' := [some (.ref 66)]) (st' := []) (h' := u) (cl' := 0) (sl' := 0) rfl ?_
      refine ik_Wk 1 (pc' := 1) (loc' := [some (.ref 66)]) (st' := [.ref 66]) (h' := u) (cl' := 0) (sl' := 0) rfl ?_
      refine fw_gf rfl rfl u66 rfl ?_
      refine ik_Wk 1 (pc' := 5) (loc' := [some (.ref 66)]) (st' := [fI 1, fI pl]) (h' := u) (cl' := 0) (sl' := 0) rfl ?_
      refine fw_sub rfl ?_
      refine ik_Wret rfl rfl ⟨_, _, rfl, rfl, ?_⟩
      refine ik_Wk 0 (pc' := 20) (loc' := [some (.ref 66), some (fI p), none, none, none, none, none]) (st' := [fI (pl - 1), fI p, fI p, .ref 80]) (h' := u) (cl' := 0) (sl' := 0) rfl ?_
      refine fw_ic_ne rfl rfl (by omega) (by omega) (by omega) (by omega) (fun hc2 => ?_) (fun hc2 => ?_)
      · refine ik_Wk 1 (pc' := 24) (loc' := [some (.ref 66), some (fI p), none, none, none, none, none]) (st' := [.ref 66, fI p, .ref 80]) (h' := u) (cl' := 0) (sl' := 0) rfl ?_
        refine fw_gf rfl rfl u66 rfl ?_
        refine ik_Wk 1 (pc' := 28) (loc' := [some (.ref 66), some (fI p), none, none, none, none, none]) (st' := [fI p, .ref 79, fI p, .ref 80]) (h' := u) (cl' := 0) (sl' := 0) rfl ?_
        refine fx_lal rfl u79 (by omega) (by omega) (by omega) ?_
        refine ik_Wk 1 (pc' := 33) (loc' := [some (.ref 66), some (fI p), none, none, none, none, none]) (st' := [fJ (xs.getD p.toNat 0), fI p, .ref 80]) (h' := u) (cl' := 0) (sl' := 0) rfl ?_
        have hl3 : (y1.set p.toNat (xs.getD p.toNat 0)).length = 12 := (List.length_set ..).trans n80
        refine fx_las rfl u80 (by omega) (by omega) (by omega) ?_
        intro h_116 e_116 f_116 l_116
        have k_116 := l_116.trans ul
        have fr_116 := hfr_w F f_116 l_116 (by decide)
        have g_116_66 := (f_116 66 (by decide)).trans u66
        have g_116_67 := (f_116 67 (by decide)).trans u67
        have g_116_68 := (f_116 68 (by decide)).trans u68
        have g_116_69 := (f_116 69 (by decide)).trans u69
        have g_116_77 := (f_116 77 (by decide)).trans u77
        have g_116_78 := (f_116 78 (by decide)).trans u78
        have g_116_79 := (f_116 79 (by decide)).trans u79
        have g_116_80 : cE h_116 80 (.inl (.long, fL (y1.set p.toNat (xs.getD p.toNat 0)))) := e_116
        refine fw_inc (a := p) (loc' := [some (.ref 66), some (fI (p + 1)), none, none, none, none, none]) rfl rfl (Nat.le_of_ble_eq_true rfl) rfl ?_
        refine ik_Wk 1 (pc' := 2) (loc' := [some (.ref 66), some (fI (p + 1)), none, none, none, none, none]) (st' := []) (h' := h_116) (cl' := 0) (sl' := 0) rfl ?_
        exact ih  (p + 1) (y1.set p.toNat (xs.getD p.toNat 0)) h_116 g_116_66 g_116_67 n67 g_116_68 n68 g_116_69 n69 g_116_77 n77 g_116_78 n78 g_116_79 n79 g_116_80 hl3 k_116 fr_116 (by omega) (mf_is_x hy (by omega) (by omega) (by show _ = if p.toNat = (pl - 1).toNat then o (pl - 1).toNat else 0; rw [if_pos (by omega), show p.toNat = (pl - 1).toNat by omega]; exact q5 _ (by omega))) (by omega)
      · refine fw_lc (z := 0) rfl (by decide) ?_
        have hl4 : (y1.set p.toNat 0).length = 12 := (List.length_set ..).trans n80
        refine fx_las rfl u80 (by omega) (by omega) (by omega) ?_
        intro h_117 e_117 f_117 l_117
        have k_117 := l_117.trans ul
        have fr_117 := hfr_w F f_117 l_117 (by decide)
        have g_117_66 := (f_117 66 (by decide)).trans u66
        have g_117_67 := (f_117 67 (by decide)).trans u67
        have g_117_68 := (f_117 68 (by decide)).trans u68
        have g_117_69 := (f_117 69 (by decide)).trans u69
        have g_117_77 := (f_117 77 (by decide)).trans u77
        have g_117_78 := (f_117 78 (by decide)).trans u78
        have g_117_79 := (f_117 79 (by decide)).trans u79
        have g_117_80 : cE h_117 80 (.inl (.long, fL (y1.set p.toNat 0))) := e_117
        refine fw_inc (a := p) (loc' := [some (.ref 66), some (fI (p + 1)), none, none, none, none, none]) rfl rfl (Nat.le_of_ble_eq_true rfl) rfl ?_
        refine ik_Wk 1 (pc' := 2) (loc' := [some (.ref 66), some (fI (p + 1)), none, none, none, none, none]) (st' := []) (h' := h_117) (cl' := 0) (sl' := 0) rfl ?_
        exact ih  (p + 1) (y1.set p.toNat 0) h_117 g_117_66 g_117_67 n67 g_117_68 n68 g_117_69 n69 g_117_77 n77 g_117_78 n78 g_117_79 n79 g_117_80 hl4 k_117 fr_117 (by omega) (mf_is_x hy (by omega) (by omega) (by show 0 = if p.toNat = (pl - 1).toNat then _ else 0; rw [if_neg (by omega)])) (by omega)

theorem cr_flow {h : List ik_E} {pl : Int} {f : Nat → Int} {s : Nat} {cn : List Int} {go : List Int} {ch : List Int} {gt : List Int} {gd : List Int} {xs : List Int} {ys : List Int} {o : Nat → Int} (q0 : 1 ≤ pl ∧ pl ≤ 12) (q1 : s < 4096) (q2 : ∀ x : Int, 0 ≤ x → x < pl - 1 → 0 ≤ cn.getD x.toNat 0 ∧ cn.getD x.toNat 0 ≤ 4) (q3 : ∀ x : Int, 0 ≤ x → x < pl - 1 → 1 ≤ cn.getD x.toNat 0 ∧ ∀ j : Int, 4 * x ≤ j → j < 4 * x + cn.getD x.toNat 0 → 0 ≤ ch.getD j.toNat 0 ∧ ch.getD j.toNat 0 ≤ 100) (q4 : ∀ x : Int, 0 ≤ x → x < pl - 1 → mx_ok pl (mx_w cn go ch s x)) (q5 : mf_is pl xs o) (q6 : mf_gd pl o) (h66 : cE h 66 (.inr (10, [fI pl, .ref 67, .ref 68, .ref 69, fI ((s : Nat) : Int), .ref 70, .ref 71, fI (f 7), fI (f 8), .ref 72, fI (f 10), fI (f 11), fI (f 12), fJ (f 13), fI (f 14), fI (f 15), fI (f 16), fI (f 17), .ref 73, .ref 74, .ref 75, .ref 76, .ref 77, .ref 78, fI (f 24), .ref 79, .ref 80, .ref 81, .ref 82, .ref 83, .ref 84, .ref 85, fJ (f 32), fJ (f 33), .ref 86, .ref 87, fI (f 36), .ref 88, .ref 89, .ref 90, .ref 91, .ref 92, .ref 93]))) (h67 : cE h 67 (.inl (.int, fA cn))) (n67 : cn.length = 12) (h68 : cE h 68 (.inl (.int, fA go))) (n68 : go.length = 48) (h69 : cE h 69 (.inl (.int, fA ch))) (n69 : ch.length = 48) (h77 : cE h 77 (.inl (.int, fA gt))) (n77 : gt.length = 5) (h78 : cE h 78 (.inl (.int, fA gd))) (n78 : gd.length = 5) (h79 : cE h 79 (.inl (.long, fL xs))) (n79 : xs.length = 12) (h80 : cE h 80 (.inl (.long, fL ys))) (n80 : ys.length = 12) (hl : h.length = 94) : ik_F 153 [.ref 66] h (fun rv h' => ∃ (w' : Int) (gt' : List Int) (gd' : List Int) (xs' : List Int) (ys' : List Int), rv = [] ∧ cE h' 66 (.inr (10, [fI pl, .ref 67, .ref 68, .ref 69, fI ((s : Nat) : Int), .ref 70, .ref 71, fI (f 7), fI (f 8), .ref 72, fI (f 10), fI (f 11), fI (f 12), fJ (f 13), fI (f 14), fI (f 15), fI (f 16), fI (f 17), .ref 73, .ref 74, .ref 75, .ref 76, .ref 77, .ref 78, fI w', .ref 79, .ref 80, .ref 81, .ref 82, .ref 83, .ref 84, .ref 85, fJ (f 32), fJ (f 33), .ref 86, .ref 87, fI (f 36), .ref 88, .ref 89, .ref 90, .ref 91, .ref 92, .ref 93])) ∧ cE h' 77 (.inl (.int, fA gt')) ∧ gt'.length = 5 ∧ cE h' 78 (.inl (.int, fA gd')) ∧ gd'.length = 5 ∧ cE h' 79 (.inl (.long, fL xs')) ∧ xs'.length = 12 ∧ cE h' 80 (.inl (.long, fL ys')) ∧ ys'.length = 12 ∧ (mf_is pl xs' (mf_fl (fun x => mx_w cn go ch s x) (pl - 1) o)) ∧ hfr [66, 77, 78, 79, 80] h h') := by
  refine ik_Wk 2 (pc' := 2) (loc' := [some (.ref 66), some (fI 0), none, none, none, none, none]) (st' := []) (h' := h) (cl' := 0) (sl' := 0) rfl ?_
  exact cr_flowZ (pl := pl) (f := f) (s := s) (cn := cn) (go := go) (ch := ch) (gt := gt) (gd := gd) (xs := xs) (ys := ys) (o := o) q0 q1 q2 q3 q4 q5 q6  (pl.toNat + 1) 0 ys h h66 h67 n67 h68 n68 h69 n69 h77 n77 h78 n78 h79 n79 h80 n80 hl (hfr_refl [66, 77, 78, 79, 80] h) (by omega) (mf_is_0 (by omega)) (by omega)

end