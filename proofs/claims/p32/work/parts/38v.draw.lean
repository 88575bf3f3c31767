noncomputable section
/-! draws and drifts (written by wip/fx/u2.py) -/
theorem cs_goalByL {h : List ik_E} {p : Int} {d : Int} {pl : Int} {lo : Int} {s : Nat} {wg : List Int} {wc : List Int} {we : List Int} {L : List (Int × Int)} (q0 : 0 ≤ p) (q1 : p < 12) (q2 : 0 ≤ d) (q3 : d < 100) (q4 : mx_wy wg wc we p L) (q5 : mx_ok pl L)  : ∀ (k : Nat) (j : Nat) (sm : Int) (kk : Int) (u : List ik_E) (u7 : cE u 7 (.inr (0, [fI pl, fI ((s : Nat) : Int), fI lo, .ref 8, .ref 9, .ref 10, .ref 11, .ref 12, .ref 13]))) (u11 : cE u 11 (.inl (.int, fA wg))) (n11 : wg.length = 60) (u12 : cE u 12 (.inl (.int, fA wc))) (n12 : wc.length = 60) (u13 : cE u 13 (.inl (.int, fA we))) (n13 : we.length = 12) (ul : u.length = 94) (F : hfr [] h u) (hj : j ≤ L.length) (hkk : kk = 5 * p + (j : Int)) (hsm : 0 ≤ sm ∧ sm ≤ 100 * (j : Int)) (hp : mx_pk L d p = mx_pk (L.drop j) (d - sm) p) (hk : (L.length : Int) - (j : Int) < (k : Int)), ik_G 18 7 [some (.ref 7), some (fI p), some (fI d), some (fI sm), some (fI kk)] [] u (fun rv h' => rv = [fI (mx_pk L d p)] ∧ hfr [] h h') := by
  intro k
  induction k with
  | zero => intro j sm kk u u7 u11 n11 u12 n12 u13 n13 ul F hj hkk hsm hp hk; omega
  | succ k ih =>
    intro j sm kk u u7 u11 n11 u12 n12 u13 n13 ul F hj hkk hsm hp hk
    obtain ⟨w1, w2⟩ := q4
    obtain ⟨o1, o2, o3⟩ := q5
    refine ik_Wk 2 (pc' := 10) (loc' := [some (.ref 7), some (fI p), some (fI d), some (fI sm), some (fI kk)]) (st' := [.ref 7, fI kk]) (h' := u) (cl' := 0) (sl' := 0) rfl ?_
    refine fw_gf rfl rfl u7 rfl ?_
    refine ik_Wk 1 (pc' := 14) (loc' := [some (.ref 7), some (fI p), some (fI d), some (fI sm), some (fI kk)]) (st' := [fI p, .ref 13, fI kk]) (h' := u) (cl' := 0) (sl' := 0) rfl ?_
    refine fw_ial rfl u13 (by omega) (by omega) (by omega) ?_
    refine fw_ic_ge rfl rfl (by omega) (by omega) (by omega) (by omega) (fun hc1 => ?_) (fun hc1 => ?_)
    · refine ik_Wk 1 (pc' := 48) (loc' := [some (.ref 7), some (fI p), some (fI d), some (fI sm), some (fI kk)]) (st' := [fI p]) (h' := u) (cl' := 0) (sl' := 0) rfl ?_
      exact ik_Wret rfl rfl ⟨_, _, rfl, rfl, rfl, rfl, ⟨(by rw [hp, mx_pk_e (by omega)]), F⟩⟩
    · refine ik_Wk 2 (pc' := 20) (loc' := [some (.ref 7), some (fI p), some (fI d), some (fI sm), some (fI kk)]) (st' := [.ref 7, fI sm]) (h' := u) (cl' := 0) (sl' := 0) rfl ?_
      refine fw_gf rfl rfl u7 rfl ?_
      refine ik_Wk 1 (pc' := 25) (loc' := [some (.ref 7), some (fI p), some (fI d), some (fI sm), some (fI kk)]) (st' := [fI kk, .ref 12, fI sm]) (h' := u) (cl' := 0) (sl' := 0) rfl ?_
      refine fw_ial rfl u12 (by omega) (by omega) (by omega) ?_
      have ej : kk.toNat = 5 * p.toNat + j := by omega
      have hw := w2 j (by omega)
      rw [← ej] at hw
      have hq := o3 j (by omega)
      refine fw_add rfl ?_
      refine ik_Wk 3 (pc' := 30) (loc' := [some (.ref 7), some (fI p), some (fI d), some (fI (sm + (wc.getD kk.toNat 0))), some (fI kk)]) (st' := [fI d, fI (sm + (wc.getD kk.toNat 0))]) (h' := u) (cl' := 0) (sl' := 0) rfl ?_
      refine fw_ic_le rfl rfl (by omega) (by omega) (by omega) (by omega) (fun hc2 => ?_) (fun hc2 => ?_)
      · refine fw_inc (a := kk) (loc' := [some (.ref 7), some (fI p), some (fI d), some (fI (sm + (wc.getD kk.toNat 0))), some (fI (kk + 1))]) rfl rfl (Nat.le_of_ble_eq_true rfl) rfl ?_
        refine ik_Wk 1 (pc' := 7) (loc' := [some (.ref 7), some (fI p), some (fI d), some (fI (sm + (wc.getD kk.toNat 0))), some (fI (kk + 1))]) (st' := []) (h' := u) (cl' := 0) (sl' := 0) rfl ?_
        exact ih  (j + 1) (sm + (wc.getD kk.toNat 0)) (kk + 1) u u7 u11 n11 u12 n12 u13 n13 ul F (by omega) (by omega) (by omega) (by rw [hp, mx_pk_d (by omega), if_neg (by omega), ← hw.2]; exact congrArg (fun z => mx_pk _ z p) (by omega)) (by omega)
      · refine ik_Wk 1 (pc' := 34) (loc' := [some (.ref 7), some (fI p), some (fI d), some (fI (sm + (wc.getD kk.toNat 0))), some (fI kk)]) (st' := [.ref 7]) (h' := u) (cl' := 0) (sl' := 0) rfl ?_
        refine fw_gf rfl rfl u7 rfl ?_
        refine ik_Wk 1 (pc' := 39) (loc' := [some (.ref 7), some (fI p), some (fI d), some (fI (sm + (wc.getD kk.toNat 0))), some (fI kk)]) (st' := [fI kk, .ref 11]) (h' := u) (cl' := 0) (sl' := 0) rfl ?_
        refine fw_ial rfl u11 (by omega) (by omega) (by omega) ?_
        exact ik_Wret rfl rfl ⟨_, _, rfl, rfl, rfl, rfl, ⟨(by rw [hp, mx_pk_d (by omega), if_pos (by omega), hw.1]), F⟩⟩

theorem cs_goalBy {h : List ik_E} {p : Int} {d : Int} {pl : Int} {lo : Int} {s : Nat} {wg : List Int} {wc : List Int} {we : List Int} {L : List (Int × Int)} (q0 : 0 ≤ p) (q1 : p < 12) (q2 : 0 ≤ d) (q3 : d < 100) (q4 : mx_wy wg wc we p L) (q5 : mx_ok pl L) (h7 : cE h 7 (.inr (0, [fI pl, fI ((s : Nat) : Int), fI lo, .ref 8, .ref 9, .ref 10, .ref 11, .ref 12, .ref 13]))) (h11 : cE h 11 (.inl (.int, fA wg))) (n11 : wg.length = 60) (h12 : cE h 12 (.inl (.int, fA wc))) (n12 : wc.length = 60) (h13 : cE h 13 (.inl (.int, fA we))) (n13 : we.length = 12) (hl : h.length = 94) : ik_F 18 [.ref 7, fI p, fI d] h (fun rv h' => rv = [fI (mx_pk L d p)] ∧ hfr [] h h') := by
  refine ik_Wk 4 (pc' := 4) (loc' := [some (.ref 7), some (fI p), some (fI d), some (fI 0), none]) (st' := [fI 5, fI p]) (h' := h) (cl' := 0) (sl' := 0) rfl ?_
  refine fx_mulc rfl ?_
  refine ik_Wk 1 (pc' := 7) (loc' := [some (.ref 7), some (fI p), some (fI d), some (fI 0), some (fI (5 * p))]) (st' := []) (h' := h) (cl' := 0) (sl' := 0) rfl ?_
  exact cs_goalByL (p := p) (d := d) (pl := pl) (lo := lo) (s := s) (wg := wg) (wc := wc) (we := we) (L := L) q0 q1 q2 q3 q4 q5  (L.length + 1) 0 0 (5 * p) h h7 h11 n11 h12 n12 h13 n13 hl (hfr_refl [] h) (by omega) (by omega) (by omega) (by rw [List.drop_zero, Int.sub_zero]) (by omega)

theorem cs_draw {h : List ik_E} {mi : Int} {sd : Int} (q0 : 0 ≤ sd ∧ sd < 2147483648) (h14 : cE h 14 (.inr (1, [.ref 7, .ref 15, .ref 16, fI mi, fJ sd]))) (hl : h.length = 94) : ik_F 27 [.ref 14] h (fun rv h' => rv = [fI (mx_v sd)] ∧ cE h' 14 (.inr (1, [.ref 7, .ref 15, .ref 16, fI mi, fJ (mx_d sd)])) ∧ hfr [14] h h') := by
  refine ik_Wk 2 (pc' := 2) (loc' := [some (.ref 14)]) (st' := [.ref 14, .ref 14]) (h' := h) (cl' := 0) (sl' := 0) rfl ?_
  refine fw_gf rfl rfl h14 rfl ?_
  refine fw_l2 1103515245 rfl rfl (by decide) ?_
  refine fw_lmul rfl ?_
  refine fw_l2 12345 rfl rfl (by decide) ?_
  refine fw_ladd rfl ?_
  refine fw_l2 2147483648 rfl rfl (by decide) ?_
  refine fx_lrem rfl (by omega) (by omega) (by omega) (by omega) ?_
  refine fx_pf rfl rfl h14 (Nat.le_of_ble_eq_true rfl) rfl rfl ?_
  intro h_22 e_22 f_22 l_22
  have k_22 := l_22.trans hl
  have fr_22 := hfr_w (hfr_refl [14] h) f_22 l_22 (by decide)
  have g_22_14 : cE h_22 14 (.inr (1, [.ref 7, .ref 15, .ref 16, fI mi, fJ (((sd * 1103515245) + 12345) % 2147483648)])) := e_22
  refine ik_Wk 1 (pc' := 21) (loc' := [some (.ref 14)]) (st' := [.ref 14]) (h' := h_22) (cl' := 0) (sl' := 0) rfl ?_
  refine fw_gf rfl rfl g_22_14 rfl ?_
  refine fw_l2 65536 rfl rfl (by decide) ?_
  refine fx_ldiv rfl (by omega) (by omega) (by omega) (by omega) ?_
  refine fw_l2 100 rfl rfl (by decide) ?_
  refine fx_lrem rfl (by omega) (by omega) (by omega) (by omega) ?_
  refine fx_l2i rfl ?_
  exact ik_Wret rfl rfl ⟨_, _, rfl, rfl, rfl, rfl, ⟨rfl, g_22_14, fr_22⟩⟩

theorem cr_draw {h : List ik_E} {f : Nat → Int} {sd : Int} (q0 : 0 ≤ sd ∧ sd < 2147483648) (h66 : cE h 66 (.inr (10, [fI (f 0), .ref 67, .ref 68, .ref 69, fI (f 4), .ref 70, .ref 71, fI (f 7), fI sd, .ref 72, fI (f 10), fI (f 11), fI (f 12), fJ (f 13), fI (f 14), fI (f 15), fI (f 16), fI (f 17), .ref 73, .ref 74, .ref 75, .ref 76, .ref 77, .ref 78, fI (f 24), .ref 79, .ref 80, .ref 81, .ref 82, .ref 83, .ref 84, .ref 85, fJ (f 32), fJ (f 33), .ref 86, .ref 87, fI (f 36), .ref 88, .ref 89, .ref 90, .ref 91, .ref 92, .ref 93]))) (hl : h.length = 94) : ik_F 193 [.ref 66, fI 100] h (fun rv h' => rv = [fI (mx_v sd)] ∧ cE h' 66 (.inr (10, [fI (f 0), .ref 67, .ref 68, .ref 69, fI (f 4), .ref 70, .ref 71, fI (f 7), fI (mx_d sd), .ref 72, fI (f 10), fI (f 11), fI (f 12), fJ (f 13), fI (f 14), fI (f 15), fI (f 16), fI (f 17), .ref 73, .ref 74, .ref 75, .ref 76, .ref 77, .ref 78, fI (f 24), .ref 79, .ref 80, .ref 81, .ref 82, .ref 83, .ref 84, .ref 85, fJ (f 32), fJ (f 33), .ref 86, .ref 87, fI (f 36), .ref 88, .ref 89, .ref 90, .ref 91, .ref 92, .ref 93])) ∧ hfr [66] h h') := by
  refine ik_Wk 2 (pc' := 2) (loc' := [some (.ref 66), some (fI 100)]) (st' := [.ref 66, .ref 66]) (h' := h) (cl' := 0) (sl' := 0) rfl ?_
  refine fw_gf rfl rfl h66 rfl ?_
  refine fw_i2l rfl (by omega) (by omega) ?_
  refine fw_l2 1103515245 rfl rfl (by decide) ?_
  refine fw_lmul rfl ?_
  refine fw_l2 12345 rfl rfl (by decide) ?_
  refine fw_ladd rfl ?_
  refine fw_l2 2147483648 rfl rfl (by decide) ?_
  refine fx_lrem rfl (by omega) (by omega) (by omega) (by omega) ?_
  refine fx_l2i rfl ?_
  refine fx_pf rfl rfl h66 (Nat.le_of_ble_eq_true rfl) rfl rfl ?_
  intro h_23 e_23 f_23 l_23
  have k_23 := l_23.trans hl
  have fr_23 := hfr_w (hfr_refl [66] h) f_23 l_23 (by decide)
  have g_23_66 : cE h_23 66 (.inr (10, [fI (f 0), .ref 67, .ref 68, .ref 69, fI (f 4), .ref 70, .ref 71, fI (f 7), fI (((sd * 1103515245) + 12345) % 2147483648), .ref 72, fI (f 10), fI (f 11), fI (f 12), fJ (f 13), fI (f 14), fI (f 15), fI (f 16), fI (f 17), .ref 73, .ref 74, .ref 75, .ref 76, .ref 77, .ref 78, fI (f 24), .ref 79, .ref 80, .ref 81, .ref 82, .ref 83, .ref 84, .ref 85, fJ (f 32), fJ (f 33), .ref 86, .ref 87, fI (f 36), .ref 88, .ref 89, .ref 90, .ref 91, .ref 92, .ref 93])) := e_23
  refine ik_Wk 1 (pc' := 23) (loc' := [some (.ref 66), some (fI 100)]) (st' := [.ref 66]) (h' := h_23) (cl' := 0) (sl' := 0) rfl ?_
  refine fw_gf rfl rfl g_23_66 rfl ?_
  refine fx_ldw 65536 rfl rfl (by decide) ?_
  refine fx_idiv rfl (by omega) (by omega) (by omega) (by omega) ?_
  refine ik_Wk 1 (pc' := 31) (loc' := [some (.ref 66), some (fI 100)]) (st' := [fI 100, fI ((((sd * 1103515245) + 12345) % 2147483648) / 65536)]) (h' := h_23) (cl' := 0) (sl' := 0) rfl ?_
  refine fx_irem rfl (by omega) (by omega) (by omega) (by omega) ?_
  exact ik_Wret rfl rfl ⟨_, _, rfl, rfl, rfl, rfl, ⟨rfl, g_23_66, fr_23⟩⟩

theorem cr_goneL {h : List ik_E} {p : Int} {f : Nat → Int} {s : Nat} {cn : List Int} {go : List Int} {ch : List Int} {gt : List Int} {gd : List Int} {pl : Int} {sd : Int} (q0 : 0 ≤ p) (q1 : p < 12) (q2 : s < 4096) (q3 : 0 ≤ cn.getD p.toNat 0 ∧ cn.getD p.toNat 0 ≤ 4) (q4 : ∀ j : Int, 4 * p ≤ j → j < 4 * p + cn.getD p.toNat 0 → 0 ≤ ch.getD j.toNat 0 ∧ ch.getD j.toNat 0 ≤ 100) (q5 : 1 ≤ cn.getD p.toNat 0) (q6 : 0 ≤ sd ∧ sd < 2147483648) (q7 : mx_ok pl (mx_w cn go ch s p)) {g1 d1 : List Int} (hat : mx_at 0 (mx_w cn go ch s p) g1 d1 (mx_w cn go ch s p).length) : ∀ (k : Nat) (j : Nat) (le : Int) (i : Int) (u : List ik_E) (u66 : cE u 66 (.inr (10, [fI (f 0), .ref 67, .ref 68, .ref 69, fI ((s : Nat) : Int), .ref 70, .ref 71, fI (f 7), fI (mx_d sd), .ref 72, fI (f 10), fI (f 11), fI (f 12), fJ (f 13), fI (f 14), fI (f 15), fI (f 16), fI (f 17), .ref 73, .ref 74, .ref 75, .ref 76, .ref 77, .ref 78, fI ((mx_w cn go ch s p).length : Int), .ref 79, .ref 80, .ref 81, .ref 82, .ref 83, .ref 84, .ref 85, fJ (f 32), fJ (f 33), .ref 86, .ref 87, fI (f 36), .ref 88, .ref 89, .ref 90, .ref 91, .ref 92, .ref 93]))) (u77 : cE u 77 (.inl (.int, fA g1))) (n77 : g1.length = 5) (u78 : cE u 78 (.inl (.int, fA d1))) (n78 : d1.length = 5) (ul : u.length = 94) (F : hfr [66, 77, 78] h u) (hj : j < (mx_w cn go ch s p).length) (hi : i = (j : Int)) (hle : 0 ≤ le ∧ le < mx_cs ((mx_w cn go ch s p).drop j)) (hl9 : le < 100) (hp : mx_pk (mx_w cn go ch s p) (mx_v sd) p = mx_pk ((mx_w cn go ch s p).drop j) le p) (hk : ((mx_w cn go ch s p).length : Int) - (j : Int) < (k : Int)), ik_G 195 14 [some (.ref 66), some (fI p), some (fI le), some (fI i)] [] u (fun rv h' => ∃ (gt' : List Int) (gd' : List Int), rv = [fI (mx_pk (mx_w cn go ch s p) (mx_v sd) p)] ∧ cE h' 66 (.inr (10, [fI (f 0), .ref 67, .ref 68, .ref 69, fI ((s : Nat) : Int), .ref 70, .ref 71, fI (f 7), fI (mx_d sd), .ref 72, fI (f 10), fI (f 11), fI (f 12), fJ (f 13), fI (f 14), fI (f 15), fI (f 16), fI (f 17), .ref 73, .ref 74, .ref 75, .ref 76, .ref 77, .ref 78, fI ((mx_w cn go ch s p).length : Int), .ref 79, .ref 80, .ref 81, .ref 82, .ref 83, .ref 84, .ref 85, fJ (f 32), fJ (f 33), .ref 86, .ref 87, fI (f 36), .ref 88, .ref 89, .ref 90, .ref 91, .ref 92, .ref 93])) ∧ cE h' 77 (.inl (.int, fA gt')) ∧ gt'.length = 5 ∧ cE h' 78 (.inl (.int, fA gd')) ∧ gd'.length = 5 ∧ hfr [66, 77, 78] h h') := by
  intro k
  induction k with
  | zero => intro j le i u u66 u77 n77 u78 n78 ul F hj hi hle hl9 hp hk; omega
  | succ k ih =>
    intro j le i u u66 u77 n77 u78 n78 ul F hj hi hle hl9 hp hk
    obtain ⟨o1, o2, o3⟩ := q7
    have ej : i.toNat = 0 + j := by omega
    have hw := hat j hj
    rw [← ej] at hw
    have hq := o3 j hj
    have hcs := mx_cs_d hj
    have hlen := o1
    refine ik_Wk 2 (pc' := 16) (loc' := [some (.ref 66), some (fI p), some (fI le), some (fI i)]) (st' := [.ref 66, fI le]) (h' := u) (cl' := 0) (sl' := 0) rfl ?_
    refine fw_gf rfl rfl u66 rfl ?_
    refine ik_Wk 1 (pc' := 20) (loc' := [some (.ref 66), some (fI p), some (fI le), some (fI i)]) (st' := [fI i, .ref 78, fI le]) (h' := u) (cl' := 0) (sl' := 0) rfl ?_
    refine fw_ial rfl u78 (by omega) (by omega) (by omega) ?_
    refine fw_ic_lt rfl rfl (by omega) (by omega) (by omega) (by omega) (fun hc1 => ?_) (fun hc1 => ?_)
    · refine ik_Wk 1 (pc' := 40) (loc' := [some (.ref 66), some (fI p), some (fI le), some (fI i)]) (st' := [.ref 66]) (h' := u) (cl' := 0) (sl' := 0) rfl ?_
      refine fw_gf rfl rfl u66 rfl ?_
      refine ik_Wk 1 (pc' := 44) (loc' := [some (.ref 66), some (fI p), some (fI le), some (fI i)]) (st' := [fI i, .ref 77]) (h' := u) (cl' := 0) (sl' := 0) rfl ?_
      refine fw_ial rfl u77 (by omega) (by omega) (by omega) ?_
      exact ik_Wret rfl rfl ⟨_, _, rfl, rfl, rfl, rfl, ⟨g1, d1, (by rw [hp, mx_pk_d hj, if_pos (by omega), hw.1]), u66, u77, n77, u78, n78, F⟩⟩
    · refine ik_Wk 2 (pc' := 26) (loc' := [some (.ref 66), some (fI p), some (fI le), some (fI i)]) (st' := [.ref 66, fI le]) (h' := u) (cl' := 0) (sl' := 0) rfl ?_
      refine fw_gf rfl rfl u66 rfl ?_
      refine ik_Wk 1 (pc' := 30) (loc' := [some (.ref 66), some (fI p), some (fI le), some (fI i)]) (st' := [fI i, .ref 78, fI le]) (h' := u) (cl' := 0) (sl' := 0) rfl ?_
      refine fw_ial rfl u78 (by omega) (by omega) (by omega) ?_
      refine fw_sub rfl ?_
      refine ik_Wk 1 (pc' := 33) (loc' := [some (.ref 66), some (fI p), some (fI (le - (d1.getD i.toNat 0))), some (fI i)]) (st' := []) (h' := u) (cl' := 0) (sl' := 0) rfl ?_
      refine fw_inc (a := i) (loc' := [some (.ref 66), some (fI p), some (fI (le - (d1.getD i.toNat 0))), some (fI (i + 1))]) rfl rfl (Nat.le_of_ble_eq_true rfl) rfl ?_
      refine ik_Wk 1 (pc' := 14) (loc' := [some (.ref 66), some (fI p), some (fI (le - (d1.getD i.toNat 0))), some (fI (i + 1))]) (st' := []) (h' := u) (cl' := 0) (sl' := 0) rfl ?_
      have hj2 : j + 1 < (mx_w cn go ch s p).length := by
        rcases Nat.lt_or_ge (j + 1) (mx_w cn go ch s p).length with q | q
        · exact q
        · rw [mx_cs_e q] at hcs; omega
      exact ih  (j + 1) (le - (d1.getD i.toNat 0)) (i + 1) u u66 u77 n77 u78 n78 ul F hj2 (by omega) (by omega) (by omega) (by rw [hp, mx_pk_d hj, if_neg (by omega), ← hw.2]) (by omega)

theorem cr_gone {h : List ik_E} {p : Int} {f : Nat → Int} {s : Nat} {cn : List Int} {go : List Int} {ch : List Int} {gt : List Int} {gd : List Int} {pl : Int} {sd : Int} (q0 : 0 ≤ p) (q1 : p < 12) (q2 : s < 4096) (q3 : 0 ≤ cn.getD p.toNat 0 ∧ cn.getD p.toNat 0 ≤ 4) (q4 : ∀ j : Int, 4 * p ≤ j → j < 4 * p + cn.getD p.toNat 0 → 0 ≤ ch.getD j.toNat 0 ∧ ch.getD j.toNat 0 ≤ 100) (q5 : 1 ≤ cn.getD p.toNat 0) (q6 : 0 ≤ sd ∧ sd < 2147483648) (q7 : mx_ok pl (mx_w cn go ch s p)) (h66 : cE h 66 (.inr (10, [fI (f 0), .ref 67, .ref 68, .ref 69, fI ((s : Nat) : Int), .ref 70, .ref 71, fI (f 7), fI sd, .ref 72, fI (f 10), fI (f 11), fI (f 12), fJ (f 13), fI (f 14), fI (f 15), fI (f 16), fI (f 17), .ref 73, .ref 74, .ref 75, .ref 76, .ref 77, .ref 78, fI (f 24), .ref 79, .ref 80, .ref 81, .ref 82, .ref 83, .ref 84, .ref 85, fJ (f 32), fJ (f 33), .ref 86, .ref 87, fI (f 36), .ref 88, .ref 89, .ref 90, .ref 91, .ref 92, .ref 93]))) (h67 : cE h 67 (.inl (.int, fA cn))) (n67 : cn.length = 12) (h68 : cE h 68 (.inl (.int, fA go))) (n68 : go.length = 48) (h69 : cE h 69 (.inl (.int, fA ch))) (n69 : ch.length = 48) (h77 : cE h 77 (.inl (.int, fA gt))) (n77 : gt.length = 5) (h78 : cE h 78 (.inl (.int, fA gd))) (n78 : gd.length = 5) (hl : h.length = 94) : ik_F 195 [.ref 66, fI p] h (fun rv h' => ∃ (gt' : List Int) (gd' : List Int), rv = [fI (mx_pk (mx_w cn go ch s p) (mx_v sd) p)] ∧ cE h' 66 (.inr (10, [fI (f 0), .ref 67, .ref 68, .ref 69, fI ((s : Nat) : Int), .ref 70, .ref 71, fI (f 7), fI (mx_d sd), .ref 72, fI (f 10), fI (f 11), fI (f 12), fJ (f 13), fI (f 14), fI (f 15), fI (f 16), fI (f 17), .ref 73, .ref 74, .ref 75, .ref 76, .ref 77, .ref 78, fI ((mx_w cn go ch s p).length : Int), .ref 79, .ref 80, .ref 81, .ref 82, .ref 83, .ref 84, .ref 85, fJ (f 32), fJ (f 33), .ref 86, .ref 87, fI (f 36), .ref 88, .ref 89, .ref 90, .ref 91, .ref 92, .ref 93])) ∧ cE h' 77 (.inl (.int, fA gt')) ∧ gt'.length = 5 ∧ cE h' 78 (.inl (.int, fA gd')) ∧ gd'.length = 5 ∧ hfr [66, 77, 78] h h') := by
  refine ik_Wk 2 (pc' := 2) (loc' := [some (.ref 66), some (fI p), none, none]) (st' := [fI p, .ref 66]) (h' := h) (cl' := 0) (sl' := 0) rfl ?_
  refine fw_call 152 2 0 [.ref 66, fI p] [] rfl rfl rfl (by decide) rfl rfl (fw_rec hl rfl h66 rfl (by decide)) (cr_list (p := p) (f := fun j => ([f 0, 0, 0, 0, 0, 0, 0, f 7, sd, 0, f 10, f 11, f 12, f 13, f 14, f 15, f 16, f 17, 0, 0, 0, 0, 0, 0, f 24, 0, 0, 0, 0, 0, 0, 0, f 32, f 33, 0, 0, f 36, 0, 0, 0, 0, 0, 0] : List Int).getD j 0) (s := s) (cn := cn) (go := go) (ch := ch) (gt := gt) (gd := gd) (by omega) (by omega) (by omega) q3 q4 q5 h66 h67 n67 h68 n68 h69 n69 h77 n77 h78 n78 hl) ?_
  rintro _ h_24 ⟨gt'_24, gd'_24, rfl, e_24_66, e_24_77, m_24_77, e_24_78, m_24_78, p_24_0, F_24⟩
  have k_24 := F_24.1.trans hl
  have fr_24 := hfr_c (hfr_refl [66, 77, 78] h) F_24 (by decide)
  have g_24_67 := (F_24.2 67 (by decide +kernel)).trans h67
  have g_24_68 := (F_24.2 68 (by decide +kernel)).trans h68
  have g_24_69 := (F_24.2 69 (by decide +kernel)).trans h69
  have g_24_66 : cE h_24 66 (.inr (10, [fI (f 0), .ref 67, .ref 68, .ref 69, fI ((s : Nat) : Int), .ref 70, .ref 71, fI (f 7), fI sd, .ref 72, fI (f 10), fI (f 11), fI (f 12), fJ (f 13), fI (f 14), fI (f 15), fI (f 16), fI (f 17), .ref 73, .ref 74, .ref 75, .ref 76, .ref 77, .ref 78, fI ((mx_w cn go ch s p).length : Int), .ref 79, .ref 80, .ref 81, .ref 82, .ref 83, .ref 84, .ref 85, fJ (f 32), fJ (f 33), .ref 86, .ref 87, fI (f 36), .ref 88, .ref 89, .ref 90, .ref 91, .ref 92, .ref 93])) := e_24_66
  have g_24_77 : cE h_24 77 (.inl (.int, fA gt'_24)) := e_24_77
  have g_24_78 : cE h_24 78 (.inl (.int, fA gd'_24)) := e_24_78
  refine ik_Wk 0 (pc' := 5) (loc' := [some (.ref 66), some (fI p), none, none]) (st' := []) (h' := h_24) (cl' := 0) (sl' := 0) rfl ?_
  refine ik_Wk 1 (pc' := 6) (loc' := [some (.ref 66), some (fI p), none, none]) (st' := [.ref 66]) (h' := h_24) (cl' := 0) (sl' := 0) rfl ?_
  refine fw_bi rfl (by decide) ?_
  refine fw_call 193 2 0 [.ref 66, fI 100] [] rfl rfl rfl (by decide) rfl rfl (fw_rec k_24 rfl g_24_66 rfl (by decide)) (cr_draw (f := fun j => ([(f 0), 0, 0, 0, ((s : Nat) : Int), 0, 0, (f 7), 0, 0, (f 10), (f 11), (f 12), (f 13), (f 14), (f 15), (f 16), (f 17), 0, 0, 0, 0, 0, 0, ((mx_w cn go ch s p).length : Int), 0, 0, 0, 0, 0, 0, 0, (f 32), (f 33), 0, 0, (f 36), 0, 0, 0, 0, 0, 0] : List Int).getD j 0) (sd := sd) (by omega) g_24_66 k_24) ?_
  rintro _ h_25 ⟨rfl, e_25_66, F_25⟩
  have k_25 := F_25.1.trans k_24
  have fr_25 := hfr_c fr_24 F_25 (by decide)
  have g_25_67 := (F_25.2 67 (by decide +kernel)).trans g_24_67
  have g_25_68 := (F_25.2 68 (by decide +kernel)).trans g_24_68
  have g_25_69 := (F_25.2 69 (by decide +kernel)).trans g_24_69
  have g_25_77 := (F_25.2 77 (by decide +kernel)).trans g_24_77
  have g_25_78 := (F_25.2 78 (by decide +kernel)).trans g_24_78
  have g_25_66 : cE h_25 66 (.inr (10, [fI (f 0), .ref 67, .ref 68, .ref 69, fI ((s : Nat) : Int), .ref 70, .ref 71, fI (f 7), fI (mx_d sd), .ref 72, fI (f 10), fI (f 11), fI (f 12), fJ (f 13), fI (f 14), fI (f 15), fI (f 16), fI (f 17), .ref 73, .ref 74, .ref 75, .ref 76, .ref 77, .ref 78, fI ((mx_w cn go ch s p).length : Int), .ref 79, .ref 80, .ref 81, .ref 82, .ref 83, .ref 84, .ref 85, fJ (f 32), fJ (f 33), .ref 86, .ref 87, fI (f 36), .ref 88, .ref 89, .ref 90, .ref 91, .ref 92, .ref 93])) := e_25_66
  refine ik_Wk 0 (pc' := 11) (loc' := [some (.ref 66), some (fI p), none, none]) (st' := [fI (mx_v sd)]) (h' := h_25) (cl' := 0) (sl' := 0) rfl ?_
  refine ik_Wk 3 (pc' := 14) (loc' := [some (.ref 66), some (fI p), some (fI (mx_v sd)), some (fI 0)]) (st' := []) (h' := h_25) (cl' := 0) (sl' := 0) rfl ?_
  have o1 := q7.1
  have o2 := q7.2.1
  have hj0 : 0 < (mx_w cn go ch s p).length := by
    rcases Nat.eq_zero_or_pos (mx_w cn go ch s p).length with q | q
    · have := mx_cs_e (L := (mx_w cn go ch s p)) (j := 0) (by omega); rw [List.drop_zero] at this; omega
    · exact q
  have hv := mx_v_b sd
  exact cr_goneL (p := p) (f := f) (s := s) (cn := cn) (go := go) (ch := ch) (gt := gt) (gd := gd) (pl := pl) (sd := sd) q0 q1 q2 q3 q4 q5 q6 q7 p_24_0 ((mx_w cn go ch s p).length + 1) 0 (mx_v sd) 0 h_25 g_25_66 g_25_77 m_24_77 g_25_78 m_24_78 k_25 fr_25 hj0 rfl (by rw [List.drop_zero, o2]; exact hv) (by omega) (by rw [List.drop_zero]) (by omega)

end