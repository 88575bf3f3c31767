noncomputable section
/-! courses: set in, come by, odds at (written by wip/fx/u8.py) -/
theorem cj_fillL {h : List ik_E} {a : Nat} {xs : List Int} (q0 : a < 94)  : ∀ (k : Nat) (i : Int) (x1 : List Int) (u : List ik_E) (ua : cE u a (.inl (.long, fL x1))) (na : x1.length = 12) (ul : u.length = 94) (F : hfr [a] h u) (hi : 0 ≤ i ∧ i ≤ 12) (hx : mf_is i x1 (fun _ => 0)) (hk : 12 - i < (k : Int)), ik_G 223 6 [some (.ref a), some (fJ 0), none, some (fI i), some (fI 12)] [] u (fun rv h' => ∃ (xs' : List Int), rv = [] ∧ cE h' a (.inl (.long, fL xs')) ∧ xs'.length = 12 ∧ (mf_is 12 xs' (fun _ => 0)) ∧ hfr [a] h h') := by
  intro k
  induction k with
  | zero => intro i x1 u ua na ul F hi hx hk; omega
  | succ k ih =>
    intro i x1 u ua na ul F hi hx hk
    refine ik_Wk 2 (pc' := 9) (loc' := [some (.ref a), some (fJ 0), none, some (fI i), some (fI 12)]) (st' := [fI 12, fI i]) (h' := u) (cl' := 0) (sl' := 0) rfl ?_
    refine fw_ic_ge rfl rfl (by omega) (by omega) (by omega) (by omega) (fun hc1 => ?_) (fun hc1 => ?_)
    · have ei : i = 12 := by omega
      rw [ei] at hx
      exact ik_Wret rfl rfl ⟨_, _, rfl, rfl, rfl, rfl, ⟨x1, rfl, ua, na, hx, F⟩⟩
    · refine ik_Wk 3 (pc' := 15) (loc' := [some (.ref a), some (fJ 0), none, some (fI i), some (fI 12)]) (st' := [fJ 0, fI i, .ref a]) (h' := u) (cl' := 0) (sl' := 0) rfl ?_
      have hl2 : (x1.set i.toNat 0).length = 12 := (List.length_set ..).trans na
      refine fx_las rfl ua (by omega) (by omega) (by omega) ?_
      intro h_118 e_118 f_118 l_118
      have k_118 := l_118.trans ul
      have fr_118 := hfr_w F f_118 l_118 (by simp <;> omega)
      have g_118_a : cE h_118 a (.inl (.long, fL (x1.set i.toNat 0))) := e_118
      refine fw_inc (a := i) (loc' := [some (.ref a), some (fJ 0), none, some (fI (i + 1)), some (fI 12)]) rfl rfl (Nat.le_of_ble_eq_true rfl) rfl ?_
      refine ik_Wk 1 (pc' := 6) (loc' := [some (.ref a), some (fJ 0), none, some (fI (i + 1)), some (fI 12)]) (st' := []) (h' := h_118) (cl' := 0) (sl' := 0) rfl ?_
      exact ih  (i + 1) (x1.set i.toNat 0) h_118 g_118_a hl2 k_118 fr_118 (by omega) (mf_is_x hx (by omega) (by omega) rfl) (by omega)

theorem cj_fill {h : List ik_E} {a : Nat} {xs : List Int} (q0 : a < 94) (ha : cE h a (.inl (.long, fL xs))) (na : xs.length = 12) (hl : h.length = 94) : ik_F 223 [.ref a, fJ 0] h (fun rv h' => ∃ (xs' : List Int), rv = [] ∧ cE h' a (.inl (.long, fL xs')) ∧ xs'.length = 12 ∧ (mf_is 12 xs' (fun _ => 0)) ∧ hfr [a] h h') := by
  refine ik_Wk 3 (pc' := 3) (loc' := [some (.ref a), some (fJ 0), none, some (fI 0), none]) (st' := [.ref a]) (h' := h) (cl' := 0) (sl' := 0) rfl ?_
  refine fx_aln rfl ha ((fL_len _).trans na) (by decide) ?_
  refine ik_Wk 1 (pc' := 6) (loc' := [some (.ref a), some (fJ 0), none, some (fI 0), some (fI 12)]) (st' := []) (h' := h) (cl' := 0) (sl' := 0) rfl ?_
  exact cj_fillL (a := a) (xs := xs) q0  13 0 xs h ha na hl (hfr_refl [a] h) (by omega) (mf_is_0 (by omega)) (by omega)

theorem cs_setIn {h : List ik_E} {C : Nat} {pl : Int} {lo : Int} {s : Nat} {kd : Int} {qp : Int} {W : Int → List (Int × Int)} (q0 : 20 < C ∧ C < 42) (q1 : 1 ≤ pl ∧ pl ≤ 12) (q2 : 0 ≤ qp ∧ qp < pl) (h7 : cE h 7 (.inr (0, [fI pl, fI ((s : Nat) : Int), fI lo, .ref 8, .ref 9, .ref 10, .ref 11, .ref 12, .ref 13]))) (hC : mf_cr h C ) (hl : h.length = 94) : ik_F 30 [.ref C, fI kd, fI qp] h (fun rv h' => rv = [.ref C] ∧ mf_cv h' C W pl kd qp 0 ∧ hfr [C, C + 1, C + 2, C + 3] h h') := by
  obtain ⟨M, a, b, k0, u0, cm, xs, ys, hM, hab, hC1, hM1, ha1, hb1, nM, na, nb⟩ := hC
  refine ik_Wk 2 (pc' := 2) (loc' := [some (.ref C), some (fI kd), some (fI qp)]) (st' := [fI kd, .ref C]) (h' := h) (cl' := 0) (sl' := 0) rfl ?_
  refine fx_pf rfl rfl hC1 (Nat.le_of_ble_eq_true rfl) rfl rfl ?_
  intro h_119 e_119 f_119 l_119
  have k_119 := l_119.trans hl
  have fr_119 := hfr_w (hfr_refl [C, C + 1, C + 2, C + 3] h) f_119 l_119 (by simp <;> omega)
  have g_119_7 := (f_119 7 (by omega)).trans h7
  have g_119_M := (f_119 M (by omega)).trans hM1
  have g_119_a := (f_119 a (by omega)).trans ha1
  have g_119_b := (f_119 b (by omega)).trans hb1
  have g_119_C : cE h_119 C (.inr (2, [.ref 7, fI kd, fI u0, .ref M, .ref a, .ref b])) := e_119
  refine ik_Wk 2 (pc' := 7) (loc' := [some (.ref C), some (fI kd), some (fI qp)]) (st' := [fI 0, .ref C]) (h' := h_119) (cl' := 0) (sl' := 0) rfl ?_
  refine fx_pf rfl rfl g_119_C (Nat.le_of_ble_eq_true rfl) rfl rfl ?_
  intro h_120 e_120 f_120 l_120
  have k_120 := l_120.trans k_119
  have fr_120 := hfr_w fr_119 f_120 l_120 (by simp <;> omega)
  have g_120_7 := (f_120 7 (by omega)).trans g_119_7
  have g_120_M := (f_120 M (by omega)).trans g_119_M
  have g_120_a := (f_120 a (by omega)).trans g_119_a
  have g_120_b := (f_120 b (by omega)).trans g_119_b
  have g_120_C : cE h_120 C (.inr (2, [.ref 7, fI kd, fI 0, .ref M, .ref a, .ref b])) := e_120
  refine ik_Wk 1 (pc' := 11) (loc' := [some (.ref C), some (fI kd), some (fI qp)]) (st' := [.ref C]) (h' := h_120) (cl' := 0) (sl' := 0) rfl ?_
  refine fw_gf rfl rfl g_120_C rfl ?_
  refine fw_lc (z := 0) rfl (by decide) ?_
  refine fw_call 223 2 3 [.ref a, fJ 0] [] rfl rfl rfl (by decide) rfl rfl (fw_sta k_120 (fw_ftx rfl wv_n (wl_c (wl_r (by omega)) (wl_c rfl (wl_c rfl wl_n)))) (by decide)) (cj_fill (a := a) (xs := xs) (by omega) g_120_a na k_120) ?_
  rintro _ h_121 ⟨xs'_121, rfl, e_121_a, m_121_a, p_121_0, F_121⟩
  have k_121 := F_121.1.trans k_120
  have fr_121 := hfr_c fr_120 F_121 (by intro b_ hb; simp at hb ⊢; omega)
  have g_121_7 := (F_121.2 7 (by simp <;> omega)).trans g_120_7
  have g_121_C := (F_121.2 C (by simp <;> omega)).trans g_120_C
  have g_121_M := (F_121.2 M (by simp <;> omega)).trans g_120_M
  have g_121_b := (F_121.2 b (by simp <;> omega)).trans g_120_b
  have g_121_a : cE h_121 a (.inl (.long, fL xs'_121)) := e_121_a
  refine ik_Wk 0 (pc' := 18) (loc' := [some (.ref C), some (fI kd), some (fI qp)]) (st' := []) (h' := h_121) (cl' := 0) (sl' := 0) rfl ?_
  refine ik_Wk 1 (pc' := 19) (loc' := [some (.ref C), some (fI kd), some (fI qp)]) (st' := [.ref C]) (h' := h_121) (cl' := 0) (sl' := 0) rfl ?_
  refine fw_gf rfl rfl g_121_C rfl ?_
  refine ik_Wk 1 (pc' := 23) (loc' := [some (.ref C), some (fI kd), some (fI qp)]) (st' := [fI qp, .ref a]) (h' := h_121) (cl' := 0) (sl' := 0) rfl ?_
  refine fw_l2 1000000000 rfl rfl (by decide) ?_
  have hl1 : (xs'_121.set qp.toNat 1000000000).length = 12 := (List.length_set ..).trans m_121_a
  refine fx_las rfl g_121_a (by omega) (by omega) (by omega) ?_
  intro h_122 e_122 f_122 l_122
  have k_122 := l_122.trans k_121
  have fr_122 := hfr_w fr_121 f_122 l_122 (by simp <;> omega)
  have g_122_7 := (f_122 7 (by omega)).trans g_121_7
  have g_122_C := (f_122 C (by omega)).trans g_121_C
  have g_122_M := (f_122 M (by omega)).trans g_121_M
  have g_122_b := (f_122 b (by omega)).trans g_121_b
  have g_122_a : cE h_122 a (.inl (.long, fL (xs'_121.set qp.toNat 1000000000))) := e_122
  refine ik_Wk 1 (pc' := 28) (loc' := [some (.ref C), some (fI kd), some (fI qp)]) (st' := [.ref C]) (h' := h_122) (cl' := 0) (sl' := 0) rfl ?_
  refine fw_gf rfl rfl g_122_C rfl ?_
  refine ik_Wk 2 (pc' := 33) (loc' := [some (.ref C), some (fI kd), some (fI qp)]) (st' := [.ref C, fI 0, .ref M]) (h' := h_122) (cl' := 0) (sl' := 0) rfl ?_
  refine fw_gf rfl rfl g_122_C rfl ?_
  refine ik_Wk 1 (pc' := 37) (loc' := [some (.ref C), some (fI kd), some (fI qp)]) (st' := [.ref C, .ref a, fI 0, .ref M]) (h' := h_122) (cl' := 0) (sl' := 0) rfl ?_
  refine fw_gf rfl rfl g_122_C rfl ?_
  refine ik_Wc 2 1 0 [.ref 7] [.ref a, fI 0, .ref M] rfl rfl rfl (by decide) rfl rfl (fw_rec k_122 (fw_ftx rfl (wv_c (wv_r (by omega)) (wv_c rfl (wv_c (wv_r (by omega)) wv_n))) (wl_c (wl_r (by omega)) (wl_c rfl (wl_c rfl wl_n)))) g_122_7 rfl (by decide)) ?_
  refine ik_Wk 0 (pc' := 0) (loc' := [some (.ref 7)]) (st' := []) (h' := h_122) (cl' := 0) (sl' := 0) rfl ?_
  refine ik_Wk 1 (pc' := 1) (loc' := [some (.ref 7)]) (st' := [.ref 7]) (h' := h_122) (cl' := 0) (sl' := 0) rfl ?_
  refine fw_gf rfl rfl g_122_7 rfl ?_
  refine ik_Wk 1 (pc' := 5) (loc' := [some (.ref 7)]) (st' := [fI 1, fI pl]) (h' := h_122) (cl' := 0) (sl' := 0) rfl ?_
  refine fw_sub rfl ?_
  refine ik_Wret rfl rfl ⟨_, _, rfl, rfl, ?_⟩
  refine ik_Wk 0 (pc' := 43) (loc' := [some (.ref C), some (fI kd), some (fI qp)]) (st' := [fI (pl - 1), .ref a, fI 0, .ref M]) (h' := h_122) (cl' := 0) (sl' := 0) rfl ?_
  refine fx_lal rfl g_122_a (by omega) (by omega) (by omega) ?_
  refine fx_l2i rfl ?_
  have hl2 : (cm.set (0 : Int).toNat ((xs'_121.set qp.toNat 1000000000).getD (pl - 1).toNat 0)).length = 201 := (List.length_set ..).trans nM
  refine fx_ias rfl g_122_M (by omega) (by omega) (by omega) ?_
  intro h_123 e_123 f_123 l_123
  have k_123 := l_123.trans k_122
  have fr_123 := hfr_w fr_122 f_123 l_123 (by simp <;> omega)
  have g_123_7 := (f_123 7 (by omega)).trans g_122_7
  have g_123_C := (f_123 C (by omega)).trans g_122_C
  have g_123_a := (f_123 a (by omega)).trans g_122_a
  have g_123_b := (f_123 b (by omega)).trans g_122_b
  have g_123_M : cE h_123 M (.inl (.int, fA (cm.set (0 : Int).toNat ((xs'_121.set qp.toNat 1000000000).getD (pl - 1).toNat 0)))) := e_123
  refine ik_Wk 1 (pc' := 47) (loc' := [some (.ref C), some (fI kd), some (fI qp)]) (st' := [.ref C]) (h' := h_123) (cl' := 0) (sl' := 0) rfl ?_
  have hz : mf_is 12 (xs'_121.set qp.toNat 1000000000) (mf_od W (pl - 1) kd qp 0) := by
    intro j hj
    show _ = if j = qp.toNat then 1000000000 else 0
    rw [fz_getD_set]
    by_cases w : j = qp.toNat
    · rw [if_pos ⟨w, by omega⟩, if_pos w]
    · rw [if_neg (fun z => w z.1), if_neg w]; exact p_121_0 j hj
  have hcm : ∀ j : Nat, (j : Int) ≤ 0 → (cm.set (0 : Int).toNat ((xs'_121.set qp.toNat 1000000000).getD (pl - 1).toNat 0)).getD j 0 = mf_cm W (pl - 1) kd qp j := by
    intro j hj
    rw [show j = 0 by omega, fz_getD_set, if_pos ⟨by omega, by omega⟩]
    exact hz _ (by omega)
  exact ik_Wret rfl rfl ⟨_, _, rfl, rfl, rfl, rfl, ⟨rfl, ⟨M, a, b, cm.set (0 : Int).toNat ((xs'_121.set qp.toNat 1000000000).getD (pl - 1).toNat 0), xs'_121.set qp.toNat 1000000000, ys, hM, hab, g_123_C, g_123_M, g_123_a, g_123_b, hl2, hl1, nb, by omega, fun j hj => hz j (by omega), hcm⟩, fr_123⟩⟩

theorem cs_comeG {h : List ik_E} {C : Nat} {pl : Int} {lo : Int} {s : Nat} {t : Int} {kd : Int} {qp : Int} {ut : Int} {wg : List Int} {wc : List Int} {we : List Int} {W : Int → List (Int × Int)} (q0 : 20 < C ∧ C < 42) (q1 : 1 ≤ pl ∧ pl ≤ 12) (q2 : 0 ≤ qp ∧ qp < pl) (q3 : 0 ≤ kd ∧ kd ≤ 2) (q4 : ∀ x : Int, 0 ≤ x → x < pl - 1 → mx_wy wg wc we x (W x)) (q5 : ∀ x : Int, 0 ≤ x → x < pl - 1 → mx_ok pl (W x)) (q6 : -2000000000 ≤ t ∧ t ≤ 2000000000) (v : Int) (hv : 1 ≤ v ∧ v ≤ 200) (n : Int) (hn : 0 ≤ n ∧ n ≤ 2) (M : Nat) (hM : M = C + 1) (cm1 : List Int) (u1 : Int) {R : List Value → List ik_E → Prop} (K : ∀ (w : List ik_E) (a1 : Nat) (b1 : Nat) (xs1 : List Int) (ys1 : List Int) (g2 : Int) (x5 : Option Value) (w7 : cE w 7 (.inr (0, [fI pl, fI ((s : Nat) : Int), fI lo, .ref 8, .ref 9, .ref 10, .ref 11, .ref 12, .ref 13]))) (w11 : cE w 11 (.inl (.int, fA wg))) (nw_11 : wg.length = 60) (w12 : cE w 12 (.inl (.int, fA wc))) (nw_12 : wc.length = 60) (w13 : cE w 13 (.inl (.int, fA we))) (nw_13 : we.length = 12) (wC : cE w C (.inr (2, [.ref 7, fI kd, fI u1, .ref M, .ref a1, .ref b1]))) (wM : cE w M (.inl (.int, fA cm1))) (nw_M : cm1.length = 201) (wa1 : cE w a1 (.inl (.long, fL xs1))) (nw_a1 : xs1.length = 12) (wb1 : cE w b1 (.inl (.long, fL ys1))) (nw_b1 : ys1.length = 12) (wl : w.length = 94) (F : hfr [C, C + 1, C + 2, C + 3] h w) (hab : (a1 = C + 2 ∧ b1 = C + 3) ∨ (a1 = C + 3 ∧ b1 = C + 2)) (his : mf_is pl xs1 (mf_od W (pl - 1) kd qp v.toNat)) (w5 : ik_wl 94 x5 = true), ik_G 31 84 [some (.ref C), some (fI t), some (fI v), some (fI n), some (fI g2), x5] [] w R) : ∀ (k : Nat) (g : Int) (a1 : Nat) (b1 : Nat) (xs1 : List Int) (ys1 : List Int) (o : Nat → Int) (x5 : Option Value) (u : List ik_E) (u7 : cE u 7 (.inr (0, [fI pl, fI ((s : Nat) : Int), fI lo, .ref 8, .ref 9, .ref 10, .ref 11, .ref 12, .ref 13]))) (u11 : cE u 11 (.inl (.int, fA wg))) (n11 : wg.length = 60) (u12 : cE u 12 (.inl (.int, fA wc))) (n12 : wc.length = 60) (u13 : cE u 13 (.inl (.int, fA we))) (n13 : we.length = 12) (uC : cE u C (.inr (2, [.ref 7, fI kd, fI u1, .ref M, .ref a1, .ref b1]))) (uM : cE u M (.inl (.int, fA cm1))) (nM : cm1.length = 201) (ua1 : cE u a1 (.inl (.long, fL xs1))) (na1 : xs1.length = 12) (ub1 : cE u b1 (.inl (.long, fL ys1))) (nb1 : ys1.length = 12) (ul : u.length = 94) (F : hfr [C, C + 1, C + 2, C + 3] h u) (hg : 0 ≤ g ∧ g ≤ n) (hab : (a1 = C + 2 ∧ b1 = C + 3) ∨ (a1 = C + 3 ∧ b1 = C + 2)) (hgd : mf_gd pl o) (his : mf_is pl xs1 o) (hit : mf_od W (pl - 1) kd qp v.toNat = mf_it W (pl - 1) (n - g).toNat o) (w5 : ik_wl 94 x5 = true) (hk : n - g < (k : Int)), ik_G 31 37 [some (.ref C), some (fI t), some (fI v), some (fI n), some (fI g), x5] [] u R := by
  intro k
  induction k with
  | zero => intro g a1 b1 xs1 ys1 o x5 u u7 u11 n11 u12 n12 u13 n13 uC uM nM ua1 na1 ub1 nb1 ul F hg hab hgd his hit w5 hk; omega
  | succ k ih =>
    intro g a1 b1 xs1 ys1 o x5 u u7 u11 n11 u12 n12 u13 n13 uC uM nM ua1 na1 ub1 nb1 ul F hg hab hgd his hit w5 hk
    refine ik_Wk 2 (pc' := 40) (loc' := [some (.ref C), some (fI t), some (fI v), some (fI n), some (fI g), x5]) (st' := [fI n, fI g]) (h' := u) (cl' := 0) (sl' := 0) rfl ?_
    refine fw_ic_ge rfl rfl (by omega) (by omega) (by omega) (by omega) (fun hc1 => ?_) (fun hc1 => ?_)
    · have eg : (n - g).toNat = 0 := by omega
      rw [eg] at hit
      exact K u a1 b1 xs1 ys1 g x5 u7 u11 n11 u12 n12 u13 n13 uC uM nM ua1 na1 ub1 nb1 ul F hab (by rw [hit]; exact his) w5
    · refine ik_Wk 1 (pc' := 44) (loc' := [some (.ref C), some (fI t), some (fI v), some (fI n), some (fI g), x5]) (st' := [.ref C]) (h' := u) (cl' := 0) (sl' := 0) rfl ?_
      refine fw_gf rfl rfl uC rfl ?_
      refine ik_Wk 1 (pc' := 48) (loc' := [some (.ref C), some (fI t), some (fI v), some (fI n), some (fI g), x5]) (st' := [.ref C, .ref 7]) (h' := u) (cl' := 0) (sl' := 0) rfl ?_
      refine fw_gf rfl rfl uC rfl ?_
      refine ik_Wk 1 (pc' := 52) (loc' := [some (.ref C), some (fI t), some (fI v), some (fI n), some (fI g), x5]) (st' := [.ref C, .ref a1, .ref 7]) (h' := u) (cl' := 0) (sl' := 0) rfl ?_
      refine fw_gf rfl rfl uC rfl ?_
      refine fw_call 17 3 0 [.ref 7, .ref a1, .ref b1] [] rfl rfl rfl (by decide) rfl rfl (fw_rec ul (fw_ftx rfl wv_n (wl_c (wl_r (by omega)) (wl_c rfl (wl_c rfl (wl_c rfl (wl_c rfl (wl_c w5 wl_n))))))) u7 rfl (by decide)) (cs_flow (a := a1) (b := b1) (pl := pl) (lo := lo) (s := s) (wg := wg) (wc := wc) (we := we) (xs := xs1) (ys := ys1) (by omega) q4 q5 his hgd (by omega) u7 u11 n11 u12 n12 u13 n13 ua1 na1 ub1 nb1 ul) ?_
      rintro _ h_124 ⟨ys'_124, rfl, e_124_b, m_124_b, p_124_0, F_124⟩
      have k_124 := F_124.1.trans ul
      have fr_124 := hfr_c F F_124 (by intro b_ hb; simp at hb ⊢; omega)
      have g_124_7 := (F_124.2 7 (by simp <;> omega)).trans u7
      have g_124_11 := (F_124.2 11 (by simp <;> omega)).trans u11
      have g_124_12 := (F_124.2 12 (by simp <;> omega)).trans u12
      have g_124_13 := (F_124.2 13 (by simp <;> omega)).trans u13
      have g_124_C := (F_124.2 C (by simp <;> omega)).trans uC
      have g_124_M := (F_124.2 M (by simp <;> omega)).trans uM
      have g_124_a1 := (F_124.2 a1 (by simp <;> omega)).trans ua1
      have g_124_b1 : cE h_124 b1 (.inl (.long, fL ys'_124)) := e_124_b
      refine ik_Wk 0 (pc' := 58) (loc' := [some (.ref C), some (fI t), some (fI v), some (fI n), some (fI g), x5]) (st' := []) (h' := h_124) (cl' := 0) (sl' := 0) rfl ?_
      refine ik_Wk 1 (pc' := 59) (loc' := [some (.ref C), some (fI t), some (fI v), some (fI n), some (fI g), x5]) (st' := [.ref C]) (h' := h_124) (cl' := 0) (sl' := 0) rfl ?_
      refine fw_gf rfl rfl g_124_C rfl ?_
      refine ik_Wk 3 (pc' := 66) (loc' := [some (.ref C), some (fI t), some (fI v), some (fI n), some (fI g), some (.ref a1)]) (st' := [.ref C, .ref C]) (h' := h_124) (cl' := 0) (sl' := 0) rfl ?_
      refine fw_gf rfl rfl g_124_C rfl ?_
      refine fx_pf rfl rfl g_124_C (Nat.le_of_ble_eq_true rfl) rfl rfl ?_
      intro h_125 e_125 f_125 l_125
      have k_125 := l_125.trans k_124
      have fr_125 := hfr_w fr_124 f_125 l_125 (by simp <;> omega)
      have g_125_7 := (f_125 7 (by omega)).trans g_124_7
      have g_125_11 := (f_125 11 (by omega)).trans g_124_11
      have g_125_12 := (f_125 12 (by omega)).trans g_124_12
      have g_125_13 := (f_125 13 (by omega)).trans g_124_13
      have g_125_M := (f_125 M (by omega)).trans g_124_M
      have g_125_a1 := (f_125 a1 (by omega)).trans g_124_a1
      have g_125_b1 := (f_125 b1 (by omega)).trans g_124_b1
      have g_125_C : cE h_125 C (.inr (2, [.ref 7, fI kd, fI u1, .ref M, .ref b1, .ref b1])) := e_125
      refine ik_Wk 2 (pc' := 75) (loc' := [some (.ref C), some (fI t), some (fI v), some (fI n), some (fI g), some (.ref a1)]) (st' := [.ref a1, .ref C]) (h' := h_125) (cl' := 0) (sl' := 0) rfl ?_
      refine fx_pf rfl rfl g_125_C (Nat.le_of_ble_eq_true rfl) rfl rfl ?_
      intro h_126 e_126 f_126 l_126
      have k_126 := l_126.trans k_125
      have fr_126 := hfr_w fr_125 f_126 l_126 (by simp <;> omega)
      have g_126_7 := (f_126 7 (by omega)).trans g_125_7
      have g_126_11 := (f_126 11 (by omega)).trans g_125_11
      have g_126_12 := (f_126 12 (by omega)).trans g_125_12
      have g_126_13 := (f_126 13 (by omega)).trans g_125_13
      have g_126_M := (f_126 M (by omega)).trans g_125_M
      have g_126_a1 := (f_126 a1 (by omega)).trans g_125_a1
      have g_126_b1 := (f_126 b1 (by omega)).trans g_125_b1
      have g_126_C : cE h_126 C (.inr (2, [.ref 7, fI kd, fI u1, .ref M, .ref b1, .ref a1])) := e_126
      refine fw_inc (a := g) (loc' := [some (.ref C), some (fI t), some (fI v), some (fI n), some (fI (g + 1)), some (.ref a1)]) rfl rfl (Nat.le_of_ble_eq_true rfl) rfl ?_
      refine ik_Wk 1 (pc' := 37) (loc' := [some (.ref C), some (fI t), some (fI v), some (fI n), some (fI (g + 1)), some (.ref a1)]) (st' := []) (h' := h_126) (cl' := 0) (sl' := 0) rfl ?_
      have hfg := mf_fl_gd q5 (by omega) hgd
      have hit2 : (n - g).toNat = (n - (g + 1)).toNat + 1 := by omega
      exact ih (g + 1) b1 a1 ys'_124 xs1 (mf_fl W (pl - 1) o) (some (.ref a1)) h_126 g_126_7 g_126_11 n11 g_126_12 n12 g_126_13 n13 g_126_C g_126_M nM g_126_b1 m_124_b g_126_a1 na1 k_126 fr_126 (by omega) (by omega) hfg.1 p_124_0 (by rw [hit, hit2]; rfl) (wl_r (by omega)) (by omega)

theorem cs_comeL {h : List ik_E} {C : Nat} {pl : Int} {lo : Int} {s : Nat} {t : Int} {kd : Int} {qp : Int} {ut : Int} {wg : List Int} {wc : List Int} {we : List Int} {W : Int → List (Int × Int)} (q0 : 20 < C ∧ C < 42) (q1 : 1 ≤ pl ∧ pl ≤ 12) (q2 : 0 ≤ qp ∧ qp < pl) (q3 : 0 ≤ kd ∧ kd ≤ 2) (q4 : ∀ x : Int, 0 ≤ x → x < pl - 1 → mx_wy wg wc we x (W x)) (q5 : ∀ x : Int, 0 ≤ x → x < pl - 1 → mx_ok pl (W x)) (q6 : -2000000000 ≤ t ∧ t ≤ 2000000000) {M : Nat} (hM : M = C + 1) (ht : 0 ≤ t ∧ t ≤ 200) : ∀ (k : Nat) (v : Int) (u1 : Int) (a1 : Nat) (b1 : Nat) (cm1 : List Int) (xs1 : List Int) (ys1 : List Int) (x3 : Option Value) (x4 : Option Value) (x5 : Option Value) (u : List ik_E) (u7 : cE u 7 (.inr (0, [fI pl, fI ((s : Nat) : Int), fI lo, .ref 8, .ref 9, .ref 10, .ref 11, .ref 12, .ref 13]))) (u11 : cE u 11 (.inl (.int, fA wg))) (n11 : wg.length = 60) (u12 : cE u 12 (.inl (.int, fA wc))) (n12 : wc.length = 60) (u13 : cE u 13 (.inl (.int, fA we))) (n13 : we.length = 12) (uC : cE u C (.inr (2, [.ref 7, fI kd, fI u1, .ref M, .ref a1, .ref b1]))) (uM : cE u M (.inl (.int, fA cm1))) (nM : cm1.length = 201) (ua1 : cE u a1 (.inl (.long, fL xs1))) (na1 : xs1.length = 12) (ub1 : cE u b1 (.inl (.long, fL ys1))) (nb1 : ys1.length = 12) (ul : u.length = 94) (F : hfr [C, C + 1, C + 2, C + 3] h u) (hv : ut + 1 ≤ v ∧ 1 ≤ v ∧ v ≤ 201) (hu : u1 = v - 1) (hvt : v ≤ t + 1 ∨ v = ut + 1) (hab : (a1 = C + 2 ∧ b1 = C + 3) ∨ (a1 = C + 3 ∧ b1 = C + 2)) (his : mf_is pl xs1 (mf_od W (pl - 1) kd qp u1.toNat)) (hcm : ∀ j : Nat, (j : Int) ≤ u1 → cm1.getD j 0 = mf_cm W (pl - 1) kd qp j) (w3 : ik_wl 94 x3 = true) (w4 : ik_wl 94 x4 = true) (w5 : ik_wl 94 x5 = true) (hk : 201 - v < (k : Int)), ik_G 31 20 [some (.ref C), some (fI t), some (fI v), x3, x4, x5] [] u (fun rv h' => ∃ (u' : Int), rv = [fI (mf_ct W pl kd qp t)] ∧ mf_cv h' C W pl kd qp u' ∧ (ut ≤ u' ∧ (0 ≤ t ∧ t ≤ 200 → t ≤ u' ∧ (u' = ut ∨ u' = t))) ∧ hfr [C, C + 1, C + 2, C + 3] h h') := by
  intro k
  induction k with
  | zero => intro v u1 a1 b1 cm1 xs1 ys1 x3 x4 x5 u u7 u11 n11 u12 n12 u13 n13 uC uM nM ua1 na1 ub1 nb1 ul F hv hu hvt hab his hcm w3 w4 w5 hk; omega
  | succ k ih =>
    intro v u1 a1 b1 cm1 xs1 ys1 x3 x4 x5 u u7 u11 n11 u12 n12 u13 n13 uC uM nM ua1 na1 ub1 nb1 ul F hv hu hvt hab his hcm w3 w4 w5 hk
    refine ik_Wk 2 (pc' := 22) (loc' := [some (.ref C), some (fI t), some (fI v), x3, x4, x5]) (st' := [fI t, fI v]) (h' := u) (cl' := 0) (sl' := 0) rfl ?_
    refine fw_ic_gt rfl rfl (by omega) (by omega) (by omega) (by omega) (fun hc1 => ?_) (fun hc1 => ?_)
    · refine ik_Wk 1 (pc' := 115) (loc' := [some (.ref C), some (fI t), some (fI v), x3, x4, x5]) (st' := [.ref C]) (h' := u) (cl' := 0) (sl' := 0) rfl ?_
      refine fw_gf rfl rfl uC rfl ?_
      refine ik_Wk 1 (pc' := 119) (loc' := [some (.ref C), some (fI t), some (fI v), x3, x4, x5]) (st' := [fI t, .ref M]) (h' := u) (cl' := 0) (sl' := 0) rfl ?_
      refine fw_ial rfl uM (by omega) (by omega) (by omega) ?_
      exact ik_Wret rfl rfl ⟨_, _, rfl, rfl, rfl, rfl, ⟨u1, (by rw [hcm t.toNat (by omega)]; unfold mf_ct; rw [if_pos ht]), ⟨M, a1, b1, cm1, xs1, ys1, hM, hab, uC, uM, ua1, ub1, nM, na1, nb1, by omega, his, hcm⟩, (by omega), F⟩⟩
    · refine ik_Wk 1 (pc' := 26) (loc' := [some (.ref C), some (fI t), some (fI v), x3, x4, x5]) (st' := [.ref C]) (h' := u) (cl' := 0) (sl' := 0) rfl ?_
      refine fw_gf rfl rfl uC rfl ?_
      refine ik_Wk 1 (pc' := 30) (loc' := [some (.ref C), some (fI t), some (fI v), x3, x4, x5]) (st' := [fI v, fI kd]) (h' := u) (cl' := 0) (sl' := 0) rfl ?_
      refine ik_Wc 125 2 4 [fI kd, fI v] [] rfl rfl rfl (by decide) rfl rfl (fw_sta ul (fw_ftx rfl wv_n (wl_c (wl_r (by omega)) (wl_c rfl (wl_c rfl (wl_c w3 (wl_c w4 (wl_c w5 wl_n))))))) (by decide)) ?_
      refine ik_Wk 0 (pc' := 0) (loc' := [some (fI kd), some (fI v)]) (st' := []) (h' := u) (cl' := 0) (sl' := 0) rfl ?_
      refine ik_Wk 2 (pc' := 2) (loc' := [some (fI kd), some (fI v)]) (st' := [fI 1, fI kd]) (h' := u) (cl' := 0) (sl' := 0) rfl ?_
      refine fw_ic_ne rfl rfl (by omega) (by omega) (by omega) (by omega) (fun hc2 => ?_) (fun hc2 => ?_)
      · refine ik_Wk 1 (pc' := 6) (loc' := [some (fI kd), some (fI v)]) (st' := [fI 2]) (h' := u) (cl' := 0) (sl' := 0) rfl ?_
        refine ik_Wret rfl rfl ⟨_, _, rfl, rfl, ?_⟩
        refine ik_Wk 0 (pc' := 33) (loc' := [some (.ref C), some (fI t), some (fI v), x3, x4, x5]) (st' := [fI 2]) (h' := u) (cl' := 0) (sl' := 0) rfl ?_
        refine ik_Wk 3 (pc' := 37) (loc' := [some (.ref C), some (fI t), some (fI v), some (fI 2), some (fI 0), x5]) (st' := []) (h' := u) (cl' := 0) (sl' := 0) rfl ?_
        have et : mx_tm kd v = 2 := by unfold mx_tm; (repeat' split) <;> omega
        have hod := mf_od_s (W := W) (br := pl - 1) (k := kd) (q := qp) (u := v - 1) (by omega)
        rw [show v - 1 + 1 = v by omega, et, ← hu] at hod
        refine cs_comeG (C := C) (pl := pl) (lo := lo) (s := s) (t := t) (kd := kd) (qp := qp) (ut := ut) (wg := wg) (wc := wc) (we := we) (W := W) q0 q1 q2 q3 q4 q5 q6 v (by omega) 2 (by omega) M hM cm1 u1 (R := (fun rv h' => ∃ (u' : Int), rv = [fI (mf_ct W pl kd qp t)] ∧ mf_cv h' C W pl kd qp u' ∧ (ut ≤ u' ∧ (0 ≤ t ∧ t ≤ 200 → t ≤ u' ∧ (u' = ut ∨ u' = t))) ∧ hfr [C, C + 1, C + 2, C + 3] h h')) (fun h_127 a1_127 b1_127 xs1_127 ys1_127 g2_127 x5_127 g_127_7 g_127_11 m_127_11 g_127_12 m_127_12 g_127_13 m_127_13 g_127_C g_127_M m_127_M g_127_a1_127 m_127_a1_127 g_127_b1_127 m_127_b1_127 k_127 fr_127 hab_127 his_127 w5_127 => ?_) 3 0 a1 b1 xs1 ys1 (mf_od W (pl - 1) kd qp u1.toNat) x5 u u7 u11 n11 u12 n12 u13 n13 uC uM nM ua1 na1 ub1 nb1 ul F (by omega) hab (mf_od_gd q5 q2 _) his (by rw [hod]; rfl) w5 (by omega)
        refine ik_Wk 1 (pc' := 85) (loc' := [some (.ref C), some (fI t), some (fI v), some (fI 2), some (fI g2_127), x5_127]) (st' := [.ref C]) (h' := h_127) (cl' := 0) (sl' := 0) rfl ?_
        refine fw_gf rfl rfl g_127_C rfl ?_
        refine ik_Wk 2 (pc' := 90) (loc' := [some (.ref C), some (fI t), some (fI v), some (fI 2), some (fI g2_127), x5_127]) (st' := [.ref C, fI v, .ref M]) (h' := h_127) (cl' := 0) (sl' := 0) rfl ?_
        refine fw_gf rfl rfl g_127_C rfl ?_
        refine ik_Wk 1 (pc' := 94) (loc' := [some (.ref C), some (fI t), some (fI v), some (fI 2), some (fI g2_127), x5_127]) (st' := [.ref C, .ref a1_127, fI v, .ref M]) (h' := h_127) (cl' := 0) (sl' := 0) rfl ?_
        refine fw_gf rfl rfl g_127_C rfl ?_
        refine ik_Wc 2 1 0 [.ref 7] [.ref a1_127, fI v, .ref M] rfl rfl rfl (by decide) rfl rfl (fw_rec k_127 (fw_ftx rfl (wv_c (wv_r (by omega)) (wv_c rfl (wv_c (wv_r (by omega)) wv_n))) (wl_c (wl_r (by omega)) (wl_c rfl (wl_c rfl (wl_c rfl (wl_c rfl (wl_c w5_127 wl_n))))))) g_127_7 rfl (by decide)) ?_
        refine ik_Wk 0 (pc' := 0) (loc' := [some (.ref 7)]) (st' := []) (h' := h_127) (cl' := 0) (sl' := 0) rfl ?_
        refine ik_Wk 1 (pc' := 1) (loc' := [some (.ref 7)]) (st' := [.ref 7]) (h' := h_127) (cl' := 0) (sl' := 0) rfl ?_
        refine fw_gf rfl rfl g_127_7 rfl ?_
        refine ik_Wk 1 (pc' := 5) (loc' := [some (.ref 7)]) (st' := [fI 1, fI pl]) (h' := h_127) (cl' := 0) (sl' := 0) rfl ?_
        refine fw_sub rfl ?_
        refine ik_Wret rfl rfl ⟨_, _, rfl, rfl, ?_⟩
        refine ik_Wk 0 (pc' := 100) (loc' := [some (.ref C), some (fI t), some (fI v), some (fI 2), some (fI g2_127), x5_127]) (st' := [fI (pl - 1), .ref a1_127, fI v, .ref M]) (h' := h_127) (cl' := 0) (sl' := 0) rfl ?_
        refine fx_lal rfl g_127_a1_127 (by omega) (by omega) (by omega) ?_
        refine fx_l2i rfl ?_
        have hl3 : (cm1.set v.toNat (xs1_127.getD (pl - 1).toNat 0)).length = 201 := (List.length_set ..).trans m_127_M
        refine fx_ias rfl g_127_M (by omega) (by omega) (by omega) ?_
        intro h_128 e_128 f_128 l_128
        have k_128 := l_128.trans k_127
        have fr_128 := hfr_w fr_127 f_128 l_128 (by simp <;> omega)
        have g_128_7 := (f_128 7 (by omega)).trans g_127_7
        have g_128_11 := (f_128 11 (by omega)).trans g_127_11
        have g_128_12 := (f_128 12 (by omega)).trans g_127_12
        have g_128_13 := (f_128 13 (by omega)).trans g_127_13
        have g_128_C := (f_128 C (by omega)).trans g_127_C
        have g_128_a1_127 := (f_128 a1_127 (by omega)).trans g_127_a1_127
        have g_128_b1_127 := (f_128 b1_127 (by omega)).trans g_127_b1_127
        have g_128_M : cE h_128 M (.inl (.int, fA (cm1.set v.toNat (xs1_127.getD (pl - 1).toNat 0)))) := e_128
        refine ik_Wk 2 (pc' := 105) (loc' := [some (.ref C), some (fI t), some (fI v), some (fI 2), some (fI g2_127), x5_127]) (st' := [fI v, .ref C]) (h' := h_128) (cl' := 0) (sl' := 0) rfl ?_
        refine fx_pf rfl rfl g_128_C (Nat.le_of_ble_eq_true rfl) rfl rfl ?_
        intro h_129 e_129 f_129 l_129
        have k_129 := l_129.trans k_128
        have fr_129 := hfr_w fr_128 f_129 l_129 (by simp <;> omega)
        have g_129_7 := (f_129 7 (by omega)).trans g_128_7
        have g_129_11 := (f_129 11 (by omega)).trans g_128_11
        have g_129_12 := (f_129 12 (by omega)).trans g_128_12
        have g_129_13 := (f_129 13 (by omega)).trans g_128_13
        have g_129_M := (f_129 M (by omega)).trans g_128_M
        have g_129_a1_127 := (f_129 a1_127 (by omega)).trans g_128_a1_127
        have g_129_b1_127 := (f_129 b1_127 (by omega)).trans g_128_b1_127
        have g_129_C : cE h_129 C (.inr (2, [.ref 7, fI kd, fI v, .ref M, .ref a1_127, .ref b1_127])) := e_129
        refine fw_inc (a := v) (loc' := [some (.ref C), some (fI t), some (fI (v + 1)), some (fI 2), some (fI g2_127), x5_127]) rfl rfl (Nat.le_of_ble_eq_true rfl) rfl ?_
        refine ik_Wk 1 (pc' := 20) (loc' := [some (.ref C), some (fI t), some (fI (v + 1)), some (fI 2), some (fI g2_127), x5_127]) (st' := []) (h' := h_129) (cl' := 0) (sl' := 0) rfl ?_
        have hcm2 : ∀ j : Nat, (j : Int) ≤ v → (cm1.set v.toNat (xs1_127.getD (pl - 1).toNat 0)).getD j 0 = mf_cm W (pl - 1) kd qp j := by
          intro j hj
          rw [fz_getD_set]
          by_cases z : j = v.toNat
          · rw [if_pos ⟨z, by omega⟩, z]; exact his_127 _ (by omega)
          · rw [if_neg (fun y => z y.1)]; exact hcm j (by omega)
        exact ih (v + 1) v a1_127 b1_127 (cm1.set v.toNat (xs1_127.getD (pl - 1).toNat 0)) xs1_127 ys1_127 (some (fI 2)) (some (fI g2_127)) x5_127 h_129 g_129_7 g_129_11 m_127_11 g_129_12 m_127_12 g_129_13 m_127_13 g_129_C g_129_M hl3 g_129_a1_127 m_127_a1_127 g_129_b1_127 m_127_b1_127 k_129 fr_129 (by omega) (by omega) (by omega) hab_127 his_127 hcm2 rfl rfl w5_127 (by omega)
      · refine ik_Wk 2 (pc' := 9) (loc' := [some (fI kd), some (fI v)]) (st' := [fI 2, fI kd]) (h' := u) (cl' := 0) (sl' := 0) rfl ?_
        refine fw_ic_ne rfl rfl (by omega) (by omega) (by omega) (by omega) (fun hc4 => ?_) (fun hc4 => ?_)
        · refine ik_Wk 2 (pc' := 14) (loc' := [some (fI kd), some (fI v)]) (st' := [fI 2, fI v]) (h' := u) (cl' := 0) (sl' := 0) rfl ?_
          refine fx_irem rfl (by omega) (by omega) (by omega) (by omega) ?_
          refine fw_if_eq rfl rfl (by omega) (by omega) (fun hc5 => ?_) (fun hc5 => ?_)
          · refine ik_Wk 1 (pc' := 23) (loc' := [some (fI kd), some (fI v)]) (st' := [fI 1]) (h' := u) (cl' := 0) (sl' := 0) rfl ?_
            refine ik_Wret rfl rfl ⟨_, _, rfl, rfl, ?_⟩
            refine ik_Wk 0 (pc' := 33) (loc' := [some (.ref C), some (fI t), some (fI v), x3, x4, x5]) (st' := [fI 1]) (h' := u) (cl' := 0) (sl' := 0) rfl ?_
            refine ik_Wk 3 (pc' := 37) (loc' := [some (.ref C), some (fI t), some (fI v), some (fI 1), some (fI 0), x5]) (st' := []) (h' := u) (cl' := 0) (sl' := 0) rfl ?_
            have et : mx_tm kd v = 1 := by unfold mx_tm; (repeat' split) <;> omega
            have hod := mf_od_s (W := W) (br := pl - 1) (k := kd) (q := qp) (u := v - 1) (by omega)
            rw [show v - 1 + 1 = v by omega, et, ← hu] at hod
            refine cs_comeG (C := C) (pl := pl) (lo := lo) (s := s) (t := t) (kd := kd) (qp := qp) (ut := ut) (wg := wg) (wc := wc) (we := we) (W := W) q0 q1 q2 q3 q4 q5 q6 v (by omega) 1 (by omega) M hM cm1 u1 (R := (fun rv h' => ∃ (u' : Int), rv = [fI (mf_ct W pl kd qp t)] ∧ mf_cv h' C W pl kd qp u' ∧ (ut ≤ u' ∧ (0 ≤ t ∧ t ≤ 200 → t ≤ u' ∧ (u' = ut ∨ u' = t))) ∧ hfr [C, C + 1, C + 2, C + 3] h h')) (fun h_130 a1_130 b1_130 xs1_130 ys1_130 g2_130 x5_130 g_130_7 g_130_11 m_130_11 g_130_12 m_130_12 g_130_13 m_130_13 g_130_C g_130_M m_130_M g_130_a1_130 m_130_a1_130 g_130_b1_130 m_130_b1_130 k_130 fr_130 hab_130 his_130 w5_130 => ?_) 3 0 a1 b1 xs1 ys1 (mf_od W (pl - 1) kd qp u1.toNat) x5 u u7 u11 n11 u12 n12 u13 n13 uC uM nM ua1 na1 ub1 nb1 ul F (by omega) hab (mf_od_gd q5 q2 _) his (by rw [hod]; rfl) w5 (by omega)
            refine ik_Wk 1 (pc' := 85) (loc' := [some (.ref C), some (fI t), some (fI v), some (fI 1), some (fI g2_130), x5_130]) (st' := [.ref C]) (h' := h_130) (cl' := 0) (sl' := 0) rfl ?_
            refine fw_gf rfl rfl g_130_C rfl ?_
            refine ik_Wk 2 (pc' := 90) (loc' := [some (.ref C), some (fI t), some (fI v), some (fI 1), some (fI g2_130), x5_130]) (st' := [.ref C, fI v, .ref M]) (h' := h_130) (cl' := 0) (sl' := 0) rfl ?_
            refine fw_gf rfl rfl g_130_C rfl ?_
            refine ik_Wk 1 (pc' := 94) (loc' := [some (.ref C), some (fI t), some (fI v), some (fI 1), some (fI g2_130), x5_130]) (st' := [.ref C, .ref a1_130, fI v, .ref M]) (h' := h_130) (cl' := 0) (sl' := 0) rfl ?_
            refine fw_gf rfl rfl g_130_C rfl ?_
            refine ik_Wc 2 1 0 [.ref 7] [.ref a1_130, fI v, .ref M] rfl rfl rfl (by decide) rfl rfl (fw_rec k_130 (fw_ftx rfl (wv_c (wv_r (by omega)) (wv_c rfl (wv_c (wv_r (by omega)) wv_n))) (wl_c (wl_r (by omega)) (wl_c rfl (wl_c rfl (wl_c rfl (wl_c rfl (wl_c w5_130 wl_n))))))) g_130_7 rfl (by decide)) ?_
            refine ik_Wk 0 (pc' := 0) (loc' := [some (.ref 7)]) (st' := []) (h' := h_130) (cl' := 0) (sl' := 0) rfl ?_
            refine ik_Wk 1 (pc' := 1) (loc' := [some (.ref 7)]) (st' := [.ref 7]) (h' := h_130) (cl' := 0) (sl' := 0) rfl ?_
            refine fw_gf rfl rfl g_130_7 rfl ?_
            refine ik_Wk 1 (pc' := 5) (loc' := [some (.ref 7)]) (st' := [fI 1, fI pl]) (h' := h_130) (cl' := 0) (sl' := 0) rfl ?_
            refine fw_sub rfl ?_
            refine ik_Wret rfl rfl ⟨_, _, rfl, rfl, ?_⟩
            refine ik_Wk 0 (pc' := 100) (loc' := [some (.ref C), some (fI t), some (fI v), some (fI 1), some (fI g2_130), x5_130]) (st' := [fI (pl - 1), .ref a1_130, fI v, .ref M]) (h' := h_130) (cl' := 0) (sl' := 0) rfl ?_
            refine fx_lal rfl g_130_a1_130 (by omega) (by omega) (by omega) ?_
            refine fx_l2i rfl ?_
            have hl6 : (cm1.set v.toNat (xs1_130.getD (pl - 1).toNat 0)).length = 201 := (List.length_set ..).trans m_130_M
            refine fx_ias rfl g_130_M (by omega) (by omega) (by omega) ?_
            intro h_131 e_131 f_131 l_131
            have k_131 := l_131.trans k_130
            have fr_131 := hfr_w fr_130 f_131 l_131 (by simp <;> omega)
            have g_131_7 := (f_131 7 (by omega)).trans g_130_7
            have g_131_11 := (f_131 11 (by omega)).trans g_130_11
            have g_131_12 := (f_131 12 (by omega)).trans g_130_12
            have g_131_13 := (f_131 13 (by omega)).trans g_130_13
            have g_131_C := (f_131 C (by omega)).trans g_130_C
            have g_131_a1_130 := (f_131 a1_130 (by omega)).trans g_130_a1_130
            have g_131_b1_130 := (f_131 b1_130 (by omega)).trans g_130_b1_130
            have g_131_M : cE h_131 M (.inl (.int, fA (cm1.set v.toNat (xs1_130.getD (pl - 1).toNat 0)))) := e_131
            refine ik_Wk 2 (pc' := 105) (loc' := [some (.ref C), some (fI t), some (fI v), some (fI 1), some (fI g2_130), x5_130]) (st' := [fI v, .ref C]) (h' := h_131) (cl' := 0) (sl' := 0) rfl ?_
            refine fx_pf rfl rfl g_131_C (Nat.le_of_ble_eq_true rfl) rfl rfl ?_
            intro h_132 e_132 f_132 l_132
            have k_132 := l_132.trans k_131
            have fr_132 := hfr_w fr_131 f_132 l_132 (by simp <;> omega)
            have g_132_7 := (f_132 7 (by omega)).trans g_131_7
            have g_132_11 := (f_132 11 (by omega)).trans g_131_11
            have g_132_12 := (f_132 12 (by omega)).trans g_131_12
            have g_132_13 := (f_132 13 (by omega)).trans g_131_13
            have g_132_M := (f_132 M (by omega)).trans g_131_M
            have g_132_a1_130 := (f_132 a1_130 (by omega)).trans g_131_a1_130
            have g_132_b1_130 := (f_132 b1_130 (by omega)).trans g_131_b1_130
            have g_132_C : cE h_132 C (.inr (2, [.ref 7, fI kd, fI v, .ref M, .ref a1_130, .ref b1_130])) := e_132
            refine fw_inc (a := v) (loc' := [some (.ref C), some (fI t), some (fI (v + 1)), some (fI 1), some (fI g2_130), x5_130]) rfl rfl (Nat.le_of_ble_eq_true rfl) rfl ?_
            refine ik_Wk 1 (pc' := 20) (loc' := [some (.ref C), some (fI t), some (fI (v + 1)), some (fI 1), some (fI g2_130), x5_130]) (st' := []) (h' := h_132) (cl' := 0) (sl' := 0) rfl ?_
            have hcm2 : ∀ j : Nat, (j : Int) ≤ v → (cm1.set v.toNat (xs1_130.getD (pl - 1).toNat 0)).getD j 0 = mf_cm W (pl - 1) kd qp j := by
              intro j hj
              rw [fz_getD_set]
              by_cases z : j = v.toNat
              · rw [if_pos ⟨z, by omega⟩, z]; exact his_130 _ (by omega)
              · rw [if_neg (fun y => z y.1)]; exact hcm j (by omega)
            exact ih (v + 1) v a1_130 b1_130 (cm1.set v.toNat (xs1_130.getD (pl - 1).toNat 0)) xs1_130 ys1_130 (some (fI 1)) (some (fI g2_130)) x5_130 h_132 g_132_7 g_132_11 m_130_11 g_132_12 m_130_12 g_132_13 m_130_13 g_132_C g_132_M hl6 g_132_a1_130 m_130_a1_130 g_132_b1_130 m_130_b1_130 k_132 fr_132 (by omega) (by omega) (by omega) hab_130 his_130 hcm2 rfl rfl w5_130 (by omega)
          · refine ik_Wk 2 (pc' := 23) (loc' := [some (fI kd), some (fI v)]) (st' := [fI 0]) (h' := u) (cl' := 0) (sl' := 0) rfl ?_
            refine ik_Wret rfl rfl ⟨_, _, rfl, rfl, ?_⟩
            refine ik_Wk 0 (pc' := 33) (loc' := [some (.ref C), some (fI t), some (fI v), x3, x4, x5]) (st' := [fI 0]) (h' := u) (cl' := 0) (sl' := 0) rfl ?_
            refine ik_Wk 3 (pc' := 37) (loc' := [some (.ref C), some (fI t), some (fI v), some (fI 0), some (fI 0), x5]) (st' := []) (h' := u) (cl' := 0) (sl' := 0) rfl ?_
            have et : mx_tm kd v = 0 := by unfold mx_tm; (repeat' split) <;> omega
            have hod := mf_od_s (W := W) (br := pl - 1) (k := kd) (q := qp) (u := v - 1) (by omega)
            rw [show v - 1 + 1 = v by omega, et, ← hu] at hod
            refine cs_comeG (C := C) (pl := pl) (lo := lo) (s := s) (t := t) (kd := kd) (qp := qp) (ut := ut) (wg := wg) (wc := wc) (we := we) (W := W) q0 q1 q2 q3 q4 q5 q6 v (by omega) 0 (by omega) M hM cm1 u1 (R := (fun rv h' => ∃ (u' : Int), rv = [fI (mf_ct W pl kd qp t)] ∧ mf_cv h' C W pl kd qp u' ∧ (ut ≤ u' ∧ (0 ≤ t ∧ t ≤ 200 → t ≤ u' ∧ (u' = ut ∨ u' = t))) ∧ hfr [C, C + 1, C + 2, C + 3] h h')) (fun h_133 a1_133 b1_133 xs1_133 ys1_133 g2_133 x5_133 g_133_7 g_133_11 m_133_11 g_133_12 m_133_12 g_133_13 m_133_13 g_133_C g_133_M m_133_M g_133_a1_133 m_133_a1_133 g_133_b1_133 m_133_b1_133 k_133 fr_133 hab_133 his_133 w5_133 => ?_) 3 0 a1 b1 xs1 ys1 (mf_od W (pl - 1) kd qp u1.toNat) x5 u u7 u11 n11 u12 n12 u13 n13 uC uM nM ua1 na1 ub1 nb1 ul F (by omega) hab (mf_od_gd q5 q2 _) his (by rw [hod]; rfl) w5 (by omega)
            refine ik_Wk 1 (pc' := 85) (loc' := [some (.ref C), some (fI t), some (fI v), some (fI 0), some (fI g2_133), x5_133]) (st' := [.ref C]) (h' := h_133) (cl' := 0) (sl' := 0) rfl ?_
            refine fw_gf rfl rfl g_133_C rfl ?_
            refine ik_Wk 2 (pc' := 90) (loc' := [some (.ref C), some (fI t), some (fI v), some (fI 0), some (fI g2_133), x5_133]) (st' := [.ref C, fI v, .ref M]) (h' := h_133) (cl' := 0) (sl' := 0) rfl ?_
            refine fw_gf rfl rfl g_133_C rfl ?_
            refine ik_Wk 1 (pc' := 94) (loc' := [some (.ref C), some (fI t), some (fI v), some (fI 0), some (fI g2_133), x5_133]) (st' := [.ref C, .ref a1_133, fI v, .ref M]) (h' := h_133) (cl' := 0) (sl' := 0) rfl ?_
            refine fw_gf rfl rfl g_133_C rfl ?_
            refine ik_Wc 2 1 0 [.ref 7] [.ref a1_133, fI v, .ref M] rfl rfl rfl (by decide) rfl rfl (fw_rec k_133 (fw_ftx rfl (wv_c (wv_r (by omega)) (wv_c rfl (wv_c (wv_r (by omega)) wv_n))) (wl_c (wl_r (by omega)) (wl_c rfl (wl_c rfl (wl_c rfl (wl_c rfl (wl_c w5_133 wl_n))))))) g_133_7 rfl (by decide)) ?_
            refine ik_Wk 0 (pc' := 0) (loc' := [some (.ref 7)]) (st' := []) (h' := h_133) (cl' := 0) (sl' := 0) rfl ?_
            refine ik_Wk 1 (pc' := 1) (loc' := [some (.ref 7)]) (st' := [.ref 7]) (h' := h_133) (cl' := 0) (sl' := 0) rfl ?_
            refine fw_gf rfl rfl g_133_7 rfl ?_
            refine ik_Wk 1 (pc' := 5) (loc' := [some (.ref 7)]) (st' := [fI 1, fI pl]) (h' := h_133) (cl' := 0) (sl' := 0) rfl ?_
            refine fw_sub rfl ?_
            refine ik_Wret rfl rfl ⟨_, _, rfl, rfl, ?_⟩
            refine ik_Wk 0 (pc' := 100) (loc' := [some (.ref C), some (fI t), some (fI v), some (fI 0), some (fI g2_133), x5_133]) (st' := [fI (pl - 1), .ref a1_133, fI v, .ref M]) (h' := h_133) (cl' := 0) (sl' := 0) rfl ?_
            refine fx_lal rfl g_133_a1_133 (by omega) (by omega) (by omega) ?_
            refine fx_l2i rfl ?_
            have hl7 : (cm1.set v.toNat (xs1_133.getD (pl - 1).toNat 0)).length = 201 := (List.length_set ..).trans m_133_M
            refine fx_ias rfl g_133_M (by omega) (by omega) (by omega) ?_
            intro h_134 e_134 f_134 l_134
            have k_134 := l_134.trans k_133
            have fr_134 := hfr_w fr_133 f_134 l_134 (by simp <;> omega)
            have g_134_7 := (f_134 7 (by omega)).trans g_133_7
            have g_134_11 := (f_134 11 (by omega)).trans g_133_11
            have g_134_12 := (f_134 12 (by omega)).trans g_133_12
            have g_134_13 := (f_134 13 (by omega)).trans g_133_13
            have g_134_C := (f_134 C (by omega)).trans g_133_C
            have g_134_a1_133 := (f_134 a1_133 (by omega)).trans g_133_a1_133
            have g_134_b1_133 := (f_134 b1_133 (by omega)).trans g_133_b1_133
            have g_134_M : cE h_134 M (.inl (.int, fA (cm1.set v.toNat (xs1_133.getD (pl - 1).toNat 0)))) := e_134
            refine ik_Wk 2 (pc' := 105) (loc' := [some (.ref C), some (fI t), some (fI v), some (fI 0), some (fI g2_133), x5_133]) (st' := [fI v, .ref C]) (h' := h_134) (cl' := 0) (sl' := 0) rfl ?_
            refine fx_pf rfl rfl g_134_C (Nat.le_of_ble_eq_true rfl) rfl rfl ?_
            intro h_135 e_135 f_135 l_135
            have k_135 := l_135.trans k_134
            have fr_135 := hfr_w fr_134 f_135 l_135 (by simp <;> omega)
            have g_135_7 := (f_135 7 (by omega)).trans g_134_7
            have g_135_11 := (f_135 11 (by omega)).trans g_134_11
            have g_135_12 := (f_135 12 (by omega)).trans g_134_12
            have g_135_13 := (f_135 13 (by omega)).trans g_134_13
            have g_135_M := (f_135 M (by omega)).trans g_134_M
            have g_135_a1_133 := (f_135 a1_133 (by omega)).trans g_134_a1_133
            have g_135_b1_133 := (f_135 b1_133 (by omega)).trans g_134_b1_133
            have g_135_C : cE h_135 C (.inr (2, [.ref 7, fI kd, fI v, .ref M, .ref a1_133, .ref b1_133])) := e_135
            refine fw_inc (a := v) (loc' := [some (.ref C), some (fI t), some (fI (v + 1)), some (fI 0), some (fI g2_133), x5_133]) rfl rfl (Nat.le_of_ble_eq_true rfl) rfl ?_
            refine ik_Wk 1 (pc' := 20) (loc' := [some (.ref C), some (fI t), some (fI (v + 1)), some (fI 0), some (fI g2_133), x5_133]) (st' := []) (h' := h_135) (cl' := 0) (sl' := 0) rfl ?_
            have hcm2 : ∀ j : Nat, (j : Int) ≤ v → (cm1.set v.toNat (xs1_133.getD (pl - 1).toNat 0)).getD j 0 = mf_cm W (pl - 1) kd qp j := by
              intro j hj
              rw [fz_getD_set]
              by_cases z : j = v.toNat
              · rw [if_pos ⟨z, by omega⟩, z]; exact his_133 _ (by omega)
              · rw [if_neg (fun y => z y.1)]; exact hcm j (by omega)
            exact ih (v + 1) v a1_133 b1_133 (cm1.set v.toNat (xs1_133.getD (pl - 1).toNat 0)) xs1_133 ys1_133 (some (fI 0)) (some (fI g2_133)) x5_133 h_135 g_135_7 g_135_11 m_133_11 g_135_12 m_133_12 g_135_13 m_133_13 g_135_C g_135_M hl7 g_135_a1_133 m_133_a1_133 g_135_b1_133 m_133_b1_133 k_135 fr_135 (by omega) (by omega) (by omega) hab_133 his_133 hcm2 rfl rfl w5_133 (by omega)
        · refine ik_Wk 1 (pc' := 23) (loc' := [some (fI kd), some (fI v)]) (st' := [fI 1]) (h' := u) (cl' := 0) (sl' := 0) rfl ?_
          refine ik_Wret rfl rfl ⟨_, _, rfl, rfl, ?_⟩
          refine ik_Wk 0 (pc' := 33) (loc' := [some (.ref C), some (fI t), some (fI v), x3, x4, x5]) (st' := [fI 1]) (h' := u) (cl' := 0) (sl' := 0) rfl ?_
          refine ik_Wk 3 (pc' := 37) (loc' := [some (.ref C), some (fI t), some (fI v), some (fI 1), some (fI 0), x5]) (st' := []) (h' := u) (cl' := 0) (sl' := 0) rfl ?_
          have et : mx_tm kd v = 1 := by unfold mx_tm; (repeat' split) <;> omega
          have hod := mf_od_s (W := W) (br := pl - 1) (k := kd) (q := qp) (u := v - 1) (by omega)
          rw [show v - 1 + 1 = v by omega, et, ← hu] at hod
          refine cs_comeG (C := C) (pl := pl) (lo := lo) (s := s) (t := t) (kd := kd) (qp := qp) (ut := ut) (wg := wg) (wc := wc) (we := we) (W := W) q0 q1 q2 q3 q4 q5 q6 v (by omega) 1 (by omega) M hM cm1 u1 (R := (fun rv h' => ∃ (u' : Int), rv = [fI (mf_ct W pl kd qp t)] ∧ mf_cv h' C W pl kd qp u' ∧ (ut ≤ u' ∧ (0 ≤ t ∧ t ≤ 200 → t ≤ u' ∧ (u' = ut ∨ u' = t))) ∧ hfr [C, C + 1, C + 2, C + 3] h h')) (fun h_136 a1_136 b1_136 xs1_136 ys1_136 g2_136 x5_136 g_136_7 g_136_11 m_136_11 g_136_12 m_136_12 g_136_13 m_136_13 g_136_C g_136_M m_136_M g_136_a1_136 m_136_a1_136 g_136_b1_136 m_136_b1_136 k_136 fr_136 hab_136 his_136 w5_136 => ?_) 3 0 a1 b1 xs1 ys1 (mf_od W (pl - 1) kd qp u1.toNat) x5 u u7 u11 n11 u12 n12 u13 n13 uC uM nM ua1 na1 ub1 nb1 ul F (by omega) hab (mf_od_gd q5 q2 _) his (by rw [hod]; rfl) w5 (by omega)
          refine ik_Wk 1 (pc' := 85) (loc' := [some (.ref C), some (fI t), some (fI v), some (fI 1), some (fI g2_136), x5_136]) (st' := [.ref C]) (h' := h_136) (cl' := 0) (sl' := 0) rfl ?_
          refine fw_gf rfl rfl g_136_C rfl ?_
          refine ik_Wk 2 (pc' := 90) (loc' := [some (.ref C), some (fI t), some (fI v), some (fI 1), some (fI g2_136), x5_136]) (st' := [.ref C, fI v, .ref M]) (h' := h_136) (cl' := 0) (sl' := 0) rfl ?_
          refine fw_gf rfl rfl g_136_C rfl ?_
          refine ik_Wk 1 (pc' := 94) (loc' := [some (.ref C), some (fI t), some (fI v), some (fI 1), some (fI g2_136), x5_136]) (st' := [.ref C, .ref a1_136, fI v, .ref M]) (h' := h_136) (cl' := 0) (sl' := 0) rfl ?_
          refine fw_gf rfl rfl g_136_C rfl ?_
          refine ik_Wc 2 1 0 [.ref 7] [.ref a1_136, fI v, .ref M] rfl rfl rfl (by decide) rfl rfl (fw_rec k_136 (fw_ftx rfl (wv_c (wv_r (by omega)) (wv_c rfl (wv_c (wv_r (by omega)) wv_n))) (wl_c (wl_r (by omega)) (wl_c rfl (wl_c rfl (wl_c rfl (wl_c rfl (wl_c w5_136 wl_n))))))) g_136_7 rfl (by decide)) ?_
          refine ik_Wk 0 (pc' := 0) (loc' := [some (.ref 7)]) (st' := []) (h' := h_136) (cl' := 0) (sl' := 0) rfl ?_
          refine ik_Wk 1 (pc' := 1) (loc' := [some (.ref 7)]) (st' := [.ref 7]) (h' := h_136) (cl' := 0) (sl' := 0) rfl ?_
          refine fw_gf rfl rfl g_136_7 rfl ?_
          refine ik_Wk 1 (pc' := 5) (loc' := [some (.ref 7)]) (st' := [fI 1, fI pl]) (h' := h_136) (cl' := 0) (sl' := 0) rfl ?_
          refine fw_sub rfl ?_
          refine ik_Wret rfl rfl ⟨_, _, rfl, rfl, ?_⟩
          refine ik_Wk 0 (pc' := 100) (loc' := [some (.ref C), some (fI t), some (fI v), some (fI 1), some (fI g2_136), x5_136]) (st' := [fI (pl - 1), .ref a1_136, fI v, .ref M]) (h' := h_136) (cl' := 0) (sl' := 0) rfl ?_
          refine fx_lal rfl g_136_a1_136 (by omega) (by omega) (by omega) ?_
          refine fx_l2i rfl ?_
          have hl8 : (cm1.set v.toNat (xs1_136.getD (pl - 1).toNat 0)).length = 201 := (List.length_set ..).trans m_136_M
          refine fx_ias rfl g_136_M (by omega) (by omega) (by omega) ?_
          intro h_137 e_137 f_137 l_137
          have k_137 := l_137.trans k_136
          have fr_137 := hfr_w fr_136 f_137 l_137 (by simp <;> omega)
          have g_137_7 := (f_137 7 (by omega)).trans g_136_7
          have g_137_11 := (f_137 11 (by omega)).trans g_136_11
          have g_137_12 := (f_137 12 (by omega)).trans g_136_12
          have g_137_13 := (f_137 13 (by omega)).trans g_136_13
          have g_137_C := (f_137 C (by omega)).trans g_136_C
          have g_137_a1_136 := (f_137 a1_136 (by omega)).trans g_136_a1_136
          have g_137_b1_136 := (f_137 b1_136 (by omega)).trans g_136_b1_136
          have g_137_M : cE h_137 M (.inl (.int, fA (cm1.set v.toNat (xs1_136.getD (pl - 1).toNat 0)))) := e_137
          refine ik_Wk 2 (pc' := 105) (loc' := [some (.ref C), some (fI t), some (fI v), some (fI 1), some (fI g2_136), x5_136]) (st' := [fI v, .ref C]) (h' := h_137) (cl' := 0) (sl' := 0) rfl ?_
          refine fx_pf rfl rfl g_137_C (Nat.le_of_ble_eq_true rfl) rfl rfl ?_
          intro h_138 e_138 f_138 l_138
          have k_138 := l_138.trans k_137
          have fr_138 := hfr_w fr_137 f_138 l_138 (by simp <;> omega)
          have g_138_7 := (f_138 7 (by omega)).trans g_137_7
          have g_138_11 := (f_138 11 (by omega)).trans g_137_11
          have g_138_12 := (f_138 12 (by omega)).trans g_137_12
          have g_138_13 := (f_138 13 (by omega)).trans g_137_13
          have g_138_M := (f_138 M (by omega)).trans g_137_M
          have g_138_a1_136 := (f_138 a1_136 (by omega)).trans g_137_a1_136
          have g_138_b1_136 := (f_138 b1_136 (by omega)).trans g_137_b1_136
          have g_138_C : cE h_138 C (.inr (2, [.ref 7, fI kd, fI v, .ref M, .ref a1_136, .ref b1_136])) := e_138
          refine fw_inc (a := v) (loc' := [some (.ref C), some (fI t), some (fI (v + 1)), some (fI 1), some (fI g2_136), x5_136]) rfl rfl (Nat.le_of_ble_eq_true rfl) rfl ?_
          refine ik_Wk 1 (pc' := 20) (loc' := [some (.ref C), some (fI t), some (fI (v + 1)), some (fI 1), some (fI g2_136), x5_136]) (st' := []) (h' := h_138) (cl' := 0) (sl' := 0) rfl ?_
          have hcm2 : ∀ j : Nat, (j : Int) ≤ v → (cm1.set v.toNat (xs1_136.getD (pl - 1).toNat 0)).getD j 0 = mf_cm W (pl - 1) kd qp j := by
            intro j hj
            rw [fz_getD_set]
            by_cases z : j = v.toNat
            · rw [if_pos ⟨z, by omega⟩, z]; exact his_136 _ (by omega)
            · rw [if_neg (fun y => z y.1)]; exact hcm j (by omega)
          exact ih (v + 1) v a1_136 b1_136 (cm1.set v.toNat (xs1_136.getD (pl - 1).toNat 0)) xs1_136 ys1_136 (some (fI 1)) (some (fI g2_136)) x5_136 h_138 g_138_7 g_138_11 m_136_11 g_138_12 m_136_12 g_138_13 m_136_13 g_138_C g_138_M hl8 g_138_a1_136 m_136_a1_136 g_138_b1_136 m_136_b1_136 k_138 fr_138 (by omega) (by omega) (by omega) hab_136 his_136 hcm2 rfl rfl w5_136 (by omega)

theorem cs_come {h : List ik_E} {C : Nat} {pl : Int} {lo : Int} {s : Nat} {t : Int} {kd : Int} {qp : Int} {ut : Int} {wg : List Int} {wc : List Int} {we : List Int} {W : Int → List (Int × Int)} (q0 : 20 < C ∧ C < 42) (q1 : 1 ≤ pl ∧ pl ≤ 12) (q2 : 0 ≤ qp ∧ qp < pl) (q3 : 0 ≤ kd ∧ kd ≤ 2) (q4 : ∀ x : Int, 0 ≤ x → x < pl - 1 → mx_wy wg wc we x (W x)) (q5 : ∀ x : Int, 0 ≤ x → x < pl - 1 → mx_ok pl (W x)) (q6 : -2000000000 ≤ t ∧ t ≤ 2000000000) (h7 : cE h 7 (.inr (0, [fI pl, fI ((s : Nat) : Int), fI lo, .ref 8, .ref 9, .ref 10, .ref 11, .ref 12, .ref 13]))) (h11 : cE h 11 (.inl (.int, fA wg))) (n11 : wg.length = 60) (h12 : cE h 12 (.inl (.int, fA wc))) (n12 : wc.length = 60) (h13 : cE h 13 (.inl (.int, fA we))) (n13 : we.length = 12) (hC : mf_cv h C W pl kd qp ut) (hl : h.length = 94) : ik_F 31 [.ref C, fI t] h (fun rv h' => ∃ (u' : Int), rv = [fI (mf_ct W pl kd qp t)] ∧ mf_cv h' C W pl kd qp u' ∧ (ut ≤ u' ∧ (0 ≤ t ∧ t ≤ 200 → t ≤ u' ∧ (u' = ut ∨ u' = t))) ∧ hfr [C, C + 1, C + 2, C + 3] h h') := by
  have hCv := hC
  obtain ⟨M, a1, b1, cm1, xs1, ys1, hM, hab, hC1, hM1, ha1, hb1, nM, na, nb, hu0, his, hcm⟩ := hC
  refine ik_Wk 1 (pc' := 1) (loc' := [some (.ref C), some (fI t), none, none, none, none]) (st' := [fI t]) (h' := h) (cl' := 0) (sl' := 0) rfl ?_
  refine fw_if_lt rfl rfl (by omega) (by omega) (fun hc1 => ?_) (fun hc1 => ?_)
  · refine ik_Wk 1 (pc' := 12) (loc' := [some (.ref C), some (fI t), none, none, none, none]) (st' := [fI 0]) (h' := h) (cl' := 0) (sl' := 0) rfl ?_
    exact ik_Wret rfl rfl ⟨_, _, rfl, rfl, rfl, rfl, ⟨ut, (by unfold mf_ct; rw [if_neg (by omega)]), hCv, (by omega), (hfr_refl [C, C + 1, C + 2, C + 3] h)⟩⟩
  · refine ik_Wk 1 (pc' := 5) (loc' := [some (.ref C), some (fI t), none, none, none, none]) (st' := [fI t]) (h' := h) (cl' := 0) (sl' := 0) rfl ?_
    refine fw_si rfl (by decide) ?_
    refine fw_ic_le rfl rfl (by omega) (by omega) (by omega) (by omega) (fun hc2 => ?_) (fun hc2 => ?_)
    · refine ik_Wk 1 (pc' := 14) (loc' := [some (.ref C), some (fI t), none, none, none, none]) (st' := [.ref C]) (h' := h) (cl' := 0) (sl' := 0) rfl ?_
      refine fw_gf rfl rfl hC1 rfl ?_
      refine ik_Wk 1 (pc' := 18) (loc' := [some (.ref C), some (fI t), none, none, none, none]) (st' := [fI 1, fI ut]) (h' := h) (cl' := 0) (sl' := 0) rfl ?_
      refine fw_add rfl ?_
      refine ik_Wk 1 (pc' := 20) (loc' := [some (.ref C), some (fI t), some (fI (ut + 1)), none, none, none]) (st' := []) (h' := h) (cl' := 0) (sl' := 0) rfl ?_
      exact cs_comeL (C := C) (pl := pl) (lo := lo) (s := s) (t := t) (kd := kd) (qp := qp) (ut := ut) (wg := wg) (wc := wc) (we := we) (W := W) q0 q1 q2 q3 q4 q5 q6 hM (by omega) 202 (ut + 1) ut a1 b1 cm1 xs1 ys1 none none none h h7 h11 n11 h12 n12 h13 n13 hC1 hM1 nM ha1 na hb1 nb hl (hfr_refl [C, C + 1, C + 2, C + 3] h) (by omega) (by omega) (by omega) hab his hcm rfl rfl rfl (by omega)
    · refine ik_Wk 1 (pc' := 12) (loc' := [some (.ref C), some (fI t), none, none, none, none]) (st' := [fI 0]) (h' := h) (cl' := 0) (sl' := 0) rfl ?_
      exact ik_Wret rfl rfl ⟨_, _, rfl, rfl, rfl, rfl, ⟨ut, (by unfold mf_ct; rw [if_neg (by omega)]), hCv, (by omega), (hfr_refl [C, C + 1, C + 2, C + 3] h)⟩⟩

theorem cs_oddsL {h : List ik_E} {C : Nat} {pl : Int} {lo : Int} {s : Nat} {t : Int} {kd : Int} {qp : Int} {ut : Int} {wg : List Int} {wc : List Int} {we : List Int} {W : Int → List (Int × Int)} {B : Nat} (q0 : 20 < C ∧ C < 42) (q1 : 1 ≤ pl ∧ pl ≤ 12) (q2 : 0 ≤ qp ∧ qp < pl) (q3 : 0 ≤ kd ∧ kd ≤ 2) (q4 : ∀ x : Int, 0 ≤ x → x < pl - 1 → mx_wy wg wc we x (W x)) (q5 : ∀ x : Int, 0 ≤ x → x < pl - 1 → mx_ok pl (W x)) (q6 : 0 ≤ t ∧ t ≤ 200) (q7 : ut ≤ t) (q8 : B < 4096) {M a1 b1 : Nat} {cm1 xs1 ys1 : List Int} (hM : M = C + 1) (hab : (a1 = C + 2 ∧ b1 = C + 3) ∨ (a1 = C + 3 ∧ b1 = C + 2)) (his : mf_is pl xs1 (mf_od W (pl - 1) kd qp t.toNat)) (hcm : ∀ j : Nat, (j : Int) ≤ t → cm1.getD j 0 = mf_cm W (pl - 1) kd qp j) : ∀ (k : Nat) (p : Int) (sm : Int) (u : List ik_E) (u7 : cE u 7 (.inr (0, [fI pl, fI ((s : Nat) : Int), fI lo, .ref 8, .ref 9, .ref 10, .ref 11, .ref 12, .ref 13]))) (uC : cE u C (.inr (2, [.ref 7, fI kd, fI t, .ref M, .ref a1, .ref b1]))) (uM : cE u M (.inl (.int, fA cm1))) (nM : cm1.length = 201) (ua1 : cE u a1 (.inl (.long, fL xs1))) (na1 : xs1.length = 12) (ub1 : cE u b1 (.inl (.long, fL ys1))) (nb1 : ys1.length = 12) (ul : u.length = 94) (F : hfr [C, C + 1, C + 2, C + 3] h u) (hp : 0 ≤ p ∧ p ≤ pl) (hs : sm = mf_ss B (mf_od W (pl - 1) kd qp t.toNat) p.toNat) (hk : pl - p < (k : Int)), ik_G 32 11 [some (.ref C), some (fI t), some (fI ((B : Nat) : Int)), some (fJ sm), none, some (fI p)] [] u (fun rv h' => rv = [fI (mf_ss B (mf_od W (pl - 1) kd qp t.toNat) pl.toNat)] ∧ mf_cv h' C W pl kd qp t ∧ hfr [C, C + 1, C + 2, C + 3] h h') := by
  intro k
  induction k with
  | zero => intro p sm u u7 uC uM nM ua1 na1 ub1 nb1 ul F hp hs hk; omega
  | succ k ih =>
    intro p sm u u7 uC uM nM ua1 na1 ub1 nb1 ul F hp hs hk
    refine ik_Wk 2 (pc' := 14) (loc' := [some (.ref C), some (fI t), some (fI ((B : Nat) : Int)), some (fJ sm), none, some (fI p)]) (st' := [.ref C, fI p]) (h' := u) (cl' := 0) (sl' := 0) rfl ?_
    refine fw_gf rfl rfl uC rfl ?_
    refine fw_gf rfl rfl u7 rfl ?_
    refine fw_ic_ge rfl rfl (by omega) (by omega) (by omega) (by omega) (fun hc1 => ?_) (fun hc1 => ?_)
    · refine ik_Wk 1 (pc' := 49) (loc' := [some (.ref C), some (fI t), some (fI ((B : Nat) : Int)), some (fJ sm), none, some (fI p)]) (st' := [fJ sm]) (h' := u) (cl' := 0) (sl' := 0) rfl ?_
      refine fx_l2i rfl ?_
      have ep : p = pl := by omega
      exact ik_Wret rfl rfl ⟨_, _, rfl, rfl, rfl, rfl, ⟨(congrArg (fun z => [fI z]) (by rw [hs, ep])), ⟨M, a1, b1, cm1, xs1, ys1, hM, hab, uC, uM, ua1, ub1, nM, na1, nb1, by omega, his, hcm⟩, F⟩⟩
    · refine ik_Wk 2 (pc' := 26) (loc' := [some (.ref C), some (fI t), some (fI ((B : Nat) : Int)), some (fJ sm), none, some (fI p)]) (st' := [fI p, fI ((B : Nat) : Int)]) (h' := u) (cl' := 0) (sl' := 0) rfl ?_
      refine fx_shr (n := B) rfl (by omega) (by omega) (by omega) ?_
      refine ik_Wk 1 (pc' := 28) (loc' := [some (.ref C), some (fI t), some (fI ((B : Nat) : Int)), some (fJ sm), none, some (fI p)]) (st' := [fI 1, fI ((B >>> p.toNat : Nat) : Int)]) (h' := u) (cl' := 0) (sl' := 0) rfl ?_
      refine fx_bit (n := B) (k := p.toNat) rfl (fun hb2 => ?_) (fun hb2 => ?_)
      · refine ik_Wk 0 (pc' := 29) (loc' := [some (.ref C), some (fI t), some (fI ((B : Nat) : Int)), some (fJ sm), none, some (fI p)]) (st' := [fI 1]) (h' := u) (cl' := 0) (sl' := 0) rfl ?_
        refine fw_if_eq rfl rfl (by omega) (by omega) (fun hc3 => absurd hc3 (by omega)) (fun hc3 => ?_)
        refine ik_Wk 2 (pc' := 34) (loc' := [some (.ref C), some (fI t), some (fI ((B : Nat) : Int)), some (fJ sm), none, some (fI p)]) (st' := [.ref C, fJ sm]) (h' := u) (cl' := 0) (sl' := 0) rfl ?_
        refine fw_gf rfl rfl uC rfl ?_
        refine ik_Wk 1 (pc' := 39) (loc' := [some (.ref C), some (fI t), some (fI ((B : Nat) : Int)), some (fJ sm), none, some (fI p)]) (st' := [fI p, .ref a1, fJ sm]) (h' := u) (cl' := 0) (sl' := 0) rfl ?_
        refine fx_lal rfl ua1 (by omega) (by omega) (by omega) ?_
        refine fw_ladd rfl ?_
        refine ik_Wk 1 (pc' := 42) (loc' := [some (.ref C), some (fI t), some (fI ((B : Nat) : Int)), some (fJ (sm + (xs1.getD p.toNat 0))), none, some (fI p)]) (st' := []) (h' := u) (cl' := 0) (sl' := 0) rfl ?_
        refine fw_inc (a := p) (loc' := [some (.ref C), some (fI t), some (fI ((B : Nat) : Int)), some (fJ (sm + (xs1.getD p.toNat 0))), none, some (fI (p + 1))]) rfl rfl (Nat.le_of_ble_eq_true rfl) rfl ?_
        refine ik_Wk 1 (pc' := 11) (loc' := [some (.ref C), some (fI t), some (fI ((B : Nat) : Int)), some (fJ (sm + (xs1.getD p.toNat 0))), none, some (fI (p + 1))]) (st' := []) (h' := u) (cl' := 0) (sl' := 0) rfl ?_
        exact ih  (p + 1) (sm + (xs1.getD p.toNat 0)) u u7 uC uM nM ua1 na1 ub1 nb1 ul F (by omega) (by rw [mf_ss_s (by omega), if_pos hb2, ← hs, his _ (by omega)]) (by omega)
      · refine ik_Wk 0 (pc' := 29) (loc' := [some (.ref C), some (fI t), some (fI ((B : Nat) : Int)), some (fJ sm), none, some (fI p)]) (st' := [fI 0]) (h' := u) (cl' := 0) (sl' := 0) rfl ?_
        refine fw_if_eq rfl rfl (by omega) (by omega) (fun hc4 => ?_) (fun hc4 => absurd hc4 (by omega))
        refine fw_inc (a := p) (loc' := [some (.ref C), some (fI t), some (fI ((B : Nat) : Int)), some (fJ sm), none, some (fI (p + 1))]) rfl rfl (Nat.le_of_ble_eq_true rfl) rfl ?_
        refine ik_Wk 1 (pc' := 11) (loc' := [some (.ref C), some (fI t), some (fI ((B : Nat) : Int)), some (fJ sm), none, some (fI (p + 1))]) (st' := []) (h' := u) (cl' := 0) (sl' := 0) rfl ?_
        exact ih  (p + 1) sm u u7 uC uM nM ua1 na1 ub1 nb1 ul F (by omega) (by rw [mf_ss_s (by omega), if_neg (by rw [hb2]; decide), Int.add_zero]; exact hs) (by omega)

theorem cs_oddsAt {h : List ik_E} {C : Nat} {pl : Int} {lo : Int} {s : Nat} {t : Int} {kd : Int} {qp : Int} {ut : Int} {wg : List Int} {wc : List Int} {we : List Int} {W : Int → List (Int × Int)} {B : Nat} (q0 : 20 < C ∧ C < 42) (q1 : 1 ≤ pl ∧ pl ≤ 12) (q2 : 0 ≤ qp ∧ qp < pl) (q3 : 0 ≤ kd ∧ kd ≤ 2) (q4 : ∀ x : Int, 0 ≤ x → x < pl - 1 → mx_wy wg wc we x (W x)) (q5 : ∀ x : Int, 0 ≤ x → x < pl - 1 → mx_ok pl (W x)) (q6 : 0 ≤ t ∧ t ≤ 200) (q7 : ut ≤ t) (q8 : B < 4096) (h7 : cE h 7 (.inr (0, [fI pl, fI ((s : Nat) : Int), fI lo, .ref 8, .ref 9, .ref 10, .ref 11, .ref 12, .ref 13]))) (h11 : cE h 11 (.inl (.int, fA wg))) (n11 : wg.length = 60) (h12 : cE h 12 (.inl (.int, fA wc))) (n12 : wc.length = 60) (h13 : cE h 13 (.inl (.int, fA we))) (n13 : we.length = 12) (hC : mf_cv h C W pl kd qp ut) (hl : h.length = 94) : ik_F 32 [.ref C, fI t, fI ((B : Nat) : Int)] h (fun rv h' => rv = [fI (mf_ss B (mf_od W (pl - 1) kd qp t.toNat) pl.toNat)] ∧ mf_cv h' C W pl kd qp t ∧ hfr [C, C + 1, C + 2, C + 3] h h') := by
  refine ik_Wk 2 (pc' := 2) (loc' := [some (.ref C), some (fI t), some (fI ((B : Nat) : Int)), none, none, none]) (st' := [fI t, .ref C]) (h' := h) (cl' := 0) (sl' := 0) rfl ?_
  refine fw_call 31 2 0 [.ref C, fI t] [] rfl rfl rfl (by decide) rfl rfl (fw_rec hl (fw_ftx rfl wv_n (wl_c (wl_r (by omega)) (wl_c rfl (wl_c rfl (wl_c rfl (wl_c rfl (wl_c rfl wl_n))))))) (mf_cv_o hC).choose_spec rfl (by decide)) (cs_come (C := C) (pl := pl) (lo := lo) (s := s) (t := t) (kd := kd) (qp := qp) (ut := ut) (wg := wg) (wc := wc) (we := we) (W := W) (by omega) (by omega) q2 q3 q4 q5 (by omega) h7 h11 n11 h12 n12 h13 n13 hC hl) ?_
  rintro _ h_139 ⟨u'_139, rfl, e_139_C, p_139_0, F_139⟩
  have k_139 := F_139.1.trans hl
  have fr_139 := hfr_c (hfr_refl [C, C + 1, C + 2, C + 3] h) F_139 (by intro b_ hb; simp at hb ⊢; omega)
  have g_139_7 := (F_139.2 7 (by simp <;> omega)).trans h7
  have g_139_11 := (F_139.2 11 (by simp <;> omega)).trans h11
  have g_139_12 := (F_139.2 12 (by simp <;> omega)).trans h12
  have g_139_13 := (F_139.2 13 (by simp <;> omega)).trans h13
  have g_139_C : mf_cv h_139 C W pl kd qp u'_139 := e_139_C
  refine ik_Wk 0 (pc' := 5) (loc' := [some (.ref C), some (fI t), some (fI ((B : Nat) : Int)), none, none, none]) (st' := [fI (mf_ct W pl kd qp t)]) (h' := h_139) (cl' := 0) (sl' := 0) rfl ?_
  have eu : u'_139 = t := by omega
  rw [eu] at g_139_C
  obtain ⟨M, a1, b1, cm1, xs1, ys1, hM, hab, hC1, hM1, ha1, hb1, nM, na, nb, hu0, his, hcm⟩ := g_139_C
  refine ik_Wk 1 (pc' := 6) (loc' := [some (.ref C), some (fI t), some (fI ((B : Nat) : Int)), none, none, none]) (st' := []) (h' := h_139) (cl' := 0) (sl' := 0) rfl ?_
  refine fw_lc (z := 0) rfl (by decide) ?_
  refine ik_Wk 3 (pc' := 11) (loc' := [some (.ref C), some (fI t), some (fI ((B : Nat) : Int)), some (fJ 0), none, some (fI 0)]) (st' := []) (h' := h_139) (cl' := 0) (sl' := 0) rfl ?_
  exact cs_oddsL (C := C) (pl := pl) (lo := lo) (s := s) (t := t) (kd := kd) (qp := qp) (ut := ut) (wg := wg) (wc := wc) (we := we) (W := W) (B := B) q0 q1 q2 q3 q4 q5 q6 q7 q8 hM hab his hcm (pl.toNat + 1) 0 0 h_139 g_139_7 hC1 hM1 nM ha1 na hb1 nb k_139 fr_139 (by omega) rfl (by omega)

end