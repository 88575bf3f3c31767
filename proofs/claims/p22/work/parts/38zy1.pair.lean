noncomputable section
theorem mj_nn {n : Int} (h : n ≤ 3) : 1 <<< n.toNat ≤ 8 := by
  rw [Nat.shiftLeft_eq, Nat.one_mul]
  have e : 2 ^ n.toNat ≤ 2 ^ 3 := Nat.pow_le_pow_right (by decide +kernel) (by omega)
  exact e
theorem cs_findPairB {h : List ik_E} {n : Int} {fe : List Int} {bo_ : List Int} {sh : List Int} {wh : List Int} {wo : List Int} (q0 : 1 ≤ n ∧ n ≤ 3) (q1 : ∀ i : Int, (0 : Int) ≤ i → i < (9 : Int) → 0 ≤ fe.getD i.toNat 0 ∧ fe.getD i.toNat 0 ≤ 1000) (nn : Nat) (hnn : nn ≤ 8) (sz : Int) (hs : (1 : Int) ≤ sz ∧ sz ≤ (3 : Int)) (sa : Nat) (ha : 1 ≤ sa ∧ sa < 8)  (K : ∀ (w : List ik_E) (sb2 : Nat) (b1 : List Int) (s1 : List Int) (t1 : List Int) (u1 : List Int) (w45 : cE w 45 (.inr (5, [.ref 46, .ref 47, .ref 48, .ref 49, .ref 50]))) (w46 : cE w 46 (.inl (.int, fA fe))) (nw_46 : fe.length = (9 : Nat)) (w47 : cE w 47 (.inl (.long, fL b1))) (nw_47 : b1.length = (12 : Nat)) (w48 : cE w 48 (.inl (.long, fL s1))) (nw_48 : s1.length = (6 : Nat)) (w49 : cE w 49 (.inl (.long, fL t1))) (nw_49 : t1.length = (2 : Nat)) (w50 : cE w 50 (.inl (.long, fL u1))) (nw_50 : u1.length = (2 : Nat)) (wl : w.length = (94 : Nat)) (F : hfr [47, 48, 49, 50] h w) , ik_G 43 68 [some (.ref 45), some (fI n), some (fI ((nn : Nat) : Int)), some (fI sz), some (fI ((sa : Nat) : Int)), some (fI ((sb2 : Nat) : Int))] [] w (fun rv h_q => ∃ (bo' : List Int) (sh' : List Int) (wh' : List Int) (wo' : List Int) (b : Int), rv = [fI b] ∧ cE h_q 47 (.inl (.long, fL bo')) ∧ bo'.length = (12 : Nat) ∧ cE h_q 48 (.inl (.long, fL sh')) ∧ sh'.length = (6 : Nat) ∧ cE h_q 49 (.inl (.long, fL wh')) ∧ wh'.length = (2 : Nat) ∧ cE h_q 50 (.inl (.long, fL wo')) ∧ wo'.length = (2 : Nat) ∧ ((0 : Int) ≤ b ∧ b ≤ (1 : Int)) ∧ hfr [47, 48, 49, 50] h h_q)) : ∀ (k : Nat) (sb : Nat) (b1 : List Int) (s1 : List Int) (t1 : List Int) (u1 : List Int) (u : List ik_E) (u45 : cE u 45 (.inr (5, [.ref 46, .ref 47, .ref 48, .ref 49, .ref 50]))) (u46 : cE u 46 (.inl (.int, fA fe))) (n46 : fe.length = (9 : Nat)) (u47 : cE u 47 (.inl (.long, fL b1))) (n47 : b1.length = (12 : Nat)) (u48 : cE u 48 (.inl (.long, fL s1))) (n48 : s1.length = (6 : Nat)) (u49 : cE u 49 (.inl (.long, fL t1))) (n49 : t1.length = (2 : Nat)) (u50 : cE u 50 (.inl (.long, fL u1))) (n50 : u1.length = (2 : Nat)) (ul : u.length = (94 : Nat)) (F : hfr [47, 48, 49, 50] h u) (hb : 1 ≤ sb ∧ sb ≤ 8) (hk : 8 - (sb : Int) < (k : Int)), ik_G 43 23 [some (.ref 45), some (fI n), some (fI ((nn : Nat) : Int)), some (fI sz), some (fI ((sa : Nat) : Int)), some (fI ((sb : Nat) : Int))] [] u (fun rv h_q => ∃ (bo' : List Int) (sh' : List Int) (wh' : List Int) (wo' : List Int) (b : Int), rv = [fI b] ∧ cE h_q 47 (.inl (.long, fL bo')) ∧ bo'.length = (12 : Nat) ∧ cE h_q 48 (.inl (.long, fL sh')) ∧ sh'.length = (6 : Nat) ∧ cE h_q 49 (.inl (.long, fL wh')) ∧ wh'.length = (2 : Nat) ∧ cE h_q 50 (.inl (.long, fL wo')) ∧ wo'.length = (2 : Nat) ∧ ((0 : Int) ≤ b ∧ b ≤ (1 : Int)) ∧ hfr [47, 48, 49, 50] h h_q) := by
  intro k
  induction k with
  | zero => intro sb b1 s1 t1 u1 u u45 u46 n46 u47 n47 u48 n48 u49 n49 u50 n50 ul F hb hk; omega
  | succ k ih =>
    intro sb b1 s1 t1 u1 u u45 u46 n46 u47 n47 u48 n48 u49 n49 u50 n50 ul F hb hk
    refine ik_Wk 2 (pc_q := 26) (loc_q := [some (.ref 45), some (fI n), some (fI ((nn : Nat) : Int)), some (fI sz), some (fI ((sa : Nat) : Int)), some (fI ((sb : Nat) : Int))]) (st_q := [fI ((nn : Nat) : Int), fI ((sb : Nat) : Int)]) (h_q := u) (cl_q := 0) (sl_q := 0) rfl ?_
    refine fw_ic_ge rfl rfl (by omega) (by omega) (by omega) (by omega) (fun hc1 => ?_) (fun hc1 => ?_)
    · exact K u sb b1 s1 t1 u1 u45 u46 n46 u47 n47 u48 n48 u49 n49 u50 n50 ul F
    · refine ik_Wk 1 (pc_q := 31) (loc_q := [some (.ref 45), some (fI n), some (fI ((nn : Nat) : Int)), some (fI sz), some (fI ((sa : Nat) : Int)), some (fI ((sb : Nat) : Int))]) (st_q := [fI ((sa : Nat) : Int)]) (h_q := u) (cl_q := 0) (sl_q := 0) rfl ?_
      refine fw_call 211 1 3 [fI ((sa : Nat) : Int)] [] rfl rfl rfl (Nat.le_of_ble_eq_true rfl) rfl rfl (fw_sta ul rfl (by decide +kernel)) (cj_bits (v := ((sa : Nat) : Int))   ul) ?_
      rintro _ h_685 ⟨z_685, rfl, p_685_0, F_685⟩
      have k_685 : cL h_685 := F_685.1.trans ul
      have fr_685 := hfr_cb F F_685 rfl
      have g_685_45 := (hfr_g F_685 45 rfl).trans u45
      have g_685_46 := (hfr_g F_685 46 rfl).trans u46
      have g_685_47 := (hfr_g F_685 47 rfl).trans u47
      have g_685_48 := (hfr_g F_685 48 rfl).trans u48
      have g_685_49 := (hfr_g F_685 49 rfl).trans u49
      have g_685_50 := (hfr_g F_685 50 rfl).trans u50
      refine ik_Wk 0 (pc_q := 34) (loc_q := [some (.ref 45), some (fI n), some (fI ((nn : Nat) : Int)), some (fI sz), some (fI ((sa : Nat) : Int)), some (fI ((sb : Nat) : Int))]) (st_q := [fI z_685]) (h_q := h_685) (cl_q := 0) (sl_q := 0) rfl ?_
      refine ik_Wk 1 (pc_q := 35) (loc_q := [some (.ref 45), some (fI n), some (fI ((nn : Nat) : Int)), some (fI sz), some (fI ((sa : Nat) : Int)), some (fI ((sb : Nat) : Int))]) (st_q := [fI sz, fI z_685]) (h_q := h_685) (cl_q := 0) (sl_q := 0) rfl ?_
      refine fw_ic_ne rfl rfl (by omega) (by omega) (by omega) (by omega) (fun hc2 => ?_) (fun hc2 => ?_)
      · refine ik_Wk 1 (pc_q := 40) (loc_q := [some (.ref 45), some (fI n), some (fI ((nn : Nat) : Int)), some (fI sz), some (fI ((sa : Nat) : Int)), some (fI ((sb : Nat) : Int))]) (st_q := [fI ((sb : Nat) : Int)]) (h_q := h_685) (cl_q := 0) (sl_q := 0) rfl ?_
        refine fw_call 211 1 3 [fI ((sb : Nat) : Int)] [] rfl rfl rfl (Nat.le_of_ble_eq_true rfl) rfl rfl (fw_sta k_685 rfl (by decide +kernel)) (cj_bits (v := ((sb : Nat) : Int))   k_685) ?_
        rintro _ h_686 ⟨z_686, rfl, p_686_0, F_686⟩
        have k_686 : cL h_686 := F_686.1.trans k_685
        have fr_686 := hfr_cb fr_685 F_686 rfl
        have g_686_45 := (hfr_g F_686 45 rfl).trans g_685_45
        have g_686_46 := (hfr_g F_686 46 rfl).trans g_685_46
        have g_686_47 := (hfr_g F_686 47 rfl).trans g_685_47
        have g_686_48 := (hfr_g F_686 48 rfl).trans g_685_48
        have g_686_49 := (hfr_g F_686 49 rfl).trans g_685_49
        have g_686_50 := (hfr_g F_686 50 rfl).trans g_685_50
        refine ik_Wk 0 (pc_q := 43) (loc_q := [some (.ref 45), some (fI n), some (fI ((nn : Nat) : Int)), some (fI sz), some (fI ((sa : Nat) : Int)), some (fI ((sb : Nat) : Int))]) (st_q := [fI z_686]) (h_q := h_686) (cl_q := 0) (sl_q := 0) rfl ?_
        refine ik_Wk 1 (pc_q := 44) (loc_q := [some (.ref 45), some (fI n), some (fI ((nn : Nat) : Int)), some (fI sz), some (fI ((sa : Nat) : Int)), some (fI ((sb : Nat) : Int))]) (st_q := [fI sz, fI z_686]) (h_q := h_686) (cl_q := 0) (sl_q := 0) rfl ?_
        refine fw_ic_ne rfl rfl (by omega) (by omega) (by omega) (by omega) (fun hc3 => ?_) (fun hc3 => ?_)
        · refine ik_Wk 5 (pc_q := 54) (loc_q := [some (.ref 45), some (fI n), some (fI ((nn : Nat) : Int)), some (fI sz), some (fI ((sa : Nat) : Int)), some (fI ((sb : Nat) : Int))]) (st_q := [fI n, fI sz, fI ((sb : Nat) : Int), fI ((sa : Nat) : Int), .ref 45]) (h_q := h_686) (cl_q := 0) (sl_q := 0) rfl ?_
          refine fw_call 44 5 0 [.ref 45, fI ((sa : Nat) : Int), fI ((sb : Nat) : Int), fI sz, fI n] [] rfl rfl rfl (Nat.le_of_ble_eq_true rfl) rfl rfl (fw_rec k_686 rfl g_686_45 rfl (Nat.le_of_ble_eq_true rfl)) (cs_mixFits (sa := sa) (sb := sb) (sz := sz) (n := n) (fe := fe) (bo_ := b1) (sh := s1) (wh := t1) (wo := u1) (by omega) (by omega) (by omega) (by omega) q1 g_686_45 g_686_46 n46 g_686_47 n47 g_686_48 n48 g_686_49 n49 g_686_50 n50 k_686) ?_
          rintro _ h_687 ⟨bo'_687, sh'_687, wh'_687, wo'_687, b_687, rfl, e_687_47, m_687_47, e_687_48, m_687_48, e_687_49, m_687_49, e_687_50, m_687_50, p_687_0, F_687⟩
          have k_687 : cL h_687 := F_687.1.trans k_686
          have fr_687 := hfr_cb fr_686 F_687 rfl
          have g_687_45 := (hfr_g F_687 45 rfl).trans g_686_45
          have g_687_46 := (hfr_g F_687 46 rfl).trans g_686_46
          have g_687_47 : cE h_687 47 (.inl (.long, fL bo'_687)) := e_687_47
          have g_687_48 : cE h_687 48 (.inl (.long, fL sh'_687)) := e_687_48
          have g_687_49 : cE h_687 49 (.inl (.long, fL wh'_687)) := e_687_49
          have g_687_50 : cE h_687 50 (.inl (.long, fL wo'_687)) := e_687_50
          refine ik_Wk 0 (pc_q := 57) (loc_q := [some (.ref 45), some (fI n), some (fI ((nn : Nat) : Int)), some (fI sz), some (fI ((sa : Nat) : Int)), some (fI ((sb : Nat) : Int))]) (st_q := [fI b_687]) (h_q := h_687) (cl_q := 0) (sl_q := 0) rfl ?_
          refine fw_if_eq rfl rfl (by omega) (by omega) (fun hc4 => ?_) (fun hc4 => ?_)
          · refine fw_inc (a := ((sb : Nat) : Int)) (loc_q := [some (.ref 45), some (fI n), some (fI ((nn : Nat) : Int)), some (fI sz), some (fI ((sa : Nat) : Int)), some (fI (((sb : Nat) : Int) + 1))]) rfl rfl (Nat.le_of_ble_eq_true rfl) rfl ?_
            refine ik_Wk 1 (pc_q := 23) (loc_q := [some (.ref 45), some (fI n), some (fI ((nn : Nat) : Int)), some (fI sz), some (fI ((sa : Nat) : Int)), some (fI (((sb : Nat) : Int) + 1))]) (st_q := []) (h_q := h_687) (cl_q := 0) (sl_q := 0) rfl ?_
            rw [show ((sb : Nat) : Int) + 1 = ((sb + 1 : Nat) : Int) from rfl]
            exact ih (sb + 1) bo'_687 sh'_687 wh'_687 wo'_687 h_687 g_687_45 g_687_46 n46 g_687_47 m_687_47 g_687_48 m_687_48 g_687_49 m_687_49 g_687_50 m_687_50 k_687 fr_687 (by omega) (by omega)
          · refine ik_Wk 1 (pc_q := 61) (loc_q := [some (.ref 45), some (fI n), some (fI ((nn : Nat) : Int)), some (fI sz), some (fI ((sa : Nat) : Int)), some (fI ((sb : Nat) : Int))]) (st_q := [fI 1]) (h_q := h_687) (cl_q := 0) (sl_q := 0) rfl ?_
            exact ik_Wret rfl rfl ⟨_, _, rfl, rfl, rfl, rfl, ⟨bo'_687, sh'_687, wh'_687, wo'_687, 1, rfl, g_687_47, m_687_47, g_687_48, m_687_48, g_687_49, m_687_49, g_687_50, m_687_50, (by omega), fr_687⟩⟩
        · refine fw_inc (a := ((sb : Nat) : Int)) (loc_q := [some (.ref 45), some (fI n), some (fI ((nn : Nat) : Int)), some (fI sz), some (fI ((sa : Nat) : Int)), some (fI (((sb : Nat) : Int) + 1))]) rfl rfl (Nat.le_of_ble_eq_true rfl) rfl ?_
          refine ik_Wk 1 (pc_q := 23) (loc_q := [some (.ref 45), some (fI n), some (fI ((nn : Nat) : Int)), some (fI sz), some (fI ((sa : Nat) : Int)), some (fI (((sb : Nat) : Int) + 1))]) (st_q := []) (h_q := h_686) (cl_q := 0) (sl_q := 0) rfl ?_
          rw [show ((sb : Nat) : Int) + 1 = ((sb + 1 : Nat) : Int) from rfl]
          exact ih (sb + 1) b1 s1 t1 u1 h_686 g_686_45 g_686_46 n46 g_686_47 n47 g_686_48 n48 g_686_49 n49 g_686_50 n50 k_686 fr_686 (by omega) (by omega)
      · refine fw_inc (a := ((sb : Nat) : Int)) (loc_q := [some (.ref 45), some (fI n), some (fI ((nn : Nat) : Int)), some (fI sz), some (fI ((sa : Nat) : Int)), some (fI (((sb : Nat) : Int) + 1))]) rfl rfl (Nat.le_of_ble_eq_true rfl) rfl ?_
        refine ik_Wk 1 (pc_q := 23) (loc_q := [some (.ref 45), some (fI n), some (fI ((nn : Nat) : Int)), some (fI sz), some (fI ((sa : Nat) : Int)), some (fI (((sb : Nat) : Int) + 1))]) (st_q := []) (h_q := h_685) (cl_q := 0) (sl_q := 0) rfl ?_
        rw [show ((sb : Nat) : Int) + 1 = ((sb + 1 : Nat) : Int) from rfl]
        exact ih (sb + 1) b1 s1 t1 u1 h_685 g_685_45 g_685_46 n46 g_685_47 n47 g_685_48 n48 g_685_49 n49 g_685_50 n50 k_685 fr_685 (by omega) (by omega)

theorem cs_findPairA {h : List ik_E} {n : Int} {fe : List Int} {bo_ : List Int} {sh : List Int} {wh : List Int} {wo : List Int} (q0 : 1 ≤ n ∧ n ≤ 3) (q1 : ∀ i : Int, (0 : Int) ≤ i → i < (9 : Int) → 0 ≤ fe.getD i.toNat 0 ∧ fe.getD i.toNat 0 ≤ 1000) (nn : Nat) (hnn : nn ≤ 8) (sz : Int) (hs : (1 : Int) ≤ sz ∧ sz ≤ (3 : Int))  (K : ∀ (w : List ik_E) (sa2 : Nat) (b1 : List Int) (s1 : List Int) (t1 : List Int) (u1 : List Int) (x5 : Option Value) (w45 : cE w 45 (.inr (5, [.ref 46, .ref 47, .ref 48, .ref 49, .ref 50]))) (w46 : cE w 46 (.inl (.int, fA fe))) (nw_46 : fe.length = (9 : Nat)) (w47 : cE w 47 (.inl (.long, fL b1))) (nw_47 : b1.length = (12 : Nat)) (w48 : cE w 48 (.inl (.long, fL s1))) (nw_48 : s1.length = (6 : Nat)) (w49 : cE w 49 (.inl (.long, fL t1))) (nw_49 : t1.length = (2 : Nat)) (w50 : cE w 50 (.inl (.long, fL u1))) (nw_50 : u1.length = (2 : Nat)) (wl : w.length = (94 : Nat)) (F : hfr [47, 48, 49, 50] h w) (w5 : ik_wl 94 x5 = true), ik_G 43 74 [some (.ref 45), some (fI n), some (fI ((nn : Nat) : Int)), some (fI sz), some (fI ((sa2 : Nat) : Int)), x5] [] w (fun rv h_q => ∃ (bo' : List Int) (sh' : List Int) (wh' : List Int) (wo' : List Int) (b : Int), rv = [fI b] ∧ cE h_q 47 (.inl (.long, fL bo')) ∧ bo'.length = (12 : Nat) ∧ cE h_q 48 (.inl (.long, fL sh')) ∧ sh'.length = (6 : Nat) ∧ cE h_q 49 (.inl (.long, fL wh')) ∧ wh'.length = (2 : Nat) ∧ cE h_q 50 (.inl (.long, fL wo')) ∧ wo'.length = (2 : Nat) ∧ ((0 : Int) ≤ b ∧ b ≤ (1 : Int)) ∧ hfr [47, 48, 49, 50] h h_q)) : ∀ (k : Nat) (sa : Nat) (b1 : List Int) (s1 : List Int) (t1 : List Int) (u1 : List Int) (x5 : Option Value) (u : List ik_E) (u45 : cE u 45 (.inr (5, [.ref 46, .ref 47, .ref 48, .ref 49, .ref 50]))) (u46 : cE u 46 (.inl (.int, fA fe))) (n46 : fe.length = (9 : Nat)) (u47 : cE u 47 (.inl (.long, fL b1))) (n47 : b1.length = (12 : Nat)) (u48 : cE u 48 (.inl (.long, fL s1))) (n48 : s1.length = (6 : Nat)) (u49 : cE u 49 (.inl (.long, fL t1))) (n49 : t1.length = (2 : Nat)) (u50 : cE u 50 (.inl (.long, fL u1))) (n50 : u1.length = (2 : Nat)) (ul : u.length = (94 : Nat)) (F : hfr [47, 48, 49, 50] h u) (ha : 1 ≤ sa ∧ sa ≤ 8) (w5 : ik_wl 94 x5 = true) (hk : 8 - (sa : Int) < (k : Int)), ik_G 43 14 [some (.ref 45), some (fI n), some (fI ((nn : Nat) : Int)), some (fI sz), some (fI ((sa : Nat) : Int)), x5] [] u (fun rv h_q => ∃ (bo' : List Int) (sh' : List Int) (wh' : List Int) (wo' : List Int) (b : Int), rv = [fI b] ∧ cE h_q 47 (.inl (.long, fL bo')) ∧ bo'.length = (12 : Nat) ∧ cE h_q 48 (.inl (.long, fL sh')) ∧ sh'.length = (6 : Nat) ∧ cE h_q 49 (.inl (.long, fL wh')) ∧ wh'.length = (2 : Nat) ∧ cE h_q 50 (.inl (.long, fL wo')) ∧ wo'.length = (2 : Nat) ∧ ((0 : Int) ≤ b ∧ b ≤ (1 : Int)) ∧ hfr [47, 48, 49, 50] h h_q) := by
  intro k
  induction k with
  | zero => intro sa b1 s1 t1 u1 x5 u u45 u46 n46 u47 n47 u48 n48 u49 n49 u50 n50 ul F ha w5 hk; omega
  | succ k ih =>
    intro sa b1 s1 t1 u1 x5 u u45 u46 n46 u47 n47 u48 n48 u49 n49 u50 n50 ul F ha w5 hk
    refine ik_Wk 2 (pc_q := 17) (loc_q := [some (.ref 45), some (fI n), some (fI ((nn : Nat) : Int)), some (fI sz), some (fI ((sa : Nat) : Int)), x5]) (st_q := [fI ((nn : Nat) : Int), fI ((sa : Nat) : Int)]) (h_q := u) (cl_q := 0) (sl_q := 0) rfl ?_
    refine fw_ic_ge rfl rfl (by omega) (by omega) (by omega) (by omega) (fun hc1 => ?_) (fun hc1 => ?_)
    · exact K u sa b1 s1 t1 u1 x5 u45 u46 n46 u47 n47 u48 n48 u49 n49 u50 n50 ul F w5
    · refine ik_Wk 2 (pc_q := 23) (loc_q := [some (.ref 45), some (fI n), some (fI ((nn : Nat) : Int)), some (fI sz), some (fI ((sa : Nat) : Int)), some (fI 1)]) (st_q := []) (h_q := u) (cl_q := 0) (sl_q := 0) rfl ?_
      refine cs_findPairB (n := n) (fe := fe) (bo_ := bo_) (sh := sh) (wh := wh) (wo := wo) q0 q1 nn hnn sz (by omega) sa (by omega)  (fun h_688 sb2_688 b1_688 s1_688 t1_688 u1_688 g_688_45 g_688_46 m_688_46 g_688_47 m_688_47 g_688_48 m_688_48 g_688_49 m_688_49 g_688_50 m_688_50 k_688 fr_688 => ?_) 9 1 b1 s1 t1 u1 u u45 u46 n46 u47 n47 u48 n48 u49 n49 u50 n50 ul F (by omega) (by omega)
      refine fw_inc (a := ((sa : Nat) : Int)) (loc_q := [some (.ref 45), some (fI n), some (fI ((nn : Nat) : Int)), some (fI sz), some (fI (((sa : Nat) : Int) + 1)), some (fI ((sb2_688 : Nat) : Int))]) rfl rfl (Nat.le_of_ble_eq_true rfl) rfl ?_
      refine ik_Wk 1 (pc_q := 14) (loc_q := [some (.ref 45), some (fI n), some (fI ((nn : Nat) : Int)), some (fI sz), some (fI (((sa : Nat) : Int) + 1)), some (fI ((sb2_688 : Nat) : Int))]) (st_q := []) (h_q := h_688) (cl_q := 0) (sl_q := 0) rfl ?_
      rw [show ((sa : Nat) : Int) + 1 = ((sa + 1 : Nat) : Int) from rfl]
      exact ih (sa + 1) b1_688 s1_688 t1_688 u1_688 (some (fI ((sb2_688 : Nat) : Int))) h_688 g_688_45 g_688_46 m_688_46 g_688_47 m_688_47 g_688_48 m_688_48 g_688_49 m_688_49 g_688_50 m_688_50 k_688 fr_688 (by omega) rfl (by omega)

theorem cs_findPairS {h : List ik_E} {n : Int} {fe : List Int} {bo_ : List Int} {sh : List Int} {wh : List Int} {wo : List Int} (q0 : 1 ≤ n ∧ n ≤ 3) (q1 : ∀ i : Int, (0 : Int) ≤ i → i < (9 : Int) → 0 ≤ fe.getD i.toNat 0 ∧ fe.getD i.toNat 0 ≤ 1000) (nn : Nat) (hnn : nn ≤ 8) : ∀ (k : Nat) (sz : Int) (b1 : List Int) (s1 : List Int) (t1 : List Int) (u1 : List Int) (x4 : Option Value) (x5 : Option Value) (u : List ik_E) (u45 : cE u 45 (.inr (5, [.ref 46, .ref 47, .ref 48, .ref 49, .ref 50]))) (u46 : cE u 46 (.inl (.int, fA fe))) (n46 : fe.length = (9 : Nat)) (u47 : cE u 47 (.inl (.long, fL b1))) (n47 : b1.length = (12 : Nat)) (u48 : cE u 48 (.inl (.long, fL s1))) (n48 : s1.length = (6 : Nat)) (u49 : cE u 49 (.inl (.long, fL t1))) (n49 : t1.length = (2 : Nat)) (u50 : cE u 50 (.inl (.long, fL u1))) (n50 : u1.length = (2 : Nat)) (ul : u.length = (94 : Nat)) (F : hfr [47, 48, 49, 50] h u) (hs : (1 : Int) ≤ sz ∧ sz ≤ n + 1) (w4 : ik_wl 94 x4 = true) (w5 : ik_wl 94 x5 = true) (hk : n + 1 - sz < (k : Int)), ik_G 43 6 [some (.ref 45), some (fI n), some (fI ((nn : Nat) : Int)), some (fI sz), x4, x5] [] u (fun rv h_q => ∃ (bo' : List Int) (sh' : List Int) (wh' : List Int) (wo' : List Int) (b : Int), rv = [fI b] ∧ cE h_q 47 (.inl (.long, fL bo')) ∧ bo'.length = (12 : Nat) ∧ cE h_q 48 (.inl (.long, fL sh')) ∧ sh'.length = (6 : Nat) ∧ cE h_q 49 (.inl (.long, fL wh')) ∧ wh'.length = (2 : Nat) ∧ cE h_q 50 (.inl (.long, fL wo')) ∧ wo'.length = (2 : Nat) ∧ ((0 : Int) ≤ b ∧ b ≤ (1 : Int)) ∧ hfr [47, 48, 49, 50] h h_q) := by
  intro k
  induction k with
  | zero => intro sz b1 s1 t1 u1 x4 x5 u u45 u46 n46 u47 n47 u48 n48 u49 n49 u50 n50 ul F hs w4 w5 hk; omega
  | succ k ih =>
    intro sz b1 s1 t1 u1 x4 x5 u u45 u46 n46 u47 n47 u48 n48 u49 n49 u50 n50 ul F hs w4 w5 hk
    refine ik_Wk 2 (pc_q := 8) (loc_q := [some (.ref 45), some (fI n), some (fI ((nn : Nat) : Int)), some (fI sz), x4, x5]) (st_q := [fI n, fI sz]) (h_q := u) (cl_q := 0) (sl_q := 0) rfl ?_
    refine fw_ic_gt rfl rfl (by omega) (by omega) (by omega) (by omega) (fun hc1 => ?_) (fun hc1 => ?_)
    · refine ik_Wk 1 (pc_q := 81) (loc_q := [some (.ref 45), some (fI n), some (fI ((nn : Nat) : Int)), some (fI sz), x4, x5]) (st_q := [fI 0]) (h_q := u) (cl_q := 0) (sl_q := 0) rfl ?_
      exact ik_Wret rfl rfl ⟨_, _, rfl, rfl, rfl, rfl, ⟨b1, s1, t1, u1, 0, rfl, u47, n47, u48, n48, u49, n49, u50, n50, (by omega), F⟩⟩
    · refine ik_Wk 2 (pc_q := 14) (loc_q := [some (.ref 45), some (fI n), some (fI ((nn : Nat) : Int)), some (fI sz), some (fI 1), x5]) (st_q := []) (h_q := u) (cl_q := 0) (sl_q := 0) rfl ?_
      refine cs_findPairA (n := n) (fe := fe) (bo_ := bo_) (sh := sh) (wh := wh) (wo := wo) q0 q1 nn hnn sz (by omega)  (fun h_689 sa2_689 b1_689 s1_689 t1_689 u1_689 x5_689 g_689_45 g_689_46 m_689_46 g_689_47 m_689_47 g_689_48 m_689_48 g_689_49 m_689_49 g_689_50 m_689_50 k_689 fr_689 w5_689 => ?_) 9 1 b1 s1 t1 u1 x5 u u45 u46 n46 u47 n47 u48 n48 u49 n49 u50 n50 ul F (by omega) w5 (by omega)
      refine fw_inc (a := sz) (loc_q := [some (.ref 45), some (fI n), some (fI ((nn : Nat) : Int)), some (fI (sz + 1)), some (fI ((sa2_689 : Nat) : Int)), x5_689]) rfl rfl (Nat.le_of_ble_eq_true rfl) rfl ?_
      refine ik_Wk 1 (pc_q := 6) (loc_q := [some (.ref 45), some (fI n), some (fI ((nn : Nat) : Int)), some (fI (sz + 1)), some (fI ((sa2_689 : Nat) : Int)), x5_689]) (st_q := []) (h_q := h_689) (cl_q := 0) (sl_q := 0) rfl ?_
      exact ih  (sz + 1) b1_689 s1_689 t1_689 u1_689 (some (fI ((sa2_689 : Nat) : Int))) x5_689 h_689 g_689_45 g_689_46 m_689_46 g_689_47 m_689_47 g_689_48 m_689_48 g_689_49 m_689_49 g_689_50 m_689_50 k_689 fr_689 (by omega) rfl w5_689 (by omega)

theorem cs_findPair {h : List ik_E} {n : Int} {fe : List Int} {bo_ : List Int} {sh : List Int} {wh : List Int} {wo : List Int} (q0 : 1 ≤ n ∧ n ≤ 3) (q1 : ∀ i : Int, (0 : Int) ≤ i → i < (9 : Int) → 0 ≤ fe.getD i.toNat 0 ∧ fe.getD i.toNat 0 ≤ 1000) (h45 : cE h 45 (.inr (5, [.ref 46, .ref 47, .ref 48, .ref 49, .ref 50]))) (h46 : cE h 46 (.inl (.int, fA fe))) (n46 : fe.length = (9 : Nat)) (h47 : cE h 47 (.inl (.long, fL bo_))) (n47 : bo_.length = (12 : Nat)) (h48 : cE h 48 (.inl (.long, fL sh))) (n48 : sh.length = (6 : Nat)) (h49 : cE h 49 (.inl (.long, fL wh))) (n49 : wh.length = (2 : Nat)) (h50 : cE h 50 (.inl (.long, fL wo))) (n50 : wo.length = (2 : Nat)) (hl : h.length = (94 : Nat)) : ik_F 43 [.ref 45, fI n] h (fun rv h_q => ∃ (bo' : List Int) (sh' : List Int) (wh' : List Int) (wo' : List Int) (b : Int), rv = [fI b] ∧ cE h_q 47 (.inl (.long, fL bo')) ∧ bo'.length = (12 : Nat) ∧ cE h_q 48 (.inl (.long, fL sh')) ∧ sh'.length = (6 : Nat) ∧ cE h_q 49 (.inl (.long, fL wh')) ∧ wh'.length = (2 : Nat) ∧ cE h_q 50 (.inl (.long, fL wo')) ∧ wo'.length = (2 : Nat) ∧ ((0 : Int) ≤ b ∧ b ≤ (1 : Int)) ∧ hfr [47, 48, 49, 50] h h_q) := by
  refine ik_Wk 2 (pc_q := 2) (loc_q := [some (.ref 45), some (fI n), none, none, none, none]) (st_q := [fI n, fI 1]) (h_q := h) (cl_q := 0) (sl_q := 0) rfl ?_
  refine fx_shl rfl (by omega) (by omega) ?_
  refine ik_Wk 3 (pc_q := 6) (loc_q := [some (.ref 45), some (fI n), some (fI ((1 <<< n.toNat : Nat) : Int)), some (fI 1), none, none]) (st_q := []) (h_q := h) (cl_q := 0) (sl_q := 0) rfl ?_
  exact cs_findPairS (n := n) (fe := fe) (bo_ := bo_) (sh := sh) (wh := wh) (wo := wo) q0 q1 (1 <<< n.toNat) (mj_nn q0.2) (n.toNat + 1) 1 bo_ sh wh wo none none h h45 h46 n46 h47 n47 h48 n48 h49 n49 h50 n50 hl (hfr_refl [47, 48, 49, 50] h) (by omega) rfl rfl (by omega)

theorem cs_fears1 {h : List ik_E} {pl : Int} {lo : Int} {s : Nat} {ka : Int} {pa : Int} {fa : Int} {kb : Int} {pb : Int} {fb : Int} {bo : Int} {la : Int} {lb : Int} {p : Int} {wg : List Int} {wc : List Int} {we : List Int} {fe : List Int} {W : Int → List (Int × Int)} (q0 : 2 ≤ pl ∧ pl ≤ 12) (q1 : 0 ≤ ka ∧ ka ≤ 2 ∧ 0 ≤ kb ∧ kb ≤ 2) (q2 : 0 ≤ p ∧ p + 1 < pl) (q3 : ∀ x : Int, (0 : Int) ≤ x → x < pl - 1 → mx_wy wg wc we x (W x)) (q4 : ∀ x : Int, (0 : Int) ≤ x → x < pl - 1 → mx_ok pl (W x)) (q5 : ∀ i : Int, (0 : Int) ≤ i → i < (9 : Int) → 0 ≤ fe.getD i.toNat 0 ∧ fe.getD i.toNat 0 ≤ 1000) (h7 : cE h 7 (.inr (0, [fI pl, fI ((s : Nat) : Int), fI lo, .ref 8, .ref 9, .ref 10, .ref 11, .ref 12, .ref 13]))) (h11 : cE h 11 (.inl (.int, fA wg))) (n11 : wg.length = (60 : Nat)) (h12 : cE h 12 (.inl (.int, fA wc))) (n12 : wc.length = (60 : Nat)) (h13 : cE h 13 (.inl (.int, fA we))) (n13 : we.length = (12 : Nat)) (h15 : cE h 15 (.inl (.int, fA [ka, pa, fa, kb, pb, fb]))) (h17 : cE h 17 (.inr (8, [.ref 7, .ref 15, .ref 18, .ref 19, fJ bo, .ref 20]))) (h18 : cE h 18 (.inl (.object "SlowerCork$Course", [.ref 21, .ref 25, .ref 29, .ref 33, .ref 37, .ref 41]))) (h19 : cE h 19 (.inl (.long, fL [la, lb]))) (h21 : mf_cr h 21 ) (h25 : mf_cr h 25 ) (h29 : mf_cr h 29 ) (h33 : mf_cr h 33 ) (h37 : mf_cr h 37 ) (h41 : mf_cr h 41 ) (h46 : cE h 46 (.inl (.int, fA fe))) (n46 : fe.length = (9 : Nat)) (hl : h.length = (94 : Nat)) : ik_F 84 [.ref 17, fI p, fI 1, .ref 46] h (fun rv h_q => ∃ (l0 : Int) (l1 : Int) (l2 : Int) (fe' : List Int), rv = [] ∧ cE h_q 17 (.inr (8, [.ref 7, .ref 15, .ref 18, .ref 19, fJ l2, .ref 20])) ∧ cE h_q 19 (.inl (.long, fL [l0, l1])) ∧ mf_cr h_q 21  ∧ mf_cr h_q 25  ∧ mf_cr h_q 29  ∧ mf_cr h_q 33  ∧ mf_cr h_q 37  ∧ mf_cr h_q 41  ∧ cE h_q 46 (.inl (.int, fA fe')) ∧ fe'.length = (9 : Nat) ∧ (∀ i : Int, (0 : Int) ≤ i → i < (9 : Int) → 0 ≤ fe'.getD i.toNat 0 ∧ fe'.getD i.toNat 0 ≤ 1000) ∧ hfr [17, 19, 46, 21, 22, 23, 24, 25, 26, 27, 28, 29, 30, 31, 32, 33, 34, 35, 36, 37, 38, 39, 40, 41, 42, 43, 44] h h_q) := by
  have qfe0 := q5
  refine ik_Wk 4 (pc_q := 6) (loc_q := [some (.ref 17), some (fI p), some (fI 1), some (.ref 46), some (fI 0), none]) (st_q := [fI 1, fI 0]) (h_q := h) (cl_q := 0) (sl_q := 0) rfl ?_
  refine fw_ic_ge rfl rfl (by decide +kernel) (by decide +kernel) (by decide +kernel) (by decide +kernel) (fun hc1 => absurd hc1 (by decide +kernel)) (fun hc1 => ?_)
  refine ik_Wk 1 (pc_q := 10) (loc_q := [some (.ref 17), some (fI p), some (fI 1), some (.ref 46), some (fI 0), none]) (st_q := [.ref 17]) (h_q := h) (cl_q := 0) (sl_q := 0) rfl ?_
  refine fw_gf rfl rfl h17 rfl ?_
  refine ik_Wk 1 (pc_q := 15) (loc_q := [some (.ref 17), some (fI p), some (fI 1), some (.ref 46), some (fI 0), none]) (st_q := [fI 0, .ref 18]) (h_q := h) (cl_q := 0) (sl_q := 0) rfl ?_
  refine fx_aal (z := 0) rfl h18 (by decide +kernel) (by decide +kernel) rfl ?_
  refine ik_Wk 1 (pc_q := 17) (loc_q := [some (.ref 17), some (fI p), some (fI 1), some (.ref 46), some (fI 0), none]) (st_q := [.ref 17, .ref 21]) (h_q := h) (cl_q := 0) (sl_q := 0) rfl ?_
  refine fw_gf rfl rfl h17 rfl ?_
  refine ik_Wk 1 (pc_q := 21) (loc_q := [some (.ref 17), some (fI p), some (fI 1), some (.ref 46), some (fI 0), none]) (st_q := [fI 0, .ref 15, .ref 21]) (h_q := h) (cl_q := 0) (sl_q := 0) rfl ?_
  refine fw_ial (z := 0) rfl h15 (by decide +kernel) (Nat.le_of_ble_eq_true rfl) (by decide +kernel) ?_
  refine ik_Wk 0 (pc_q := 22) (loc_q := [some (.ref 17), some (fI p), some (fI 1), some (.ref 46), some (fI 0), none]) (st_q := [fI ka, .ref 21]) (h_q := h) (cl_q := 0) (sl_q := 0) rfl ?_
  refine ik_Wk 2 (pc_q := 25) (loc_q := [some (.ref 17), some (fI p), some (fI 1), some (.ref 46), some (fI 0), none]) (st_q := [fI 0, fI p, fI ka, .ref 21]) (h_q := h) (cl_q := 0) (sl_q := 0) rfl ?_
  refine fw_add rfl ?_
  refine fw_call 30 3 0 [.ref 21, fI ka, fI (p + 0)] [] rfl rfl rfl (Nat.le_of_ble_eq_true rfl) rfl rfl (fw_rec hl rfl (mf_cr_o h21).choose_spec rfl (by decide +kernel)) (cs_setIn (C := 21) (pl := pl) (lo := lo) (s := s) (kd := ka) (qp := p + 0) (W := W) (by omega) (by omega) (by omega) h7 h21 hl) ?_
  rintro _ h_690 ⟨rfl, e_690_C, F_690⟩
  have k_690 : cL h_690 := F_690.1.trans hl
  have fr_690 := hfr_cb (hfr_refl [17, 19, 46, 21, 22, 23, 24, 25, 26, 27, 28, 29, 30, 31, 32, 33, 34, 35, 36, 37, 38, 39, 40, 41, 42, 43, 44] h) F_690 rfl
  have g_690_7 := (hfr_g F_690 7 rfl).trans h7
  have g_690_11 := (hfr_g F_690 11 rfl).trans h11
  have g_690_12 := (hfr_g F_690 12 rfl).trans h12
  have g_690_13 := (hfr_g F_690 13 rfl).trans h13
  have g_690_15 := (hfr_g F_690 15 rfl).trans h15
  have g_690_17 := (hfr_g F_690 17 rfl).trans h17
  have g_690_18 := (hfr_g F_690 18 rfl).trans h18
  have g_690_19 := (hfr_g F_690 19 rfl).trans h19
  have g_690_25 := mf_cr_f h25 (hfr_g F_690 25 rfl) (hfr_g F_690 26 rfl) (hfr_g F_690 27 rfl) (hfr_g F_690 28 rfl)
  have g_690_29 := mf_cr_f h29 (hfr_g F_690 29 rfl) (hfr_g F_690 30 rfl) (hfr_g F_690 31 rfl) (hfr_g F_690 32 rfl)
  have g_690_33 := mf_cr_f h33 (hfr_g F_690 33 rfl) (hfr_g F_690 34 rfl) (hfr_g F_690 35 rfl) (hfr_g F_690 36 rfl)
  have g_690_37 := mf_cr_f h37 (hfr_g F_690 37 rfl) (hfr_g F_690 38 rfl) (hfr_g F_690 39 rfl) (hfr_g F_690 40 rfl)
  have g_690_41 := mf_cr_f h41 (hfr_g F_690 41 rfl) (hfr_g F_690 42 rfl) (hfr_g F_690 43 rfl) (hfr_g F_690 44 rfl)
  have g_690_46 := (hfr_g F_690 46 rfl).trans h46
  have g_690_21 : mf_cv h_690 21 W pl ka (p + 0) 0 := e_690_C
  refine ik_Wk 0 (pc_q := 29) (loc_q := [some (.ref 17), some (fI p), some (fI 1), some (.ref 46), some (fI 0), none]) (st_q := [.ref 21]) (h_q := h_690) (cl_q := 0) (sl_q := 0) rfl ?_
  refine ik_Wk 2 (pc_q := 31) (loc_q := [some (.ref 17), some (fI p), some (fI 1), some (.ref 46), some (fI 0), none]) (st_q := [.ref 17]) (h_q := h_690) (cl_q := 0) (sl_q := 0) rfl ?_
  refine fw_gf rfl rfl g_690_17 rfl ?_
  refine ik_Wk 2 (pc_q := 37) (loc_q := [some (.ref 17), some (fI p), some (fI 1), some (.ref 46), some (fI 0), none]) (st_q := [fI 0, fI 3, .ref 18]) (h_q := h_690) (cl_q := 0) (sl_q := 0) rfl ?_
  refine fw_add rfl ?_
  refine fx_aal (z := 3) rfl g_690_18 (by decide +kernel) (by decide +kernel) rfl ?_
  refine ik_Wk 1 (pc_q := 40) (loc_q := [some (.ref 17), some (fI p), some (fI 1), some (.ref 46), some (fI 0), none]) (st_q := [.ref 17, .ref 33]) (h_q := h_690) (cl_q := 0) (sl_q := 0) rfl ?_
  refine fw_gf rfl rfl g_690_17 rfl ?_
  refine ik_Wk 1 (pc_q := 44) (loc_q := [some (.ref 17), some (fI p), some (fI 1), some (.ref 46), some (fI 0), none]) (st_q := [fI 3, .ref 15, .ref 33]) (h_q := h_690) (cl_q := 0) (sl_q := 0) rfl ?_
  refine fw_ial (z := 3) rfl g_690_15 (by decide +kernel) (Nat.le_of_ble_eq_true rfl) (by decide +kernel) ?_
  refine ik_Wk 0 (pc_q := 45) (loc_q := [some (.ref 17), some (fI p), some (fI 1), some (.ref 46), some (fI 0), none]) (st_q := [fI kb, .ref 33]) (h_q := h_690) (cl_q := 0) (sl_q := 0) rfl ?_
  refine ik_Wk 2 (pc_q := 48) (loc_q := [some (.ref 17), some (fI p), some (fI 1), some (.ref 46), some (fI 0), none]) (st_q := [fI 0, fI p, fI kb, .ref 33]) (h_q := h_690) (cl_q := 0) (sl_q := 0) rfl ?_
  refine fw_add rfl ?_
  refine fw_call 30 3 0 [.ref 33, fI kb, fI (p + 0)] [] rfl rfl rfl (Nat.le_of_ble_eq_true rfl) rfl rfl (fw_rec k_690 rfl (mf_cr_o g_690_33).choose_spec rfl (by decide +kernel)) (cs_setIn (C := 33) (pl := pl) (lo := lo) (s := s) (kd := kb) (qp := p + 0) (W := W) (by omega) (by omega) (by omega) g_690_7 g_690_33 k_690) ?_
  rintro _ h_691 ⟨rfl, e_691_C, F_691⟩
  have k_691 : cL h_691 := F_691.1.trans k_690
  have fr_691 := hfr_cb fr_690 F_691 rfl
  have g_691_7 := (hfr_g F_691 7 rfl).trans g_690_7
  have g_691_11 := (hfr_g F_691 11 rfl).trans g_690_11
  have g_691_12 := (hfr_g F_691 12 rfl).trans g_690_12
  have g_691_13 := (hfr_g F_691 13 rfl).trans g_690_13
  have g_691_15 := (hfr_g F_691 15 rfl).trans g_690_15
  have g_691_17 := (hfr_g F_691 17 rfl).trans g_690_17
  have g_691_18 := (hfr_g F_691 18 rfl).trans g_690_18
  have g_691_19 := (hfr_g F_691 19 rfl).trans g_690_19
  have g_691_21 := mf_cv_f g_690_21 (hfr_g F_691 21 rfl) (hfr_g F_691 22 rfl) (hfr_g F_691 23 rfl) (hfr_g F_691 24 rfl)
  have g_691_25 := mf_cr_f g_690_25 (hfr_g F_691 25 rfl) (hfr_g F_691 26 rfl) (hfr_g F_691 27 rfl) (hfr_g F_691 28 rfl)
  have g_691_29 := mf_cr_f g_690_29 (hfr_g F_691 29 rfl) (hfr_g F_691 30 rfl) (hfr_g F_691 31 rfl) (hfr_g F_691 32 rfl)
  have g_691_37 := mf_cr_f g_690_37 (hfr_g F_691 37 rfl) (hfr_g F_691 38 rfl) (hfr_g F_691 39 rfl) (hfr_g F_691 40 rfl)
  have g_691_41 := mf_cr_f g_690_41 (hfr_g F_691 41 rfl) (hfr_g F_691 42 rfl) (hfr_g F_691 43 rfl) (hfr_g F_691 44 rfl)
  have g_691_46 := (hfr_g F_691 46 rfl).trans g_690_46
  have g_691_33 : mf_cv h_691 33 W pl kb (p + 0) 0 := e_691_C
  refine ik_Wk 0 (pc_q := 52) (loc_q := [some (.ref 17), some (fI p), some (fI 1), some (.ref 46), some (fI 0), none]) (st_q := [.ref 33]) (h_q := h_691) (cl_q := 0) (sl_q := 0) rfl ?_
  refine ik_Wk 1 (pc_q := 53) (loc_q := [some (.ref 17), some (fI p), some (fI 1), some (.ref 46), some (fI 0), none]) (st_q := []) (h_q := h_691) (cl_q := 0) (sl_q := 0) rfl ?_
  refine fw_inc (a := 0) (loc_q := [some (.ref 17), some (fI p), some (fI 1), some (.ref 46), some (fI 1), none]) rfl rfl (Nat.le_of_ble_eq_true rfl) rfl ?_
  refine ik_Wk 3 (pc_q := 6) (loc_q := [some (.ref 17), some (fI p), some (fI 1), some (.ref 46), some (fI 1), none]) (st_q := [fI 1, fI 1]) (h_q := h_691) (cl_q := 0) (sl_q := 0) rfl ?_
  refine fw_ic_ge rfl rfl (by decide +kernel) (by decide +kernel) (by decide +kernel) (by decide +kernel) (fun hc2 => ?_) (fun hc2 => absurd hc2 (by decide +kernel))
  refine ik_Wk 4 (pc_q := 65) (loc_q := [some (.ref 17), some (fI p), some (fI 1), some (.ref 46), some (fI 0), none]) (st_q := [fI 1, fI 0]) (h_q := h_691) (cl_q := 0) (sl_q := 0) rfl ?_
  refine fw_ic_ge rfl rfl (by decide +kernel) (by decide +kernel) (by decide +kernel) (by decide +kernel) (fun hc3 => absurd hc3 (by decide +kernel)) (fun hc3 => ?_)
  refine ik_Wk 4 (pc_q := 74) (loc_q := [some (.ref 17), some (fI p), some (fI 1), some (.ref 46), some (fI 0), some (fI 0)]) (st_q := [fI 1, fI 0]) (h_q := h_691) (cl_q := 0) (sl_q := 0) rfl ?_
  refine fw_ic_ge rfl rfl (by decide +kernel) (by decide +kernel) (by decide +kernel) (by decide +kernel) (fun hc4 => absurd hc4 (by decide +kernel)) (fun hc4 => ?_)
  refine ik_Wk 2 (pc_q := 79) (loc_q := [some (.ref 17), some (fI p), some (fI 1), some (.ref 46), some (fI 0), some (fI 0)]) (st_q := [.ref 17, .ref 17]) (h_q := h_691) (cl_q := 0) (sl_q := 0) rfl ?_
  refine fw_gf rfl rfl g_691_17 rfl ?_
  refine ik_Wk 1 (pc_q := 84) (loc_q := [some (.ref 17), some (fI p), some (fI 1), some (.ref 46), some (fI 0), some (fI 0)]) (st_q := [fI 0, .ref 18, .ref 17]) (h_q := h_691) (cl_q := 0) (sl_q := 0) rfl ?_
  refine fx_aal (z := 0) rfl g_691_18 (by decide +kernel) (by decide +kernel) rfl ?_
  refine ik_Wk 2 (pc_q := 87) (loc_q := [some (.ref 17), some (fI p), some (fI 1), some (.ref 46), some (fI 0), some (fI 0)]) (st_q := [.ref 17, fI 0, .ref 21, .ref 17]) (h_q := h_691) (cl_q := 0) (sl_q := 0) rfl ?_
  refine fw_gf rfl rfl g_691_17 rfl ?_
  refine ik_Wk 2 (pc_q := 93) (loc_q := [some (.ref 17), some (fI p), some (fI 1), some (.ref 46), some (fI 0), some (fI 0)]) (st_q := [fI 0, fI 3, .ref 18, fI 0, .ref 21, .ref 17]) (h_q := h_691) (cl_q := 0) (sl_q := 0) rfl ?_
  refine fw_add rfl ?_
  refine fx_aal (z := 3) rfl g_691_18 (by decide +kernel) (by decide +kernel) rfl ?_
  refine ik_Wk 1 (pc_q := 96) (loc_q := [some (.ref 17), some (fI p), some (fI 1), some (.ref 46), some (fI 0), some (fI 0)]) (st_q := [fI 0, .ref 33, fI 0, .ref 21, .ref 17]) (h_q := h_691) (cl_q := 0) (sl_q := 0) rfl ?_
  refine fw_ld 1000000 rfl rfl (by decide +kernel) ?_
  refine fw_call 80 6 0 [.ref 17, .ref 21, fI 0, .ref 33, fI 0, fI 1000000] [] rfl rfl rfl (Nat.le_of_ble_eq_true rfl) rfl rfl (fw_rec k_691 rfl g_691_17 rfl (Nat.le_of_ble_eq_true rfl)) (cs_race (C := 21) (E := 33) (pl := pl) (lo := lo) (s := s) (ka := ka) (pa := (p + 0)) (ma := 0) (kb := kb) (pb := (p + 0)) (mb := 0) (ua := 0) (ub := 0) (lim := 1000000) (bo := bo) (la := la) (lb := lb) (wg := wg) (wc := wc) (we := we) (W := W) (by omega) (by omega) (by omega) (by omega) (by omega) (by omega) (by omega) q3 q4 g_691_7 g_691_11 n11 g_691_12 n12 g_691_13 n13 g_691_17 g_691_19 g_691_21 g_691_33 k_691) ?_
  rintro _ h_692 ⟨l0_692, l1_692, l2_692, ua'_692, ub'_692, rfl, e_692_17, e_692_19, e_692_C, e_692_E, p_692_0, p_692_1, F_692⟩
  have k_692 : cL h_692 := F_692.1.trans k_691
  have fr_692 := hfr_cb fr_691 F_692 rfl
  have g_692_7 := (hfr_g F_692 7 rfl).trans g_691_7
  have g_692_11 := (hfr_g F_692 11 rfl).trans g_691_11
  have g_692_12 := (hfr_g F_692 12 rfl).trans g_691_12
  have g_692_13 := (hfr_g F_692 13 rfl).trans g_691_13
  have g_692_15 := (hfr_g F_692 15 rfl).trans g_691_15
  have g_692_18 := (hfr_g F_692 18 rfl).trans g_691_18
  have g_692_25 := mf_cr_f g_691_25 (hfr_g F_692 25 rfl) (hfr_g F_692 26 rfl) (hfr_g F_692 27 rfl) (hfr_g F_692 28 rfl)
  have g_692_29 := mf_cr_f g_691_29 (hfr_g F_692 29 rfl) (hfr_g F_692 30 rfl) (hfr_g F_692 31 rfl) (hfr_g F_692 32 rfl)
  have g_692_37 := mf_cr_f g_691_37 (hfr_g F_692 37 rfl) (hfr_g F_692 38 rfl) (hfr_g F_692 39 rfl) (hfr_g F_692 40 rfl)
  have g_692_41 := mf_cr_f g_691_41 (hfr_g F_692 41 rfl) (hfr_g F_692 42 rfl) (hfr_g F_692 43 rfl) (hfr_g F_692 44 rfl)
  have g_692_46 := (hfr_g F_692 46 rfl).trans g_691_46
  have g_692_17 : cE h_692 17 (.inr (8, [.ref 7, .ref 15, .ref 18, .ref 19, fJ l2_692, .ref 20])) := e_692_17
  have g_692_19 : cE h_692 19 (.inl (.long, fL [l0_692, l1_692])) := e_692_19
  have g_692_21 : mf_cv h_692 21 W pl ka (p + 0) ua'_692 := e_692_C
  have g_692_33 : mf_cv h_692 33 W pl kb (p + 0) ub'_692 := e_692_E
  refine ik_Wk 0 (pc_q := 101) (loc_q := [some (.ref 17), some (fI p), some (fI 1), some (.ref 46), some (fI 0), some (fI 0)]) (st_q := []) (h_q := h_692) (cl_q := 0) (sl_q := 0) rfl ?_
  refine ik_Wk 3 (pc_q := 105) (loc_q := [some (.ref 17), some (fI p), some (fI 1), some (.ref 46), some (fI 0), some (fI 0)]) (st_q := [fI 3, fI 0, .ref 46]) (h_q := h_692) (cl_q := 0) (sl_q := 0) rfl ?_
  refine fw_mul rfl ?_
  refine ik_Wk 1 (pc_q := 108) (loc_q := [some (.ref 17), some (fI p), some (fI 1), some (.ref 46), some (fI 0), some (fI 0)]) (st_q := [fI 0, fI 0, .ref 46]) (h_q := h_692) (cl_q := 0) (sl_q := 0) rfl ?_
  refine fw_add rfl ?_
  refine ik_Wk 2 (pc_q := 111) (loc_q := [some (.ref 17), some (fI p), some (fI 1), some (.ref 46), some (fI 0), some (fI 0)]) (st_q := [fI 0, .ref 17, fI 0, .ref 46]) (h_q := h_692) (cl_q := 0) (sl_q := 0) rfl ?_
  refine ik_Wc 74 2 0 [.ref 17, fI 0] [fI 0, .ref 46] rfl rfl rfl (by decide +kernel) rfl rfl (fw_rec k_692 rfl g_692_17 rfl (Nat.le_of_ble_eq_true rfl)) ?_
  refine ik_Wk 0 (pc_q := 0) (loc_q := [some (.ref 17), some (fI 0)]) (st_q := []) (h_q := h_692) (cl_q := 0) (sl_q := 0) rfl ?_
  refine ik_Wk 1 (pc_q := 1) (loc_q := [some (.ref 17), some (fI 0)]) (st_q := [.ref 17]) (h_q := h_692) (cl_q := 0) (sl_q := 0) rfl ?_
  refine fw_gf rfl rfl g_692_17 rfl ?_
  refine ik_Wk 1 (pc_q := 5) (loc_q := [some (.ref 17), some (fI 0)]) (st_q := [fI 0, .ref 19]) (h_q := h_692) (cl_q := 0) (sl_q := 0) rfl ?_
  refine fx_lal (z := 0) rfl g_692_19 (by decide +kernel) (Nat.le_of_ble_eq_true rfl) (by decide +kernel) ?_
  refine ik_Wk 0 (pc_q := 6) (loc_q := [some (.ref 17), some (fI 0)]) (st_q := [fJ l0_692]) (h_q := h_692) (cl_q := 0) (sl_q := 0) rfl ?_
  refine fw_l2 1000 rfl rfl (by decide +kernel) ?_
  refine fx_ldiv rfl (by omega) (by omega) (by omega) (by omega) ?_
  refine fx_l2i rfl ?_
  refine ik_Wret rfl rfl ⟨_, _, rfl, rfl, ?_⟩
  refine ik_Wk 0 (pc_q := 114) (loc_q := [some (.ref 17), some (fI p), some (fI 1), some (.ref 46), some (fI 0), some (fI 0)]) (st_q := [fI (l0_692 / 1000), fI 0, .ref 46]) (h_q := h_692) (cl_q := 0) (sl_q := 0) rfl ?_
  refine fw_si rfl (by decide +kernel) ?_
  refine fx_idiv rfl (by omega) (by omega) (by omega) (by omega) ?_
  have hl5 : (fe.set (0 : Int).toNat ((l0_692 / 1000) / 1000)).length = 9 := (List.length_set ..).trans n46
  refine fx_ias rfl g_692_46 (by omega) (by omega) (by omega) ?_
  intro h_693 e_693 f_693 l_693
  have k_693 : cL h_693 := l_693.trans k_692
  have fr_693 := hfr_wb fr_692 f_693 l_693 rfl
  clear l_693
  have g_693_7 := (f_693 7 (Nat.ne_of_beq_eq_false rfl)).trans g_692_7
  have g_693_11 := (f_693 11 (Nat.ne_of_beq_eq_false rfl)).trans g_692_11
  have g_693_12 := (f_693 12 (Nat.ne_of_beq_eq_false rfl)).trans g_692_12
  have g_693_13 := (f_693 13 (Nat.ne_of_beq_eq_false rfl)).trans g_692_13
  have g_693_15 := (f_693 15 (Nat.ne_of_beq_eq_false rfl)).trans g_692_15
  have g_693_17 := (f_693 17 (Nat.ne_of_beq_eq_false rfl)).trans g_692_17
  have g_693_18 := (f_693 18 (Nat.ne_of_beq_eq_false rfl)).trans g_692_18
  have g_693_19 := (f_693 19 (Nat.ne_of_beq_eq_false rfl)).trans g_692_19
  have g_693_21 := mf_cv_f g_692_21 (f_693 21 (Nat.ne_of_beq_eq_false rfl)) (f_693 22 (Nat.ne_of_beq_eq_false rfl)) (f_693 23 (Nat.ne_of_beq_eq_false rfl)) (f_693 24 (Nat.ne_of_beq_eq_false rfl))
  have g_693_25 := mf_cr_f g_692_25 (f_693 25 (Nat.ne_of_beq_eq_false rfl)) (f_693 26 (Nat.ne_of_beq_eq_false rfl)) (f_693 27 (Nat.ne_of_beq_eq_false rfl)) (f_693 28 (Nat.ne_of_beq_eq_false rfl))
  have g_693_29 := mf_cr_f g_692_29 (f_693 29 (Nat.ne_of_beq_eq_false rfl)) (f_693 30 (Nat.ne_of_beq_eq_false rfl)) (f_693 31 (Nat.ne_of_beq_eq_false rfl)) (f_693 32 (Nat.ne_of_beq_eq_false rfl))
  have g_693_33 := mf_cv_f g_692_33 (f_693 33 (Nat.ne_of_beq_eq_false rfl)) (f_693 34 (Nat.ne_of_beq_eq_false rfl)) (f_693 35 (Nat.ne_of_beq_eq_false rfl)) (f_693 36 (Nat.ne_of_beq_eq_false rfl))
  have g_693_37 := mf_cr_f g_692_37 (f_693 37 (Nat.ne_of_beq_eq_false rfl)) (f_693 38 (Nat.ne_of_beq_eq_false rfl)) (f_693 39 (Nat.ne_of_beq_eq_false rfl)) (f_693 40 (Nat.ne_of_beq_eq_false rfl))
  have g_693_41 := mf_cr_f g_692_41 (f_693 41 (Nat.ne_of_beq_eq_false rfl)) (f_693 42 (Nat.ne_of_beq_eq_false rfl)) (f_693 43 (Nat.ne_of_beq_eq_false rfl)) (f_693 44 (Nat.ne_of_beq_eq_false rfl))
  have g_693_46 : cE h_693 46 (.inl (.int, fA (fe.set (0 : Int).toNat ((l0_692 / 1000) / 1000)))) := e_693
  have qfe1 : ∀ i : Int, 0 ≤ i → i < 9 → 0 ≤ (fe.set (0 : Int).toNat ((l0_692 / 1000) / 1000)).getD i.toNat 0 ∧ (fe.set (0 : Int).toNat ((l0_692 / 1000) / 1000)).getD i.toNat 0 ≤ 1000 := by
    intro i i0 i1
    rw [fz_getD_set]
    split
    · omega
    · exact qfe0 i i0 i1
  refine fw_inc (a := 0) (loc_q := [some (.ref 17), some (fI p), some (fI 1), some (.ref 46), some (fI 0), some (fI 1)]) rfl rfl (Nat.le_of_ble_eq_true rfl) rfl ?_
  refine ik_Wk 3 (pc_q := 74) (loc_q := [some (.ref 17), some (fI p), some (fI 1), some (.ref 46), some (fI 0), some (fI 1)]) (st_q := [fI 1, fI 1]) (h_q := h_693) (cl_q := 0) (sl_q := 0) rfl ?_
  refine fw_ic_ge rfl rfl (by decide +kernel) (by decide +kernel) (by decide +kernel) (by decide +kernel) (fun hc6 => ?_) (fun hc6 => absurd hc6 (by decide +kernel))
  refine fw_inc (a := 0) (loc_q := [some (.ref 17), some (fI p), some (fI 1), some (.ref 46), some (fI 1), some (fI 1)]) rfl rfl (Nat.le_of_ble_eq_true rfl) rfl ?_
  refine ik_Wk 3 (pc_q := 65) (loc_q := [some (.ref 17), some (fI p), some (fI 1), some (.ref 46), some (fI 1), some (fI 1)]) (st_q := [fI 1, fI 1]) (h_q := h_693) (cl_q := 0) (sl_q := 0) rfl ?_
  refine fw_ic_ge rfl rfl (by decide +kernel) (by decide +kernel) (by decide +kernel) (by decide +kernel) (fun hc7 => ?_) (fun hc7 => absurd hc7 (by decide +kernel))
  exact ik_Wret rfl rfl ⟨_, _, rfl, rfl, rfl, rfl, ⟨l0_692, l1_692, l2_692, (fe.set (0 : Int).toNat ((l0_692 / 1000) / 1000)), rfl, g_693_17, g_693_19, (mf_cv_r g_693_21), g_693_25, g_693_29, (mf_cv_r g_693_33), g_693_37, g_693_41, g_693_46, hl5, qfe1, fr_693⟩⟩

theorem cs_fears2 {h : List ik_E} {pl : Int} {lo : Int} {s : Nat} {ka : Int} {pa : Int} {fa : Int} {kb : Int} {pb : Int} {fb : Int} {bo : Int} {la : Int} {lb : Int} {p : Int} {wg : List Int} {wc : List Int} {we : List Int} {fe : List Int} {W : Int → List (Int × Int)} (q0 : 2 ≤ pl ∧ pl ≤ 12) (q1 : 0 ≤ ka ∧ ka ≤ 2 ∧ 0 ≤ kb ∧ kb ≤ 2) (q2 : 0 ≤ p ∧ p + 2 < pl) (q3 : ∀ x : Int, (0 : Int) ≤ x → x < pl - 1 → mx_wy wg wc we x (W x)) (q4 : ∀ x : Int, (0 : Int) ≤ x → x < pl - 1 → mx_ok pl (W x)) (q5 : ∀ i : Int, (0 : Int) ≤ i → i < (9 : Int) → 0 ≤ fe.getD i.toNat 0 ∧ fe.getD i.toNat 0 ≤ 1000) (h7 : cE h 7 (.inr (0, [fI pl, fI ((s : Nat) : Int), fI lo, .ref 8, .ref 9, .ref 10, .ref 11, .ref 12, .ref 13]))) (h11 : cE h 11 (.inl (.int, fA wg))) (n11 : wg.length = (60 : Nat)) (h12 : cE h 12 (.inl (.int, fA wc))) (n12 : wc.length = (60 : Nat)) (h13 : cE h 13 (.inl (.int, fA we))) (n13 : we.length = (12 : Nat)) (h15 : cE h 15 (.inl (.int, fA [ka, pa, fa, kb, pb, fb]))) (h17 : cE h 17 (.inr (8, [.ref 7, .ref 15, .ref 18, .ref 19, fJ bo, .ref 20]))) (h18 : cE h 18 (.inl (.object "SlowerCork$Course", [.ref 21, .ref 25, .ref 29, .ref 33, .ref 37, .ref 41]))) (h19 : cE h 19 (.inl (.long, fL [la, lb]))) (h21 : mf_cr h 21 ) (h25 : mf_cr h 25 ) (h29 : mf_cr h 29 ) (h33 : mf_cr h 33 ) (h37 : mf_cr h 37 ) (h41 : mf_cr h 41 ) (h46 : cE h 46 (.inl (.int, fA fe))) (n46 : fe.length = (9 : Nat)) (hl : h.length = (94 : Nat)) : ik_F 84 [.ref 17, fI p, fI 2, .ref 46] h (fun rv h_q => ∃ (l0 : Int) (l1 : Int) (l2 : Int) (fe' : List Int), rv = [] ∧ cE h_q 17 (.inr (8, [.ref 7, .ref 15, .ref 18, .ref 19, fJ l2, .ref 20])) ∧ cE h_q 19 (.inl (.long, fL [l0, l1])) ∧ mf_cr h_q 21  ∧ mf_cr h_q 25  ∧ mf_cr h_q 29  ∧ mf_cr h_q 33  ∧ mf_cr h_q 37  ∧ mf_cr h_q 41  ∧ cE h_q 46 (.inl (.int, fA fe')) ∧ fe'.length = (9 : Nat) ∧ (∀ i : Int, (0 : Int) ≤ i → i < (9 : Int) → 0 ≤ fe'.getD i.toNat 0 ∧ fe'.getD i.toNat 0 ≤ 1000) ∧ hfr [17, 19, 46, 21, 22, 23, 24, 25, 26, 27, 28, 29, 30, 31, 32, 33, 34, 35, 36, 37, 38, 39, 40, 41, 42, 43, 44] h h_q) := by
  have qfe0 := q5
  refine ik_Wk 4 (pc_q := 6) (loc_q := [some (.ref 17), some (fI p), some (fI 2), some (.ref 46), some (fI 0), none]) (st_q := [fI 2, fI 0]) (h_q := h) (cl_q := 0) (sl_q := 0) rfl ?_
  refine fw_ic_ge rfl rfl (by decide +kernel) (by decide +kernel) (by decide +kernel) (by decide +kernel) (fun hc1 => absurd hc1 (by decide +kernel)) (fun hc1 => ?_)
  refine ik_Wk 1 (pc_q := 10) (loc_q := [some (.ref 17), some (fI p), some (fI 2), some (.ref 46), some (fI 0), none]) (st_q := [.ref 17]) (h_q := h) (cl_q := 0) (sl_q := 0) rfl ?_
  refine fw_gf rfl rfl h17 rfl ?_
  refine ik_Wk 1 (pc_q := 15) (loc_q := [some (.ref 17), some (fI p), some (fI 2), some (.ref 46), some (fI 0), none]) (st_q := [fI 0, .ref 18]) (h_q := h) (cl_q := 0) (sl_q := 0) rfl ?_
  refine fx_aal (z := 0) rfl h18 (by decide +kernel) (by decide +kernel) rfl ?_
  refine ik_Wk 1 (pc_q := 17) (loc_q := [some (.ref 17), some (fI p), some (fI 2), some (.ref 46), some (fI 0), none]) (st_q := [.ref 17, .ref 21]) (h_q := h) (cl_q := 0) (sl_q := 0) rfl ?_
  refine fw_gf rfl rfl h17 rfl ?_
  refine ik_Wk 1 (pc_q := 21) (loc_q := [some (.ref 17), some (fI p), some (fI 2), some (.ref 46), some (fI 0), none]) (st_q := [fI 0, .ref 15, .ref 21]) (h_q := h) (cl_q := 0) (sl_q := 0) rfl ?_
  refine fw_ial (z := 0) rfl h15 (by decide +kernel) (Nat.le_of_ble_eq_true rfl) (by decide +kernel) ?_
  refine ik_Wk 0 (pc_q := 22) (loc_q := [some (.ref 17), some (fI p), some (fI 2), some (.ref 46), some (fI 0), none]) (st_q := [fI ka, .ref 21]) (h_q := h) (cl_q := 0) (sl_q := 0) rfl ?_
  refine ik_Wk 2 (pc_q := 25) (loc_q := [some (.ref 17), some (fI p), some (fI 2), some (.ref 46), some (fI 0), none]) (st_q := [fI 0, fI p, fI ka, .ref 21]) (h_q := h) (cl_q := 0) (sl_q := 0) rfl ?_
  refine fw_add rfl ?_
  refine fw_call 30 3 0 [.ref 21, fI ka, fI (p + 0)] [] rfl rfl rfl (Nat.le_of_ble_eq_true rfl) rfl rfl (fw_rec hl rfl (mf_cr_o h21).choose_spec rfl (by decide +kernel)) (cs_setIn (C := 21) (pl := pl) (lo := lo) (s := s) (kd := ka) (qp := p + 0) (W := W) (by omega) (by omega) (by omega) h7 h21 hl) ?_
  rintro _ h_694 ⟨rfl, e_694_C, F_694⟩
  have k_694 : cL h_694 := F_694.1.trans hl
  have fr_694 := hfr_cb (hfr_refl [17, 19, 46, 21, 22, 23, 24, 25, 26, 27, 28, 29, 30, 31, 32, 33, 34, 35, 36, 37, 38, 39, 40, 41, 42, 43, 44] h) F_694 rfl
  have g_694_7 := (hfr_g F_694 7 rfl).trans h7
  have g_694_11 := (hfr_g F_694 11 rfl).trans h11
  have g_694_12 := (hfr_g F_694 12 rfl).trans h12
  have g_694_13 := (hfr_g F_694 13 rfl).trans h13
  have g_694_15 := (hfr_g F_694 15 rfl).trans h15
  have g_694_17 := (hfr_g F_694 17 rfl).trans h17
  have g_694_18 := (hfr_g F_694 18 rfl).trans h18
  have g_694_19 := (hfr_g F_694 19 rfl).trans h19
  have g_694_25 := mf_cr_f h25 (hfr_g F_694 25 rfl) (hfr_g F_694 26 rfl) (hfr_g F_694 27 rfl) (hfr_g F_694 28 rfl)
  have g_694_29 := mf_cr_f h29 (hfr_g F_694 29 rfl) (hfr_g F_694 30 rfl) (hfr_g F_694 31 rfl) (hfr_g F_694 32 rfl)
  have g_694_33 := mf_cr_f h33 (hfr_g F_694 33 rfl) (hfr_g F_694 34 rfl) (hfr_g F_694 35 rfl) (hfr_g F_694 36 rfl)
  have g_694_37 := mf_cr_f h37 (hfr_g F_694 37 rfl) (hfr_g F_694 38 rfl) (hfr_g F_694 39 rfl) (hfr_g F_694 40 rfl)
  have g_694_41 := mf_cr_f h41 (hfr_g F_694 41 rfl) (hfr_g F_694 42 rfl) (hfr_g F_694 43 rfl) (hfr_g F_694 44 rfl)
  have g_694_46 := (hfr_g F_694 46 rfl).trans h46
  have g_694_21 : mf_cv h_694 21 W pl ka (p + 0) 0 := e_694_C
  refine ik_Wk 0 (pc_q := 29) (loc_q := [some (.ref 17), some (fI p), some (fI 2), some (.ref 46), some (fI 0), none]) (st_q := [.ref 21]) (h_q := h_694) (cl_q := 0) (sl_q := 0) rfl ?_
  refine ik_Wk 2 (pc_q := 31) (loc_q := [some (.ref 17), some (fI p), some (fI 2), some (.ref 46), some (fI 0), none]) (st_q := [.ref 17]) (h_q := h_694) (cl_q := 0) (sl_q := 0) rfl ?_
  refine fw_gf rfl rfl g_694_17 rfl ?_
  refine ik_Wk 2 (pc_q := 37) (loc_q := [some (.ref 17), some (fI p), some (fI 2), some (.ref 46), some (fI 0), none]) (st_q := [fI 0, fI 3, .ref 18]) (h_q := h_694) (cl_q := 0) (sl_q := 0) rfl ?_
  refine fw_add rfl ?_
  refine fx_aal (z := 3) rfl g_694_18 (by decide +kernel) (by decide +kernel) rfl ?_
  refine ik_Wk 1 (pc_q := 40) (loc_q := [some (.ref 17), some (fI p), some (fI 2), some (.ref 46), some (fI 0), none]) (st_q := [.ref 17, .ref 33]) (h_q := h_694) (cl_q := 0) (sl_q := 0) rfl ?_
  refine fw_gf rfl rfl g_694_17 rfl ?_
  refine ik_Wk 1 (pc_q := 44) (loc_q := [some (.ref 17), some (fI p), some (fI 2), some (.ref 46), some (fI 0), none]) (st_q := [fI 3, .ref 15, .ref 33]) (h_q := h_694) (cl_q := 0) (sl_q := 0) rfl ?_
  refine fw_ial (z := 3) rfl g_694_15 (by decide +kernel) (Nat.le_of_ble_eq_true rfl) (by decide +kernel) ?_
  refine ik_Wk 0 (pc_q := 45) (loc_q := [some (.ref 17), some (fI p), some (fI 2), some (.ref 46), some (fI 0), none]) (st_q := [fI kb, .ref 33]) (h_q := h_694) (cl_q := 0) (sl_q := 0) rfl ?_
  refine ik_Wk 2 (pc_q := 48) (loc_q := [some (.ref 17), some (fI p), some (fI 2), some (.ref 46), some (fI 0), none]) (st_q := [fI 0, fI p, fI kb, .ref 33]) (h_q := h_694) (cl_q := 0) (sl_q := 0) rfl ?_
  refine fw_add rfl ?_
  refine fw_call 30 3 0 [.ref 33, fI kb, fI (p + 0)] [] rfl rfl rfl (Nat.le_of_ble_eq_true rfl) rfl rfl (fw_rec k_694 rfl (mf_cr_o g_694_33).choose_spec rfl (by decide +kernel)) (cs_setIn (C := 33) (pl := pl) (lo := lo) (s := s) (kd := kb) (qp := p + 0) (W := W) (by omega) (by omega) (by omega) g_694_7 g_694_33 k_694) ?_
  rintro _ h_695 ⟨rfl, e_695_C, F_695⟩
  have k_695 : cL h_695 := F_695.1.trans k_694
  have fr_695 := hfr_cb fr_694 F_695 rfl
  have g_695_7 := (hfr_g F_695 7 rfl).trans g_694_7
  have g_695_11 := (hfr_g F_695 11 rfl).trans g_694_11
  have g_695_12 := (hfr_g F_695 12 rfl).trans g_694_12
  have g_695_13 := (hfr_g F_695 13 rfl).trans g_694_13
  have g_695_15 := (hfr_g F_695 15 rfl).trans g_694_15
  have g_695_17 := (hfr_g F_695 17 rfl).trans g_694_17
  have g_695_18 := (hfr_g F_695 18 rfl).trans g_694_18
  have g_695_19 := (hfr_g F_695 19 rfl).trans g_694_19
  have g_695_21 := mf_cv_f g_694_21 (hfr_g F_695 21 rfl) (hfr_g F_695 22 rfl) (hfr_g F_695 23 rfl) (hfr_g F_695 24 rfl)
  have g_695_25 := mf_cr_f g_694_25 (hfr_g F_695 25 rfl) (hfr_g F_695 26 rfl) (hfr_g F_695 27 rfl) (hfr_g F_695 28 rfl)
  have g_695_29 := mf_cr_f g_694_29 (hfr_g F_695 29 rfl) (hfr_g F_695 30 rfl) (hfr_g F_695 31 rfl) (hfr_g F_695 32 rfl)
  have g_695_37 := mf_cr_f g_694_37 (hfr_g F_695 37 rfl) (hfr_g F_695 38 rfl) (hfr_g F_695 39 rfl) (hfr_g F_695 40 rfl)
  have g_695_41 := mf_cr_f g_694_41 (hfr_g F_695 41 rfl) (hfr_g F_695 42 rfl) (hfr_g F_695 43 rfl) (hfr_g F_695 44 rfl)
  have g_695_46 := (hfr_g F_695 46 rfl).trans g_694_46
  have g_695_33 : mf_cv h_695 33 W pl kb (p + 0) 0 := e_695_C
  refine ik_Wk 0 (pc_q := 52) (loc_q := [some (.ref 17), some (fI p), some (fI 2), some (.ref 46), some (fI 0), none]) (st_q := [.ref 33]) (h_q := h_695) (cl_q := 0) (sl_q := 0) rfl ?_
  refine ik_Wk 1 (pc_q := 53) (loc_q := [some (.ref 17), some (fI p), some (fI 2), some (.ref 46), some (fI 0), none]) (st_q := []) (h_q := h_695) (cl_q := 0) (sl_q := 0) rfl ?_
  refine fw_inc (a := 0) (loc_q := [some (.ref 17), some (fI p), some (fI 2), some (.ref 46), some (fI 1), none]) rfl rfl (Nat.le_of_ble_eq_true rfl) rfl ?_
  refine ik_Wk 3 (pc_q := 6) (loc_q := [some (.ref 17), some (fI p), some (fI 2), some (.ref 46), some (fI 1), none]) (st_q := [fI 2, fI 1]) (h_q := h_695) (cl_q := 0) (sl_q := 0) rfl ?_
  refine fw_ic_ge rfl rfl (by decide +kernel) (by decide +kernel) (by decide +kernel) (by decide +kernel) (fun hc2 => absurd hc2 (by decide +kernel)) (fun hc2 => ?_)
  refine ik_Wk 1 (pc_q := 10) (loc_q := [some (.ref 17), some (fI p), some (fI 2), some (.ref 46), some (fI 1), none]) (st_q := [.ref 17]) (h_q := h_695) (cl_q := 0) (sl_q := 0) rfl ?_
  refine fw_gf rfl rfl g_695_17 rfl ?_
  refine ik_Wk 1 (pc_q := 15) (loc_q := [some (.ref 17), some (fI p), some (fI 2), some (.ref 46), some (fI 1), none]) (st_q := [fI 1, .ref 18]) (h_q := h_695) (cl_q := 0) (sl_q := 0) rfl ?_
  refine fx_aal (z := 1) rfl g_695_18 (by decide +kernel) (by decide +kernel) rfl ?_
  refine ik_Wk 1 (pc_q := 17) (loc_q := [some (.ref 17), some (fI p), some (fI 2), some (.ref 46), some (fI 1), none]) (st_q := [.ref 17, .ref 25]) (h_q := h_695) (cl_q := 0) (sl_q := 0) rfl ?_
  refine fw_gf rfl rfl g_695_17 rfl ?_
  refine ik_Wk 1 (pc_q := 21) (loc_q := [some (.ref 17), some (fI p), some (fI 2), some (.ref 46), some (fI 1), none]) (st_q := [fI 0, .ref 15, .ref 25]) (h_q := h_695) (cl_q := 0) (sl_q := 0) rfl ?_
  refine fw_ial (z := 0) rfl g_695_15 (by decide +kernel) (Nat.le_of_ble_eq_true rfl) (by decide +kernel) ?_
  refine ik_Wk 0 (pc_q := 22) (loc_q := [some (.ref 17), some (fI p), some (fI 2), some (.ref 46), some (fI 1), none]) (st_q := [fI ka, .ref 25]) (h_q := h_695) (cl_q := 0) (sl_q := 0) rfl ?_
  refine ik_Wk 2 (pc_q := 25) (loc_q := [some (.ref 17), some (fI p), some (fI 2), some (.ref 46), some (fI 1), none]) (st_q := [fI 1, fI p, fI ka, .ref 25]) (h_q := h_695) (cl_q := 0) (sl_q := 0) rfl ?_
  refine fw_add rfl ?_
  refine fw_call 30 3 0 [.ref 25, fI ka, fI (p + 1)] [] rfl rfl rfl (Nat.le_of_ble_eq_true rfl) rfl rfl (fw_rec k_695 rfl (mf_cr_o g_695_25).choose_spec rfl (by decide +kernel)) (cs_setIn (C := 25) (pl := pl) (lo := lo) (s := s) (kd := ka) (qp := p + 1) (W := W) (by omega) (by omega) (by omega) g_695_7 g_695_25 k_695) ?_
  rintro _ h_696 ⟨rfl, e_696_C, F_696⟩
  have k_696 : cL h_696 := F_696.1.trans k_695
  have fr_696 := hfr_cb fr_695 F_696 rfl
  have g_696_7 := (hfr_g F_696 7 rfl).trans g_695_7
  have g_696_11 := (hfr_g F_696 11 rfl).trans g_695_11
  have g_696_12 := (hfr_g F_696 12 rfl).trans g_695_12
  have g_696_13 := (hfr_g F_696 13 rfl).trans g_695_13
  have g_696_15 := (hfr_g F_696 15 rfl).trans g_695_15
  have g_696_17 := (hfr_g F_696 17 rfl).trans g_695_17
  have g_696_18 := (hfr_g F_696 18 rfl).trans g_695_18
  have g_696_19 := (hfr_g F_696 19 rfl).trans g_695_19
  have g_696_21 := mf_cv_f g_695_21 (hfr_g F_696 21 rfl) (hfr_g F_696 22 rfl) (hfr_g F_696 23 rfl) (hfr_g F_696 24 rfl)
  have g_696_29 := mf_cr_f g_695_29 (hfr_g F_696 29 rfl) (hfr_g F_696 30 rfl) (hfr_g F_696 31 rfl) (hfr_g F_696 32 rfl)
  have g_696_33 := mf_cv_f g_695_33 (hfr_g F_696 33 rfl) (hfr_g F_696 34 rfl) (hfr_g F_696 35 rfl) (hfr_g F_696 36 rfl)
  have g_696_37 := mf_cr_f g_695_37 (hfr_g F_696 37 rfl) (hfr_g F_696 38 rfl) (hfr_g F_696 39 rfl) (hfr_g F_696 40 rfl)
  have g_696_41 := mf_cr_f g_695_41 (hfr_g F_696 41 rfl) (hfr_g F_696 42 rfl) (hfr_g F_696 43 rfl) (hfr_g F_696 44 rfl)
  have g_696_46 := (hfr_g F_696 46 rfl).trans g_695_46
  have g_696_25 : mf_cv h_696 25 W pl ka (p + 1) 0 := e_696_C
  refine ik_Wk 0 (pc_q := 29) (loc_q := [some (.ref 17), some (fI p), some (fI 2), some (.ref 46), some (fI 1), none]) (st_q := [.ref 25]) (h_q := h_696) (cl_q := 0) (sl_q := 0) rfl ?_
  refine ik_Wk 2 (pc_q := 31) (loc_q := [some (.ref 17), some (fI p), some (fI 2), some (.ref 46), some (fI 1), none]) (st_q := [.ref 17]) (h_q := h_696) (cl_q := 0) (sl_q := 0) rfl ?_
  refine fw_gf rfl rfl g_696_17 rfl ?_
  refine ik_Wk 2 (pc_q := 37) (loc_q := [some (.ref 17), some (fI p), some (fI 2), some (.ref 46), some (fI 1), none]) (st_q := [fI 1, fI 3, .ref 18]) (h_q := h_696) (cl_q := 0) (sl_q := 0) rfl ?_
  refine fw_add rfl ?_
  refine fx_aal (z := 4) rfl g_696_18 (by decide +kernel) (by decide +kernel) rfl ?_
  refine ik_Wk 1 (pc_q := 40) (loc_q := [some (.ref 17), some (fI p), some (fI 2), some (.ref 46), some (fI 1), none]) (st_q := [.ref 17, .ref 37]) (h_q := h_696) (cl_q := 0) (sl_q := 0) rfl ?_
  refine fw_gf rfl rfl g_696_17 rfl ?_
  refine ik_Wk 1 (pc_q := 44) (loc_q := [some (.ref 17), some (fI p), some (fI 2), some (.ref 46), some (fI 1), none]) (st_q := [fI 3, .ref 15, .ref 37]) (h_q := h_696) (cl_q := 0) (sl_q := 0) rfl ?_
  refine fw_ial (z := 3) rfl g_696_15 (by decide +kernel) (Nat.le_of_ble_eq_true rfl) (by decide +kernel) ?_
  refine ik_Wk 0 (pc_q := 45) (loc_q := [some (.ref 17), some (fI p), some (fI 2), some (.ref 46), some (fI 1), none]) (st_q := [fI kb, .ref 37]) (h_q := h_696) (cl_q := 0) (sl_q := 0) rfl ?_
  refine ik_Wk 2 (pc_q := 48) (loc_q := [some (.ref 17), some (fI p), some (fI 2), some (.ref 46), some (fI 1), none]) (st_q := [fI 1, fI p, fI kb, .ref 37]) (h_q := h_696) (cl_q := 0) (sl_q := 0) rfl ?_
  refine fw_add rfl ?_
  refine fw_call 30 3 0 [.ref 37, fI kb, fI (p + 1)] [] rfl rfl rfl (Nat.le_of_ble_eq_true rfl) rfl rfl (fw_rec k_696 rfl (mf_cr_o g_696_37).choose_spec rfl (by decide +kernel)) (cs_setIn (C := 37) (pl := pl) (lo := lo) (s := s) (kd := kb) (qp := p + 1) (W := W) (by omega) (by omega) (by omega) g_696_7 g_696_37 k_696) ?_
  rintro _ h_697 ⟨rfl, e_697_C, F_697⟩
  have k_697 : cL h_697 := F_697.1.trans k_696
  have fr_697 := hfr_cb fr_696 F_697 rfl
  have g_697_7 := (hfr_g F_697 7 rfl).trans g_696_7
  have g_697_11 := (hfr_g F_697 11 rfl).trans g_696_11
  have g_697_12 := (hfr_g F_697 12 rfl).trans g_696_12
  have g_697_13 := (hfr_g F_697 13 rfl).trans g_696_13
  have g_697_15 := (hfr_g F_697 15 rfl).trans g_696_15
  have g_697_17 := (hfr_g F_697 17 rfl).trans g_696_17
  have g_697_18 := (hfr_g F_697 18 rfl).trans g_696_18
  have g_697_19 := (hfr_g F_697 19 rfl).trans g_696_19
  have g_697_21 := mf_cv_f g_696_21 (hfr_g F_697 21 rfl) (hfr_g F_697 22 rfl) (hfr_g F_697 23 rfl) (hfr_g F_697 24 rfl)
  have g_697_25 := mf_cv_f g_696_25 (hfr_g F_697 25 rfl) (hfr_g F_697 26 rfl) (hfr_g F_697 27 rfl) (hfr_g F_697 28 rfl)
  have g_697_29 := mf_cr_f g_696_29 (hfr_g F_697 29 rfl) (hfr_g F_697 30 rfl) (hfr_g F_697 31 rfl) (hfr_g F_697 32 rfl)
  have g_697_33 := mf_cv_f g_696_33 (hfr_g F_697 33 rfl) (hfr_g F_697 34 rfl) (hfr_g F_697 35 rfl) (hfr_g F_697 36 rfl)
  have g_697_41 := mf_cr_f g_696_41 (hfr_g F_697 41 rfl) (hfr_g F_697 42 rfl) (hfr_g F_697 43 rfl) (hfr_g F_697 44 rfl)
  have g_697_46 := (hfr_g F_697 46 rfl).trans g_696_46
  have g_697_37 : mf_cv h_697 37 W pl kb (p + 1) 0 := e_697_C
  refine ik_Wk 0 (pc_q := 52) (loc_q := [some (.ref 17), some (fI p), some (fI 2), some (.ref 46), some (fI 1), none]) (st_q := [.ref 37]) (h_q := h_697) (cl_q := 0) (sl_q := 0) rfl ?_
  refine ik_Wk 1 (pc_q := 53) (loc_q := [some (.ref 17), some (fI p), some (fI 2), some (.ref 46), some (fI 1), none]) (st_q := []) (h_q := h_697) (cl_q := 0) (sl_q := 0) rfl ?_
  refine fw_inc (a := 1) (loc_q := [some (.ref 17), some (fI p), some (fI 2), some (.ref 46), some (fI 2), none]) rfl rfl (Nat.le_of_ble_eq_true rfl) rfl ?_
  refine ik_Wk 3 (pc_q := 6) (loc_q := [some (.ref 17), some (fI p), some (fI 2), some (.ref 46), some (fI 2), none]) (st_q := [fI 2, fI 2]) (h_q := h_697) (cl_q := 0) (sl_q := 0) rfl ?_
  refine fw_ic_ge rfl rfl (by decide +kernel) (by decide +kernel) (by decide +kernel) (by decide +kernel) (fun hc3 => ?_) (fun hc3 => absurd hc3 (by decide +kernel))
  refine ik_Wk 4 (pc_q := 65) (loc_q := [some (.ref 17), some (fI p), some (fI 2), some (.ref 46), some (fI 0), none]) (st_q := [fI 2, fI 0]) (h_q := h_697) (cl_q := 0) (sl_q := 0) rfl ?_
  refine fw_ic_ge rfl rfl (by decide +kernel) (by decide +kernel) (by decide +kernel) (by decide +kernel) (fun hc4 => absurd hc4 (by decide +kernel)) (fun hc4 => ?_)
  refine ik_Wk 4 (pc_q := 74) (loc_q := [some (.ref 17), some (fI p), some (fI 2), some (.ref 46), some (fI 0), some (fI 0)]) (st_q := [fI 2, fI 0]) (h_q := h_697) (cl_q := 0) (sl_q := 0) rfl ?_
  refine fw_ic_ge rfl rfl (by decide +kernel) (by decide +kernel) (by decide +kernel) (by decide +kernel) (fun hc5 => absurd hc5 (by decide +kernel)) (fun hc5 => ?_)
  refine ik_Wk 2 (pc_q := 79) (loc_q := [some (.ref 17), some (fI p), some (fI 2), some (.ref 46), some (fI 0), some (fI 0)]) (st_q := [.ref 17, .ref 17]) (h_q := h_697) (cl_q := 0) (sl_q := 0) rfl ?_
  refine fw_gf rfl rfl g_697_17 rfl ?_
  refine ik_Wk 1 (pc_q := 84) (loc_q := [some (.ref 17), some (fI p), some (fI 2), some (.ref 46), some (fI 0), some (fI 0)]) (st_q := [fI 0, .ref 18, .ref 17]) (h_q := h_697) (cl_q := 0) (sl_q := 0) rfl ?_
  refine fx_aal (z := 0) rfl g_697_18 (by decide +kernel) (by decide +kernel) rfl ?_
  refine ik_Wk 2 (pc_q := 87) (loc_q := [some (.ref 17), some (fI p), some (fI 2), some (.ref 46), some (fI 0), some (fI 0)]) (st_q := [.ref 17, fI 0, .ref 21, .ref 17]) (h_q := h_697) (cl_q := 0) (sl_q := 0) rfl ?_
  refine fw_gf rfl rfl g_697_17 rfl ?_
  refine ik_Wk 2 (pc_q := 93) (loc_q := [some (.ref 17), some (fI p), some (fI 2), some (.ref 46), some (fI 0), some (fI 0)]) (st_q := [fI 0, fI 3, .ref 18, fI 0, .ref 21, .ref 17]) (h_q := h_697) (cl_q := 0) (sl_q := 0) rfl ?_
  refine fw_add rfl ?_
  refine fx_aal (z := 3) rfl g_697_18 (by decide +kernel) (by decide +kernel) rfl ?_
  refine ik_Wk 1 (pc_q := 96) (loc_q := [some (.ref 17), some (fI p), some (fI 2), some (.ref 46), some (fI 0), some (fI 0)]) (st_q := [fI 0, .ref 33, fI 0, .ref 21, .ref 17]) (h_q := h_697) (cl_q := 0) (sl_q := 0) rfl ?_
  refine fw_ld 1000000 rfl rfl (by decide +kernel) ?_
  refine fw_call 80 6 0 [.ref 17, .ref 21, fI 0, .ref 33, fI 0, fI 1000000] [] rfl rfl rfl (Nat.le_of_ble_eq_true rfl) rfl rfl (fw_rec k_697 rfl g_697_17 rfl (Nat.le_of_ble_eq_true rfl)) (cs_race (C := 21) (E := 33) (pl := pl) (lo := lo) (s := s) (ka := ka) (pa := (p + 0)) (ma := 0) (kb := kb) (pb := (p + 0)) (mb := 0) (ua := 0) (ub := 0) (lim := 1000000) (bo := bo) (la := la) (lb := lb) (wg := wg) (wc := wc) (we := we) (W := W) (by omega) (by omega) (by omega) (by omega) (by omega) (by omega) (by omega) q3 q4 g_697_7 g_697_11 n11 g_697_12 n12 g_697_13 n13 g_697_17 g_697_19 g_697_21 g_697_33 k_697) ?_
  rintro _ h_698 ⟨l0_698, l1_698, l2_698, ua'_698, ub'_698, rfl, e_698_17, e_698_19, e_698_C, e_698_E, p_698_0, p_698_1, F_698⟩
  have k_698 : cL h_698 := F_698.1.trans k_697
  have fr_698 := hfr_cb fr_697 F_698 rfl
  have g_698_7 := (hfr_g F_698 7 rfl).trans g_697_7
  have g_698_11 := (hfr_g F_698 11 rfl).trans g_697_11
  have g_698_12 := (hfr_g F_698 12 rfl).trans g_697_12
  have g_698_13 := (hfr_g F_698 13 rfl).trans g_697_13
  have g_698_15 := (hfr_g F_698 15 rfl).trans g_697_15
  have g_698_18 := (hfr_g F_698 18 rfl).trans g_697_18
  have g_698_25 := mf_cv_f g_697_25 (hfr_g F_698 25 rfl) (hfr_g F_698 26 rfl) (hfr_g F_698 27 rfl) (hfr_g F_698 28 rfl)
  have g_698_29 := mf_cr_f g_697_29 (hfr_g F_698 29 rfl) (hfr_g F_698 30 rfl) (hfr_g F_698 31 rfl) (hfr_g F_698 32 rfl)
  have g_698_37 := mf_cv_f g_697_37 (hfr_g F_698 37 rfl) (hfr_g F_698 38 rfl) (hfr_g F_698 39 rfl) (hfr_g F_698 40 rfl)
  have g_698_41 := mf_cr_f g_697_41 (hfr_g F_698 41 rfl) (hfr_g F_698 42 rfl) (hfr_g F_698 43 rfl) (hfr_g F_698 44 rfl)
  have g_698_46 := (hfr_g F_698 46 rfl).trans g_697_46
  have g_698_17 : cE h_698 17 (.inr (8, [.ref 7, .ref 15, .ref 18, .ref 19, fJ l2_698, .ref 20])) := e_698_17
  have g_698_19 : cE h_698 19 (.inl (.long, fL [l0_698, l1_698])) := e_698_19
  have g_698_21 : mf_cv h_698 21 W pl ka (p + 0) ua'_698 := e_698_C
  have g_698_33 : mf_cv h_698 33 W pl kb (p + 0) ub'_698 := e_698_E
  refine ik_Wk 0 (pc_q := 101) (loc_q := [some (.ref 17), some (fI p), some (fI 2), some (.ref 46), some (fI 0), some (fI 0)]) (st_q := []) (h_q := h_698) (cl_q := 0) (sl_q := 0) rfl ?_
  refine ik_Wk 3 (pc_q := 105) (loc_q := [some (.ref 17), some (fI p), some (fI 2), some (.ref 46), some (fI 0), some (fI 0)]) (st_q := [fI 3, fI 0, .ref 46]) (h_q := h_698) (cl_q := 0) (sl_q := 0) rfl ?_
  refine fw_mul rfl ?_
  refine ik_Wk 1 (pc_q := 108) (loc_q := [some (.ref 17), some (fI p), some (fI 2), some (.ref 46), some (fI 0), some (fI 0)]) (st_q := [fI 0, fI 0, .ref 46]) (h_q := h_698) (cl_q := 0) (sl_q := 0) rfl ?_
  refine fw_add rfl ?_
  refine ik_Wk 2 (pc_q := 111) (loc_q := [some (.ref 17), some (fI p), some (fI 2), some (.ref 46), some (fI 0), some (fI 0)]) (st_q := [fI 0, .ref 17, fI 0, .ref 46]) (h_q := h_698) (cl_q := 0) (sl_q := 0) rfl ?_
  refine ik_Wc 74 2 0 [.ref 17, fI 0] [fI 0, .ref 46] rfl rfl rfl (by decide +kernel) rfl rfl (fw_rec k_698 rfl g_698_17 rfl (Nat.le_of_ble_eq_true rfl)) ?_
  refine ik_Wk 0 (pc_q := 0) (loc_q := [some (.ref 17), some (fI 0)]) (st_q := []) (h_q := h_698) (cl_q := 0) (sl_q := 0) rfl ?_
  refine ik_Wk 1 (pc_q := 1) (loc_q := [some (.ref 17), some (fI 0)]) (st_q := [.ref 17]) (h_q := h_698) (cl_q := 0) (sl_q := 0) rfl ?_
  refine fw_gf rfl rfl g_698_17 rfl ?_
  refine ik_Wk 1 (pc_q := 5) (loc_q := [some (.ref 17), some (fI 0)]) (st_q := [fI 0, .ref 19]) (h_q := h_698) (cl_q := 0) (sl_q := 0) rfl ?_
  refine fx_lal (z := 0) rfl g_698_19 (by decide +kernel) (Nat.le_of_ble_eq_true rfl) (by decide +kernel) ?_
  refine ik_Wk 0 (pc_q := 6) (loc_q := [some (.ref 17), some (fI 0)]) (st_q := [fJ l0_698]) (h_q := h_698) (cl_q := 0) (sl_q := 0) rfl ?_
  refine fw_l2 1000 rfl rfl (by decide +kernel) ?_
  refine fx_ldiv rfl (by omega) (by omega) (by omega) (by omega) ?_
  refine fx_l2i rfl ?_
  refine ik_Wret rfl rfl ⟨_, _, rfl, rfl, ?_⟩
  refine ik_Wk 0 (pc_q := 114) (loc_q := [some (.ref 17), some (fI p), some (fI 2), some (.ref 46), some (fI 0), some (fI 0)]) (st_q := [fI (l0_698 / 1000), fI 0, .ref 46]) (h_q := h_698) (cl_q := 0) (sl_q := 0) rfl ?_
  refine fw_si rfl (by decide +kernel) ?_
  refine fx_idiv rfl (by omega) (by omega) (by omega) (by omega) ?_
  have hl6 : (fe.set (0 : Int).toNat ((l0_698 / 1000) / 1000)).length = 9 := (List.length_set ..).trans n46
  refine fx_ias rfl g_698_46 (by omega) (by omega) (by omega) ?_
  intro h_699 e_699 f_699 l_699
  have k_699 : cL h_699 := l_699.trans k_698
  have fr_699 := hfr_wb fr_698 f_699 l_699 rfl
  clear l_699
  have g_699_7 := (f_699 7 (Nat.ne_of_beq_eq_false rfl)).trans g_698_7
  have g_699_11 := (f_699 11 (Nat.ne_of_beq_eq_false rfl)).trans g_698_11
  have g_699_12 := (f_699 12 (Nat.ne_of_beq_eq_false rfl)).trans g_698_12
  have g_699_13 := (f_699 13 (Nat.ne_of_beq_eq_false rfl)).trans g_698_13
  have g_699_15 := (f_699 15 (Nat.ne_of_beq_eq_false rfl)).trans g_698_15
  have g_699_17 := (f_699 17 (Nat.ne_of_beq_eq_false rfl)).trans g_698_17
  have g_699_18 := (f_699 18 (Nat.ne_of_beq_eq_false rfl)).trans g_698_18
  have g_699_19 := (f_699 19 (Nat.ne_of_beq_eq_false rfl)).trans g_698_19
  have g_699_21 := mf_cv_f g_698_21 (f_699 21 (Nat.ne_of_beq_eq_false rfl)) (f_699 22 (Nat.ne_of_beq_eq_false rfl)) (f_699 23 (Nat.ne_of_beq_eq_false rfl)) (f_699 24 (Nat.ne_of_beq_eq_false rfl))
  have g_699_25 := mf_cv_f g_698_25 (f_699 25 (Nat.ne_of_beq_eq_false rfl)) (f_699 26 (Nat.ne_of_beq_eq_false rfl)) (f_699 27 (Nat.ne_of_beq_eq_false rfl)) (f_699 28 (Nat.ne_of_beq_eq_false rfl))
  have g_699_29 := mf_cr_f g_698_29 (f_699 29 (Nat.ne_of_beq_eq_false rfl)) (f_699 30 (Nat.ne_of_beq_eq_false rfl)) (f_699 31 (Nat.ne_of_beq_eq_false rfl)) (f_699 32 (Nat.ne_of_beq_eq_false rfl))
  have g_699_33 := mf_cv_f g_698_33 (f_699 33 (Nat.ne_of_beq_eq_false rfl)) (f_699 34 (Nat.ne_of_beq_eq_false rfl)) (f_699 35 (Nat.ne_of_beq_eq_false rfl)) (f_699 36 (Nat.ne_of_beq_eq_false rfl))
  have g_699_37 := mf_cv_f g_698_37 (f_699 37 (Nat.ne_of_beq_eq_false rfl)) (f_699 38 (Nat.ne_of_beq_eq_false rfl)) (f_699 39 (Nat.ne_of_beq_eq_false rfl)) (f_699 40 (Nat.ne_of_beq_eq_false rfl))
  have g_699_41 := mf_cr_f g_698_41 (f_699 41 (Nat.ne_of_beq_eq_false rfl)) (f_699 42 (Nat.ne_of_beq_eq_false rfl)) (f_699 43 (Nat.ne_of_beq_eq_false rfl)) (f_699 44 (Nat.ne_of_beq_eq_false rfl))
  have g_699_46 : cE h_699 46 (.inl (.int, fA (fe.set (0 : Int).toNat ((l0_698 / 1000) / 1000)))) := e_699
  have qfe1 : ∀ i : Int, 0 ≤ i → i < 9 → 0 ≤ (fe.set (0 : Int).toNat ((l0_698 / 1000) / 1000)).getD i.toNat 0 ∧ (fe.set (0 : Int).toNat ((l0_698 / 1000) / 1000)).getD i.toNat 0 ≤ 1000 := by
    intro i i0 i1
    rw [fz_getD_set]
    split
    · omega
    · exact qfe0 i i0 i1
  refine fw_inc (a := 0) (loc_q := [some (.ref 17), some (fI p), some (fI 2), some (.ref 46), some (fI 0), some (fI 1)]) rfl rfl (Nat.le_of_ble_eq_true rfl) rfl ?_
  refine ik_Wk 3 (pc_q := 74) (loc_q := [some (.ref 17), some (fI p), some (fI 2), some (.ref 46), some (fI 0), some (fI 1)]) (st_q := [fI 2, fI 1]) (h_q := h_699) (cl_q := 0) (sl_q := 0) rfl ?_
  refine fw_ic_ge rfl rfl (by decide +kernel) (by decide +kernel) (by decide +kernel) (by decide +kernel) (fun hc7 => absurd hc7 (by decide +kernel)) (fun hc7 => ?_)
  refine ik_Wk 2 (pc_q := 79) (loc_q := [some (.ref 17), some (fI p), some (fI 2), some (.ref 46), some (fI 0), some (fI 1)]) (st_q := [.ref 17, .ref 17]) (h_q := h_699) (cl_q := 0) (sl_q := 0) rfl ?_
  refine fw_gf rfl rfl g_699_17 rfl ?_
  refine ik_Wk 1 (pc_q := 84) (loc_q := [some (.ref 17), some (fI p), some (fI 2), some (.ref 46), some (fI 0), some (fI 1)]) (st_q := [fI 0, .ref 18, .ref 17]) (h_q := h_699) (cl_q := 0) (sl_q := 0) rfl ?_
  refine fx_aal (z := 0) rfl g_699_18 (by decide +kernel) (by decide +kernel) rfl ?_
  refine ik_Wk 2 (pc_q := 87) (loc_q := [some (.ref 17), some (fI p), some (fI 2), some (.ref 46), some (fI 0), some (fI 1)]) (st_q := [.ref 17, fI 0, .ref 21, .ref 17]) (h_q := h_699) (cl_q := 0) (sl_q := 0) rfl ?_
  refine fw_gf rfl rfl g_699_17 rfl ?_
  refine ik_Wk 2 (pc_q := 93) (loc_q := [some (.ref 17), some (fI p), some (fI 2), some (.ref 46), some (fI 0), some (fI 1)]) (st_q := [fI 1, fI 3, .ref 18, fI 0, .ref 21, .ref 17]) (h_q := h_699) (cl_q := 0) (sl_q := 0) rfl ?_
  refine fw_add rfl ?_
  refine fx_aal (z := 4) rfl g_699_18 (by decide +kernel) (by decide +kernel) rfl ?_
  refine ik_Wk 1 (pc_q := 96) (loc_q := [some (.ref 17), some (fI p), some (fI 2), some (.ref 46), some (fI 0), some (fI 1)]) (st_q := [fI 0, .ref 37, fI 0, .ref 21, .ref 17]) (h_q := h_699) (cl_q := 0) (sl_q := 0) rfl ?_
  refine fw_ld 1000000 rfl rfl (by decide +kernel) ?_
  refine fw_call 80 6 0 [.ref 17, .ref 21, fI 0, .ref 37, fI 0, fI 1000000] [] rfl rfl rfl (Nat.le_of_ble_eq_true rfl) rfl rfl (fw_rec k_699 rfl g_699_17 rfl (Nat.le_of_ble_eq_true rfl)) (cs_race (C := 21) (E := 37) (pl := pl) (lo := lo) (s := s) (ka := ka) (pa := (p + 0)) (ma := 0) (kb := kb) (pb := (p + 1)) (mb := 0) (ua := ua'_698) (ub := 0) (lim := 1000000) (bo := l2_698) (la := l0_698) (lb := l1_698) (wg := wg) (wc := wc) (we := we) (W := W) (by omega) (by omega) (by omega) (by omega) (by omega) (by omega) (by omega) q3 q4 g_699_7 g_699_11 n11 g_699_12 n12 g_699_13 n13 g_699_17 g_699_19 g_699_21 g_699_37 k_699) ?_
  rintro _ h_700 ⟨l0_700, l1_700, l2_700, ua'_700, ub'_700, rfl, e_700_17, e_700_19, e_700_C, e_700_E, p_700_0, p_700_1, F_700⟩
  have k_700 : cL h_700 := F_700.1.trans k_699
  have fr_700 := hfr_cb fr_699 F_700 rfl
  have g_700_7 := (hfr_g F_700 7 rfl).trans g_699_7
  have g_700_11 := (hfr_g F_700 11 rfl).trans g_699_11
  have g_700_12 := (hfr_g F_700 12 rfl).trans g_699_12
  have g_700_13 := (hfr_g F_700 13 rfl).trans g_699_13
  have g_700_15 := (hfr_g F_700 15 rfl).trans g_699_15
  have g_700_18 := (hfr_g F_700 18 rfl).trans g_699_18
  have g_700_25 := mf_cv_f g_699_25 (hfr_g F_700 25 rfl) (hfr_g F_700 26 rfl) (hfr_g F_700 27 rfl) (hfr_g F_700 28 rfl)
  have g_700_29 := mf_cr_f g_699_29 (hfr_g F_700 29 rfl) (hfr_g F_700 30 rfl) (hfr_g F_700 31 rfl) (hfr_g F_700 32 rfl)
  have g_700_33 := mf_cv_f g_699_33 (hfr_g F_700 33 rfl) (hfr_g F_700 34 rfl) (hfr_g F_700 35 rfl) (hfr_g F_700 36 rfl)
  have g_700_41 := mf_cr_f g_699_41 (hfr_g F_700 41 rfl) (hfr_g F_700 42 rfl) (hfr_g F_700 43 rfl) (hfr_g F_700 44 rfl)
  have g_700_46 := (hfr_g F_700 46 rfl).trans g_699_46
  have g_700_17 : cE h_700 17 (.inr (8, [.ref 7, .ref 15, .ref 18, .ref 19, fJ l2_700, .ref 20])) := e_700_17
  have g_700_19 : cE h_700 19 (.inl (.long, fL [l0_700, l1_700])) := e_700_19
  have g_700_21 : mf_cv h_700 21 W pl ka (p + 0) ua'_700 := e_700_C
  have g_700_37 : mf_cv h_700 37 W pl kb (p + 1) ub'_700 := e_700_E
  refine ik_Wk 0 (pc_q := 101) (loc_q := [some (.ref 17), some (fI p), some (fI 2), some (.ref 46), some (fI 0), some (fI 1)]) (st_q := []) (h_q := h_700) (cl_q := 0) (sl_q := 0) rfl ?_
  refine ik_Wk 3 (pc_q := 105) (loc_q := [some (.ref 17), some (fI p), some (fI 2), some (.ref 46), some (fI 0), some (fI 1)]) (st_q := [fI 3, fI 0, .ref 46]) (h_q := h_700) (cl_q := 0) (sl_q := 0) rfl ?_
  refine fw_mul rfl ?_
  refine ik_Wk 1 (pc_q := 108) (loc_q := [some (.ref 17), some (fI p), some (fI 2), some (.ref 46), some (fI 0), some (fI 1)]) (st_q := [fI 1, fI 0, .ref 46]) (h_q := h_700) (cl_q := 0) (sl_q := 0) rfl ?_
  refine fw_add rfl ?_
  refine ik_Wk 2 (pc_q := 111) (loc_q := [some (.ref 17), some (fI p), some (fI 2), some (.ref 46), some (fI 0), some (fI 1)]) (st_q := [fI 0, .ref 17, fI 1, .ref 46]) (h_q := h_700) (cl_q := 0) (sl_q := 0) rfl ?_
  refine ik_Wc 74 2 0 [.ref 17, fI 0] [fI 1, .ref 46] rfl rfl rfl (by decide +kernel) rfl rfl (fw_rec k_700 rfl g_700_17 rfl (Nat.le_of_ble_eq_true rfl)) ?_
  refine ik_Wk 0 (pc_q := 0) (loc_q := [some (.ref 17), some (fI 0)]) (st_q := []) (h_q := h_700) (cl_q := 0) (sl_q := 0) rfl ?_
  refine ik_Wk 1 (pc_q := 1) (loc_q := [some (.ref 17), some (fI 0)]) (st_q := [.ref 17]) (h_q := h_700) (cl_q := 0) (sl_q := 0) rfl ?_
  refine fw_gf rfl rfl g_700_17 rfl ?_
  refine ik_Wk 1 (pc_q := 5) (loc_q := [some (.ref 17), some (fI 0)]) (st_q := [fI 0, .ref 19]) (h_q := h_700) (cl_q := 0) (sl_q := 0) rfl ?_
  refine fx_lal (z := 0) rfl g_700_19 (by decide +kernel) (Nat.le_of_ble_eq_true rfl) (by decide +kernel) ?_
  refine ik_Wk 0 (pc_q := 6) (loc_q := [some (.ref 17), some (fI 0)]) (st_q := [fJ l0_700]) (h_q := h_700) (cl_q := 0) (sl_q := 0) rfl ?_
  refine fw_l2 1000 rfl rfl (by decide +kernel) ?_
  refine fx_ldiv rfl (by omega) (by omega) (by omega) (by omega) ?_
  refine fx_l2i rfl ?_
  refine ik_Wret rfl rfl ⟨_, _, rfl, rfl, ?_⟩
  refine ik_Wk 0 (pc_q := 114) (loc_q := [some (.ref 17), some (fI p), some (fI 2), some (.ref 46), some (fI 0), some (fI 1)]) (st_q := [fI (l0_700 / 1000), fI 1, .ref 46]) (h_q := h_700) (cl_q := 0) (sl_q := 0) rfl ?_
  refine fw_si rfl (by decide +kernel) ?_
  refine fx_idiv rfl (by omega) (by omega) (by omega) (by omega) ?_
  have hl8 : ((fe.set (0 : Int).toNat ((l0_698 / 1000) / 1000)).set (1 : Int).toNat ((l0_700 / 1000) / 1000)).length = 9 := (List.length_set ..).trans hl6
  refine fx_ias rfl g_700_46 (by omega) (by omega) (by omega) ?_
  intro h_701 e_701 f_701 l_701
  have k_701 : cL h_701 := l_701.trans k_700
  have fr_701 := hfr_wb fr_700 f_701 l_701 rfl
  clear l_701
  have g_701_7 := (f_701 7 (Nat.ne_of_beq_eq_false rfl)).trans g_700_7
  have g_701_11 := (f_701 11 (Nat.ne_of_beq_eq_false rfl)).trans g_700_11
  have g_701_12 := (f_701 12 (Nat.ne_of_beq_eq_false rfl)).trans g_700_12
  have g_701_13 := (f_701 13 (Nat.ne_of_beq_eq_false rfl)).trans g_700_13
  have g_701_15 := (f_701 15 (Nat.ne_of_beq_eq_false rfl)).trans g_700_15
  have g_701_17 := (f_701 17 (Nat.ne_of_beq_eq_false rfl)).trans g_700_17
  have g_701_18 := (f_701 18 (Nat.ne_of_beq_eq_false rfl)).trans g_700_18
  have g_701_19 := (f_701 19 (Nat.ne_of_beq_eq_false rfl)).trans g_700_19
  have g_701_21 := mf_cv_f g_700_21 (f_701 21 (Nat.ne_of_beq_eq_false rfl)) (f_701 22 (Nat.ne_of_beq_eq_false rfl)) (f_701 23 (Nat.ne_of_beq_eq_false rfl)) (f_701 24 (Nat.ne_of_beq_eq_false rfl))
  have g_701_25 := mf_cv_f g_700_25 (f_701 25 (Nat.ne_of_beq_eq_false rfl)) (f_701 26 (Nat.ne_of_beq_eq_false rfl)) (f_701 27 (Nat.ne_of_beq_eq_false rfl)) (f_701 28 (Nat.ne_of_beq_eq_false rfl))
  have g_701_29 := mf_cr_f g_700_29 (f_701 29 (Nat.ne_of_beq_eq_false rfl)) (f_701 30 (Nat.ne_of_beq_eq_false rfl)) (f_701 31 (Nat.ne_of_beq_eq_false rfl)) (f_701 32 (Nat.ne_of_beq_eq_false rfl))
  have g_701_33 := mf_cv_f g_700_33 (f_701 33 (Nat.ne_of_beq_eq_false rfl)) (f_701 34 (Nat.ne_of_beq_eq_false rfl)) (f_701 35 (Nat.ne_of_beq_eq_false rfl)) (f_701 36 (Nat.ne_of_beq_eq_false rfl))
  have g_701_37 := mf_cv_f g_700_37 (f_701 37 (Nat.ne_of_beq_eq_false rfl)) (f_701 38 (Nat.ne_of_beq_eq_false rfl)) (f_701 39 (Nat.ne_of_beq_eq_false rfl)) (f_701 40 (Nat.ne_of_beq_eq_false rfl))
  have g_701_41 := mf_cr_f g_700_41 (f_701 41 (Nat.ne_of_beq_eq_false rfl)) (f_701 42 (Nat.ne_of_beq_eq_false rfl)) (f_701 43 (Nat.ne_of_beq_eq_false rfl)) (f_701 44 (Nat.ne_of_beq_eq_false rfl))
  have g_701_46 : cE h_701 46 (.inl (.int, fA ((fe.set (0 : Int).toNat ((l0_698 / 1000) / 1000)).set (1 : Int).toNat ((l0_700 / 1000) / 1000)))) := e_701
  have qfe2 : ∀ i : Int, 0 ≤ i → i < 9 → 0 ≤ ((fe.set (0 : Int).toNat ((l0_698 / 1000) / 1000)).set (1 : Int).toNat ((l0_700 / 1000) / 1000)).getD i.toNat 0 ∧ ((fe.set (0 : Int).toNat ((l0_698 / 1000) / 1000)).set (1 : Int).toNat ((l0_700 / 1000) / 1000)).getD i.toNat 0 ≤ 1000 := by
    intro i i0 i1
    rw [fz_getD_set]
    split
    · omega
    · exact qfe1 i i0 i1
  refine fw_inc (a := 1) (loc_q := [some (.ref 17), some (fI p), some (fI 2), some (.ref 46), some (fI 0), some (fI 2)]) rfl rfl (Nat.le_of_ble_eq_true rfl) rfl ?_
  refine ik_Wk 3 (pc_q := 74) (loc_q := [some (.ref 17), some (fI p), some (fI 2), some (.ref 46), some (fI 0), some (fI 2)]) (st_q := [fI 2, fI 2]) (h_q := h_701) (cl_q := 0) (sl_q := 0) rfl ?_
  refine fw_ic_ge rfl rfl (by decide +kernel) (by decide +kernel) (by decide +kernel) (by decide +kernel) (fun hc9 => ?_) (fun hc9 => absurd hc9 (by decide +kernel))
  refine fw_inc (a := 0) (loc_q := [some (.ref 17), some (fI p), some (fI 2), some (.ref 46), some (fI 1), some (fI 2)]) rfl rfl (Nat.le_of_ble_eq_true rfl) rfl ?_
  refine ik_Wk 3 (pc_q := 65) (loc_q := [some (.ref 17), some (fI p), some (fI 2), some (.ref 46), some (fI 1), some (fI 2)]) (st_q := [fI 2, fI 1]) (h_q := h_701) (cl_q := 0) (sl_q := 0) rfl ?_
  refine fw_ic_ge rfl rfl (by decide +kernel) (by decide +kernel) (by decide +kernel) (by decide +kernel) (fun hc10 => absurd hc10 (by decide +kernel)) (fun hc10 => ?_)
  refine ik_Wk 4 (pc_q := 74) (loc_q := [some (.ref 17), some (fI p), some (fI 2), some (.ref 46), some (fI 1), some (fI 0)]) (st_q := [fI 2, fI 0]) (h_q := h_701) (cl_q := 0) (sl_q := 0) rfl ?_
  refine fw_ic_ge rfl rfl (by decide +kernel) (by decide +kernel) (by decide +kernel) (by decide +kernel) (fun hc11 => absurd hc11 (by decide +kernel)) (fun hc11 => ?_)
  refine ik_Wk 2 (pc_q := 79) (loc_q := [some (.ref 17), some (fI p), some (fI 2), some (.ref 46), some (fI 1), some (fI 0)]) (st_q := [.ref 17, .ref 17]) (h_q := h_701) (cl_q := 0) (sl_q := 0) rfl ?_
  refine fw_gf rfl rfl g_701_17 rfl ?_
  refine ik_Wk 1 (pc_q := 84) (loc_q := [some (.ref 17), some (fI p), some (fI 2), some (.ref 46), some (fI 1), some (fI 0)]) (st_q := [fI 1, .ref 18, .ref 17]) (h_q := h_701) (cl_q := 0) (sl_q := 0) rfl ?_
  refine fx_aal (z := 1) rfl g_701_18 (by decide +kernel) (by decide +kernel) rfl ?_
  refine ik_Wk 2 (pc_q := 87) (loc_q := [some (.ref 17), some (fI p), some (fI 2), some (.ref 46), some (fI 1), some (fI 0)]) (st_q := [.ref 17, fI 0, .ref 25, .ref 17]) (h_q := h_701) (cl_q := 0) (sl_q := 0) rfl ?_
  refine fw_gf rfl rfl g_701_17 rfl ?_
  refine ik_Wk 2 (pc_q := 93) (loc_q := [some (.ref 17), some (fI p), some (fI 2), some (.ref 46), some (fI 1), some (fI 0)]) (st_q := [fI 0, fI 3, .ref 18, fI 0, .ref 25, .ref 17]) (h_q := h_701) (cl_q := 0) (sl_q := 0) rfl ?_
  refine fw_add rfl ?_
  refine fx_aal (z := 3) rfl g_701_18 (by decide +kernel) (by decide +kernel) rfl ?_
  refine ik_Wk 1 (pc_q := 96) (loc_q := [some (.ref 17), some (fI p), some (fI 2), some (.ref 46), some (fI 1), some (fI 0)]) (st_q := [fI 0, .ref 33, fI 0, .ref 25, .ref 17]) (h_q := h_701) (cl_q := 0) (sl_q := 0) rfl ?_
  refine fw_ld 1000000 rfl rfl (by decide +kernel) ?_
  refine fw_call 80 6 0 [.ref 17, .ref 25, fI 0, .ref 33, fI 0, fI 1000000] [] rfl rfl rfl (Nat.le_of_ble_eq_true rfl) rfl rfl (fw_rec k_701 rfl g_701_17 rfl (Nat.le_of_ble_eq_true rfl)) (cs_race (C := 25) (E := 33) (pl := pl) (lo := lo) (s := s) (ka := ka) (pa := (p + 1)) (ma := 0) (kb := kb) (pb := (p + 0)) (mb := 0) (ua := 0) (ub := ub'_698) (lim := 1000000) (bo := l2_700) (la := l0_700) (lb := l1_700) (wg := wg) (wc := wc) (we := we) (W := W) (by omega) (by omega) (by omega) (by omega) (by omega) (by omega) (by omega) q3 q4 g_701_7 g_701_11 n11 g_701_12 n12 g_701_13 n13 g_701_17 g_701_19 g_701_25 g_701_33 k_701) ?_
  rintro _ h_702 ⟨l0_702, l1_702, l2_702, ua'_702, ub'_702, rfl, e_702_17, e_702_19, e_702_C, e_702_E, p_702_0, p_702_1, F_702⟩
  have k_702 : cL h_702 := F_702.1.trans k_701
  have fr_702 := hfr_cb fr_701 F_702 rfl
  have g_702_7 := (hfr_g F_702 7 rfl).trans g_701_7
  have g_702_11 := (hfr_g F_702 11 rfl).trans g_701_11
  have g_702_12 := (hfr_g F_702 12 rfl).trans g_701_12
  have g_702_13 := (hfr_g F_702 13 rfl).trans g_701_13
  have g_702_15 := (hfr_g F_702 15 rfl).trans g_701_15
  have g_702_18 := (hfr_g F_702 18 rfl).trans g_701_18
  have g_702_21 := mf_cv_f g_701_21 (hfr_g F_702 21 rfl) (hfr_g F_702 22 rfl) (hfr_g F_702 23 rfl) (hfr_g F_702 24 rfl)
  have g_702_29 := mf_cr_f g_701_29 (hfr_g F_702 29 rfl) (hfr_g F_702 30 rfl) (hfr_g F_702 31 rfl) (hfr_g F_702 32 rfl)
  have g_702_37 := mf_cv_f g_701_37 (hfr_g F_702 37 rfl) (hfr_g F_702 38 rfl) (hfr_g F_702 39 rfl) (hfr_g F_702 40 rfl)
  have g_702_41 := mf_cr_f g_701_41 (hfr_g F_702 41 rfl) (hfr_g F_702 42 rfl) (hfr_g F_702 43 rfl) (hfr_g F_702 44 rfl)
  have g_702_46 := (hfr_g F_702 46 rfl).trans g_701_46
  have g_702_17 : cE h_702 17 (.inr (8, [.ref 7, .ref 15, .ref 18, .ref 19, fJ l2_702, .ref 20])) := e_702_17
  have g_702_19 : cE h_702 19 (.inl (.long, fL [l0_702, l1_702])) := e_702_19
  have g_702_25 : mf_cv h_702 25 W pl ka (p + 1) ua'_702 := e_702_C
  have g_702_33 : mf_cv h_702 33 W pl kb (p + 0) ub'_702 := e_702_E
  refine ik_Wk 0 (pc_q := 101) (loc_q := [some (.ref 17), some (fI p), some (fI 2), some (.ref 46), some (fI 1), some (fI 0)]) (st_q := []) (h_q := h_702) (cl_q := 0) (sl_q := 0) rfl ?_
  refine ik_Wk 3 (pc_q := 105) (loc_q := [some (.ref 17), some (fI p), some (fI 2), some (.ref 46), some (fI 1), some (fI 0)]) (st_q := [fI 3, fI 1, .ref 46]) (h_q := h_702) (cl_q := 0) (sl_q := 0) rfl ?_
  refine fw_mul rfl ?_
  refine ik_Wk 1 (pc_q := 108) (loc_q := [some (.ref 17), some (fI p), some (fI 2), some (.ref 46), some (fI 1), some (fI 0)]) (st_q := [fI 0, fI 3, .ref 46]) (h_q := h_702) (cl_q := 0) (sl_q := 0) rfl ?_
  refine fw_add rfl ?_
  refine ik_Wk 2 (pc_q := 111) (loc_q := [some (.ref 17), some (fI p), some (fI 2), some (.ref 46), some (fI 1), some (fI 0)]) (st_q := [fI 0, .ref 17, fI 3, .ref 46]) (h_q := h_702) (cl_q := 0) (sl_q := 0) rfl ?_
  refine ik_Wc 74 2 0 [.ref 17, fI 0] [fI 3, .ref 46] rfl rfl rfl (by decide +kernel) rfl rfl (fw_rec k_702 rfl g_702_17 rfl (Nat.le_of_ble_eq_true rfl)) ?_
  refine ik_Wk 0 (pc_q := 0) (loc_q := [some (.ref 17), some (fI 0)]) (st_q := []) (h_q := h_702) (cl_q := 0) (sl_q := 0) rfl ?_
  refine ik_Wk 1 (pc_q := 1) (loc_q := [some (.ref 17), some (fI 0)]) (st_q := [.ref 17]) (h_q := h_702) (cl_q := 0) (sl_q := 0) rfl ?_
  refine fw_gf rfl rfl g_702_17 rfl ?_
  refine ik_Wk 1 (pc_q := 5) (loc_q := [some (.ref 17), some (fI 0)]) (st_q := [fI 0, .ref 19]) (h_q := h_702) (cl_q := 0) (sl_q := 0) rfl ?_
  refine fx_lal (z := 0) rfl g_702_19 (by decide +kernel) (Nat.le_of_ble_eq_true rfl) (by decide +kernel) ?_
  refine ik_Wk 0 (pc_q := 6) (loc_q := [some (.ref 17), some (fI 0)]) (st_q := [fJ l0_702]) (h_q := h_702) (cl_q := 0) (sl_q := 0) rfl ?_
  refine fw_l2 1000 rfl rfl (by decide +kernel) ?_
  refine fx_ldiv rfl (by omega) (by omega) (by omega) (by omega) ?_
  refine fx_l2i rfl ?_
  refine ik_Wret rfl rfl ⟨_, _, rfl, rfl, ?_⟩
  refine ik_Wk 0 (pc_q := 114) (loc_q := [some (.ref 17), some (fI p), some (fI 2), some (.ref 46), some (fI 1), some (fI 0)]) (st_q := [fI (l0_702 / 1000), fI 3, .ref 46]) (h_q := h_702) (cl_q := 0) (sl_q := 0) rfl ?_
  refine fw_si rfl (by decide +kernel) ?_
  refine fx_idiv rfl (by omega) (by omega) (by omega) (by omega) ?_
  have hl12 : (((fe.set (0 : Int).toNat ((l0_698 / 1000) / 1000)).set (1 : Int).toNat ((l0_700 / 1000) / 1000)).set (3 : Int).toNat ((l0_702 / 1000) / 1000)).length = 9 := (List.length_set ..).trans hl8
  refine fx_ias rfl g_702_46 (by omega) (by omega) (by omega) ?_
  intro h_703 e_703 f_703 l_703
  have k_703 : cL h_703 := l_703.trans k_702
  have fr_703 := hfr_wb fr_702 f_703 l_703 rfl
  clear l_703
  have g_703_7 := (f_703 7 (Nat.ne_of_beq_eq_false rfl)).trans g_702_7
  have g_703_11 := (f_703 11 (Nat.ne_of_beq_eq_false rfl)).trans g_702_11
  have g_703_12 := (f_703 12 (Nat.ne_of_beq_eq_false rfl)).trans g_702_12
  have g_703_13 := (f_703 13 (Nat.ne_of_beq_eq_false rfl)).trans g_702_13
  have g_703_15 := (f_703 15 (Nat.ne_of_beq_eq_false rfl)).trans g_702_15
  have g_703_17 := (f_703 17 (Nat.ne_of_beq_eq_false rfl)).trans g_702_17
  have g_703_18 := (f_703 18 (Nat.ne_of_beq_eq_false rfl)).trans g_702_18
  have g_703_19 := (f_703 19 (Nat.ne_of_beq_eq_false rfl)).trans g_702_19
  have g_703_21 := mf_cv_f g_702_21 (f_703 21 (Nat.ne_of_beq_eq_false rfl)) (f_703 22 (Nat.ne_of_beq_eq_false rfl)) (f_703 23 (Nat.ne_of_beq_eq_false rfl)) (f_703 24 (Nat.ne_of_beq_eq_false rfl))
  have g_703_25 := mf_cv_f g_702_25 (f_703 25 (Nat.ne_of_beq_eq_false rfl)) (f_703 26 (Nat.ne_of_beq_eq_false rfl)) (f_703 27 (Nat.ne_of_beq_eq_false rfl)) (f_703 28 (Nat.ne_of_beq_eq_false rfl))
  have g_703_29 := mf_cr_f g_702_29 (f_703 29 (Nat.ne_of_beq_eq_false rfl)) (f_703 30 (Nat.ne_of_beq_eq_false rfl)) (f_703 31 (Nat.ne_of_beq_eq_false rfl)) (f_703 32 (Nat.ne_of_beq_eq_false rfl))
  have g_703_33 := mf_cv_f g_702_33 (f_703 33 (Nat.ne_of_beq_eq_false rfl)) (f_703 34 (Nat.ne_of_beq_eq_false rfl)) (f_703 35 (Nat.ne_of_beq_eq_false rfl)) (f_703 36 (Nat.ne_of_beq_eq_false rfl))
  have g_703_37 := mf_cv_f g_702_37 (f_703 37 (Nat.ne_of_beq_eq_false rfl)) (f_703 38 (Nat.ne_of_beq_eq_false rfl)) (f_703 39 (Nat.ne_of_beq_eq_false rfl)) (f_703 40 (Nat.ne_of_beq_eq_false rfl))
  have g_703_41 := mf_cr_f g_702_41 (f_703 41 (Nat.ne_of_beq_eq_false rfl)) (f_703 42 (Nat.ne_of_beq_eq_false rfl)) (f_703 43 (Nat.ne_of_beq_eq_false rfl)) (f_703 44 (Nat.ne_of_beq_eq_false rfl))
  have g_703_46 : cE h_703 46 (.inl (.int, fA (((fe.set (0 : Int).toNat ((l0_698 / 1000) / 1000)).set (1 : Int).toNat ((l0_700 / 1000) / 1000)).set (3 : Int).toNat ((l0_702 / 1000) / 1000)))) := e_703
  have qfe3 : ∀ i : Int, 0 ≤ i → i < 9 → 0 ≤ (((fe.set (0 : Int).toNat ((l0_698 / 1000) / 1000)).set (1 : Int).toNat ((l0_700 / 1000) / 1000)).set (3 : Int).toNat ((l0_702 / 1000) / 1000)).getD i.toNat 0 ∧ (((fe.set (0 : Int).toNat ((l0_698 / 1000) / 1000)).set (1 : Int).toNat ((l0_700 / 1000) / 1000)).set (3 : Int).toNat ((l0_702 / 1000) / 1000)).getD i.toNat 0 ≤ 1000 := by
    intro i i0 i1
    rw [fz_getD_set]
    split
    · omega
    · exact qfe2 i i0 i1
  refine fw_inc (a := 0) (loc_q := [some (.ref 17), some (fI p), some (fI 2), some (.ref 46), some (fI 1), some (fI 1)]) rfl rfl (Nat.le_of_ble_eq_true rfl) rfl ?_
  refine ik_Wk 3 (pc_q := 74) (loc_q := [some (.ref 17), some (fI p), some (fI 2), some (.ref 46), some (fI 1), some (fI 1)]) (st_q := [fI 2, fI 1]) (h_q := h_703) (cl_q := 0) (sl_q := 0) rfl ?_
  refine fw_ic_ge rfl rfl (by decide +kernel) (by decide +kernel) (by decide +kernel) (by decide +kernel) (fun hc13 => absurd hc13 (by decide +kernel)) (fun hc13 => ?_)
  refine ik_Wk 2 (pc_q := 79) (loc_q := [some (.ref 17), some (fI p), some (fI 2), some (.ref 46), some (fI 1), some (fI 1)]) (st_q := [.ref 17, .ref 17]) (h_q := h_703) (cl_q := 0) (sl_q := 0) rfl ?_
  refine fw_gf rfl rfl g_703_17 rfl ?_
  refine ik_Wk 1 (pc_q := 84) (loc_q := [some (.ref 17), some (fI p), some (fI 2), some (.ref 46), some (fI 1), some (fI 1)]) (st_q := [fI 1, .ref 18, .ref 17]) (h_q := h_703) (cl_q := 0) (sl_q := 0) rfl ?_
  refine fx_aal (z := 1) rfl g_703_18 (by decide +kernel) (by decide +kernel) rfl ?_
  refine ik_Wk 2 (pc_q := 87) (loc_q := [some (.ref 17), some (fI p), some (fI 2), some (.ref 46), some (fI 1), some (fI 1)]) (st_q := [.ref 17, fI 0, .ref 25, .ref 17]) (h_q := h_703) (cl_q := 0) (sl_q := 0) rfl ?_
  refine fw_gf rfl rfl g_703_17 rfl ?_
  refine ik_Wk 2 (pc_q := 93) (loc_q := [some (.ref 17), some (fI p), some (fI 2), some (.ref 46), some (fI 1), some (fI 1)]) (st_q := [fI 1, fI 3, .ref 18, fI 0, .ref 25, .ref 17]) (h_q := h_703) (cl_q := 0) (sl_q := 0) rfl ?_
  refine fw_add rfl ?_
  refine fx_aal (z := 4) rfl g_703_18 (by decide +kernel) (by decide +kernel) rfl ?_
  refine ik_Wk 1 (pc_q := 96) (loc_q := [some (.ref 17), some (fI p), some (fI 2), some (.ref 46), some (fI 1), some (fI 1)]) (st_q := [fI 0, .ref 37, fI 0, .ref 25, .ref 17]) (h_q := h_703) (cl_q := 0) (sl_q := 0) rfl ?_
  refine fw_ld 1000000 rfl rfl (by decide +kernel) ?_
  refine fw_call 80 6 0 [.ref 17, .ref 25, fI 0, .ref 37, fI 0, fI 1000000] [] rfl rfl rfl (Nat.le_of_ble_eq_true rfl) rfl rfl (fw_rec k_703 rfl g_703_17 rfl (Nat.le_of_ble_eq_true rfl)) (cs_race (C := 25) (E := 37) (pl := pl) (lo := lo) (s := s) (ka := ka) (pa := (p + 1)) (ma := 0) (kb := kb) (pb := (p + 1)) (mb := 0) (ua := ua'_702) (ub := ub'_700) (lim := 1000000) (bo := l2_702) (la := l0_702) (lb := l1_702) (wg := wg) (wc := wc) (we := we) (W := W) (by omega) (by omega) (by omega) (by omega) (by omega) (by omega) (by omega) q3 q4 g_703_7 g_703_11 n11 g_703_12 n12 g_703_13 n13 g_703_17 g_703_19 g_703_25 g_703_37 k_703) ?_
  rintro _ h_704 ⟨l0_704, l1_704, l2_704, ua'_704, ub'_704, rfl, e_704_17, e_704_19, e_704_C, e_704_E, p_704_0, p_704_1, F_704⟩
  have k_704 : cL h_704 := F_704.1.trans k_703
  have fr_704 := hfr_cb fr_703 F_704 rfl
  have g_704_7 := (hfr_g F_704 7 rfl).trans g_703_7
  have g_704_11 := (hfr_g F_704 11 rfl).trans g_703_11
  have g_704_12 := (hfr_g F_704 12 rfl).trans g_703_12
  have g_704_13 := (hfr_g F_704 13 rfl).trans g_703_13
  have g_704_15 := (hfr_g F_704 15 rfl).trans g_703_15
  have g_704_18 := (hfr_g F_704 18 rfl).trans g_703_18
  have g_704_21 := mf_cv_f g_703_21 (hfr_g F_704 21 rfl) (hfr_g F_704 22 rfl) (hfr_g F_704 23 rfl) (hfr_g F_704 24 rfl)
  have g_704_29 := mf_cr_f g_703_29 (hfr_g F_704 29 rfl) (hfr_g F_704 30 rfl) (hfr_g F_704 31 rfl) (hfr_g F_704 32 rfl)
  have g_704_33 := mf_cv_f g_703_33 (hfr_g F_704 33 rfl) (hfr_g F_704 34 rfl) (hfr_g F_704 35 rfl) (hfr_g F_704 36 rfl)
  have g_704_41 := mf_cr_f g_703_41 (hfr_g F_704 41 rfl) (hfr_g F_704 42 rfl) (hfr_g F_704 43 rfl) (hfr_g F_704 44 rfl)
  have g_704_46 := (hfr_g F_704 46 rfl).trans g_703_46
  have g_704_17 : cE h_704 17 (.inr (8, [.ref 7, .ref 15, .ref 18, .ref 19, fJ l2_704, .ref 20])) := e_704_17
  have g_704_19 : cE h_704 19 (.inl (.long, fL [l0_704, l1_704])) := e_704_19
  have g_704_25 : mf_cv h_704 25 W pl ka (p + 1) ua'_704 := e_704_C
  have g_704_37 : mf_cv h_704 37 W pl kb (p + 1) ub'_704 := e_704_E
  refine ik_Wk 0 (pc_q := 101) (loc_q := [some (.ref 17), some (fI p), some (fI 2), some (.ref 46), some (fI 1), some (fI 1)]) (st_q := []) (h_q := h_704) (cl_q := 0) (sl_q := 0) rfl ?_
  refine ik_Wk 3 (pc_q := 105) (loc_q := [some (.ref 17), some (fI p), some (fI 2), some (.ref 46), some (fI 1), some (fI 1)]) (st_q := [fI 3, fI 1, .ref 46]) (h_q := h_704) (cl_q := 0) (sl_q := 0) rfl ?_
  refine fw_mul rfl ?_
  refine ik_Wk 1 (pc_q := 108) (loc_q := [some (.ref 17), some (fI p), some (fI 2), some (.ref 46), some (fI 1), some (fI 1)]) (st_q := [fI 1, fI 3, .ref 46]) (h_q := h_704) (cl_q := 0) (sl_q := 0) rfl ?_
  refine fw_add rfl ?_
  refine ik_Wk 2 (pc_q := 111) (loc_q := [some (.ref 17), some (fI p), some (fI 2), some (.ref 46), some (fI 1), some (fI 1)]) (st_q := [fI 0, .ref 17, fI 4, .ref 46]) (h_q := h_704) (cl_q := 0) (sl_q := 0) rfl ?_
  refine ik_Wc 74 2 0 [.ref 17, fI 0] [fI 4, .ref 46] rfl rfl rfl (by decide +kernel) rfl rfl (fw_rec k_704 rfl g_704_17 rfl (Nat.le_of_ble_eq_true rfl)) ?_
  refine ik_Wk 0 (pc_q := 0) (loc_q := [some (.ref 17), some (fI 0)]) (st_q := []) (h_q := h_704) (cl_q := 0) (sl_q := 0) rfl ?_
  refine ik_Wk 1 (pc_q := 1) (loc_q := [some (.ref 17), some (fI 0)]) (st_q := [.ref 17]) (h_q := h_704) (cl_q := 0) (sl_q := 0) rfl ?_
  refine fw_gf rfl rfl g_704_17 rfl ?_
  refine ik_Wk 1 (pc_q := 5) (loc_q := [some (.ref 17), some (fI 0)]) (st_q := [fI 0, .ref 19]) (h_q := h_704) (cl_q := 0) (sl_q := 0) rfl ?_
  refine fx_lal (z := 0) rfl g_704_19 (by decide +kernel) (Nat.le_of_ble_eq_true rfl) (by decide +kernel) ?_
  refine ik_Wk 0 (pc_q := 6) (loc_q := [some (.ref 17), some (fI 0)]) (st_q := [fJ l0_704]) (h_q := h_704) (cl_q := 0) (sl_q := 0) rfl ?_
  refine fw_l2 1000 rfl rfl (by decide +kernel) ?_
  refine fx_ldiv rfl (by omega) (by omega) (by omega) (by omega) ?_
  refine fx_l2i rfl ?_
  refine ik_Wret rfl rfl ⟨_, _, rfl, rfl, ?_⟩
  refine ik_Wk 0 (pc_q := 114) (loc_q := [some (.ref 17), some (fI p), some (fI 2), some (.ref 46), some (fI 1), some (fI 1)]) (st_q := [fI (l0_704 / 1000), fI 4, .ref 46]) (h_q := h_704) (cl_q := 0) (sl_q := 0) rfl ?_
  refine fw_si rfl (by decide +kernel) ?_
  refine fx_idiv rfl (by omega) (by omega) (by omega) (by omega) ?_
  have hl14 : ((((fe.set (0 : Int).toNat ((l0_698 / 1000) / 1000)).set (1 : Int).toNat ((l0_700 / 1000) / 1000)).set (3 : Int).toNat ((l0_702 / 1000) / 1000)).set (4 : Int).toNat ((l0_704 / 1000) / 1000)).length = 9 := (List.length_set ..).trans hl12
  refine fx_ias rfl g_704_46 (by omega) (by omega) (by omega) ?_
  intro h_705 e_705 f_705 l_705
  have k_705 : cL h_705 := l_705.trans k_704
  have fr_705 := hfr_wb fr_704 f_705 l_705 rfl
  clear l_705
  have g_705_7 := (f_705 7 (Nat.ne_of_beq_eq_false rfl)).trans g_704_7
  have g_705_11 := (f_705 11 (Nat.ne_of_beq_eq_false rfl)).trans g_704_11
  have g_705_12 := (f_705 12 (Nat.ne_of_beq_eq_false rfl)).trans g_704_12
  have g_705_13 := (f_705 13 (Nat.ne_of_beq_eq_false rfl)).trans g_704_13
  have g_705_15 := (f_705 15 (Nat.ne_of_beq_eq_false rfl)).trans g_704_15
  have g_705_17 := (f_705 17 (Nat.ne_of_beq_eq_false rfl)).trans g_704_17
  have g_705_18 := (f_705 18 (Nat.ne_of_beq_eq_false rfl)).trans g_704_18
  have g_705_19 := (f_705 19 (Nat.ne_of_beq_eq_false rfl)).trans g_704_19
  have g_705_21 := mf_cv_f g_704_21 (f_705 21 (Nat.ne_of_beq_eq_false rfl)) (f_705 22 (Nat.ne_of_beq_eq_false rfl)) (f_705 23 (Nat.ne_of_beq_eq_false rfl)) (f_705 24 (Nat.ne_of_beq_eq_false rfl))
  have g_705_25 := mf_cv_f g_704_25 (f_705 25 (Nat.ne_of_beq_eq_false rfl)) (f_705 26 (Nat.ne_of_beq_eq_false rfl)) (f_705 27 (Nat.ne_of_beq_eq_false rfl)) (f_705 28 (Nat.ne_of_beq_eq_false rfl))
  have g_705_29 := mf_cr_f g_704_29 (f_705 29 (Nat.ne_of_beq_eq_false rfl)) (f_705 30 (Nat.ne_of_beq_eq_false rfl)) (f_705 31 (Nat.ne_of_beq_eq_false rfl)) (f_705 32 (Nat.ne_of_beq_eq_false rfl))
  have g_705_33 := mf_cv_f g_704_33 (f_705 33 (Nat.ne_of_beq_eq_false rfl)) (f_705 34 (Nat.ne_of_beq_eq_false rfl)) (f_705 35 (Nat.ne_of_beq_eq_false rfl)) (f_705 36 (Nat.ne_of_beq_eq_false rfl))
  have g_705_37 := mf_cv_f g_704_37 (f_705 37 (Nat.ne_of_beq_eq_false rfl)) (f_705 38 (Nat.ne_of_beq_eq_false rfl)) (f_705 39 (Nat.ne_of_beq_eq_false rfl)) (f_705 40 (Nat.ne_of_beq_eq_false rfl))
  have g_705_41 := mf_cr_f g_704_41 (f_705 41 (Nat.ne_of_beq_eq_false rfl)) (f_705 42 (Nat.ne_of_beq_eq_false rfl)) (f_705 43 (Nat.ne_of_beq_eq_false rfl)) (f_705 44 (Nat.ne_of_beq_eq_false rfl))
  have g_705_46 : cE h_705 46 (.inl (.int, fA ((((fe.set (0 : Int).toNat ((l0_698 / 1000) / 1000)).set (1 : Int).toNat ((l0_700 / 1000) / 1000)).set (3 : Int).toNat ((l0_702 / 1000) / 1000)).set (4 : Int).toNat ((l0_704 / 1000) / 1000)))) := e_705
  have qfe4 : ∀ i : Int, 0 ≤ i → i < 9 → 0 ≤ ((((fe.set (0 : Int).toNat ((l0_698 / 1000) / 1000)).set (1 : Int).toNat ((l0_700 / 1000) / 1000)).set (3 : Int).toNat ((l0_702 / 1000) / 1000)).set (4 : Int).toNat ((l0_704 / 1000) / 1000)).getD i.toNat 0 ∧ ((((fe.set (0 : Int).toNat ((l0_698 / 1000) / 1000)).set (1 : Int).toNat ((l0_700 / 1000) / 1000)).set (3 : Int).toNat ((l0_702 / 1000) / 1000)).set (4 : Int).toNat ((l0_704 / 1000) / 1000)).getD i.toNat 0 ≤ 1000 := by
    intro i i0 i1
    rw [fz_getD_set]
    split
    · omega
    · exact qfe3 i i0 i1
  refine fw_inc (a := 1) (loc_q := [some (.ref 17), some (fI p), some (fI 2), some (.ref 46), some (fI 1), some (fI 2)]) rfl rfl (Nat.le_of_ble_eq_true rfl) rfl ?_
  refine ik_Wk 3 (pc_q := 74) (loc_q := [some (.ref 17), some (fI p), some (fI 2), some (.ref 46), some (fI 1), some (fI 2)]) (st_q := [fI 2, fI 2]) (h_q := h_705) (cl_q := 0) (sl_q := 0) rfl ?_
  refine fw_ic_ge rfl rfl (by decide +kernel) (by decide +kernel) (by decide +kernel) (by decide +kernel) (fun hc15 => ?_) (fun hc15 => absurd hc15 (by decide +kernel))
  refine fw_inc (a := 1) (loc_q := [some (.ref 17), some (fI p), some (fI 2), some (.ref 46), some (fI 2), some (fI 2)]) rfl rfl (Nat.le_of_ble_eq_true rfl) rfl ?_
  refine ik_Wk 3 (pc_q := 65) (loc_q := [some (.ref 17), some (fI p), some (fI 2), some (.ref 46), some (fI 2), some (fI 2)]) (st_q := [fI 2, fI 2]) (h_q := h_705) (cl_q := 0) (sl_q := 0) rfl ?_
  refine fw_ic_ge rfl rfl (by decide +kernel) (by decide +kernel) (by decide +kernel) (by decide +kernel) (fun hc16 => ?_) (fun hc16 => absurd hc16 (by decide +kernel))
  exact ik_Wret rfl rfl ⟨_, _, rfl, rfl, rfl, rfl, ⟨l0_704, l1_704, l2_704, ((((fe.set (0 : Int).toNat ((l0_698 / 1000) / 1000)).set (1 : Int).toNat ((l0_700 / 1000) / 1000)).set (3 : Int).toNat ((l0_702 / 1000) / 1000)).set (4 : Int).toNat ((l0_704 / 1000) / 1000)), rfl, g_705_17, g_705_19, (mf_cv_r g_705_21), (mf_cv_r g_705_25), g_705_29, (mf_cv_r g_705_33), (mf_cv_r g_705_37), g_705_41, g_705_46, hl14, qfe4, fr_705⟩⟩

theorem cs_fears3 {h : List ik_E} {pl : Int} {lo : Int} {s : Nat} {ka : Int} {pa : Int} {fa : Int} {kb : Int} {pb : Int} {fb : Int} {bo : Int} {la : Int} {lb : Int} {p : Int} {wg : List Int} {wc : List Int} {we : List Int} {fe : List Int} {W : Int → List (Int × Int)} (q0 : 2 ≤ pl ∧ pl ≤ 12) (q1 : 0 ≤ ka ∧ ka ≤ 2 ∧ 0 ≤ kb ∧ kb ≤ 2) (q2 : 0 ≤ p ∧ p + 3 < pl) (q3 : ∀ x : Int, (0 : Int) ≤ x → x < pl - 1 → mx_wy wg wc we x (W x)) (q4 : ∀ x : Int, (0 : Int) ≤ x → x < pl - 1 → mx_ok pl (W x)) (q5 : ∀ i : Int, (0 : Int) ≤ i → i < (9 : Int) → 0 ≤ fe.getD i.toNat 0 ∧ fe.getD i.toNat 0 ≤ 1000) (h7 : cE h 7 (.inr (0, [fI pl, fI ((s : Nat) : Int), fI lo, .ref 8, .ref 9, .ref 10, .ref 11, .ref 12, .ref 13]))) (h11 : cE h 11 (.inl (.int, fA wg))) (n11 : wg.length = (60 : Nat)) (h12 : cE h 12 (.inl (.int, fA wc))) (n12 : wc.length = (60 : Nat)) (h13 : cE h 13 (.inl (.int, fA we))) (n13 : we.length = (12 : Nat)) (h15 : cE h 15 (.inl (.int, fA [ka, pa, fa, kb, pb, fb]))) (h17 : cE h 17 (.inr (8, [.ref 7, .ref 15, .ref 18, .ref 19, fJ bo, .ref 20]))) (h18 : cE h 18 (.inl (.object "SlowerCork$Course", [.ref 21, .ref 25, .ref 29, .ref 33, .ref 37, .ref 41]))) (h19 : cE h 19 (.inl (.long, fL [la, lb]))) (h21 : mf_cr h 21 ) (h25 : mf_cr h 25 ) (h29 : mf_cr h 29 ) (h33 : mf_cr h 33 ) (h37 : mf_cr h 37 ) (h41 : mf_cr h 41 ) (h46 : cE h 46 (.inl (.int, fA fe))) (n46 : fe.length = (9 : Nat)) (hl : h.length = (94 : Nat)) : ik_F 84 [.ref 17, fI p, fI 3, .ref 46] h (fun rv h_q => ∃ (l0 : Int) (l1 : Int) (l2 : Int) (fe' : List Int), rv = [] ∧ cE h_q 17 (.inr (8, [.ref 7, .ref 15, .ref 18, .ref 19, fJ l2, .ref 20])) ∧ cE h_q 19 (.inl (.long, fL [l0, l1])) ∧ mf_cr h_q 21  ∧ mf_cr h_q 25  ∧ mf_cr h_q 29  ∧ mf_cr h_q 33  ∧ mf_cr h_q 37  ∧ mf_cr h_q 41  ∧ cE h_q 46 (.inl (.int, fA fe')) ∧ fe'.length = (9 : Nat) ∧ (∀ i : Int, (0 : Int) ≤ i → i < (9 : Int) → 0 ≤ fe'.getD i.toNat 0 ∧ fe'.getD i.toNat 0 ≤ 1000) ∧ hfr [17, 19, 46, 21, 22, 23, 24, 25, 26, 27, 28, 29, 30, 31, 32, 33, 34, 35, 36, 37, 38, 39, 40, 41, 42, 43, 44] h h_q) := by
  have qfe0 := q5
  refine ik_Wk 4 (pc_q := 6) (loc_q := [some (.ref 17), some (fI p), some (fI 3), some (.ref 46), some (fI 0), none]) (st_q := [fI 3, fI 0]) (h_q := h) (cl_q := 0) (sl_q := 0) rfl ?_
  refine fw_ic_ge rfl rfl (by decide +kernel) (by decide +kernel) (by decide +kernel) (by decide +kernel) (fun hc1 => absurd hc1 (by decide +kernel)) (fun hc1 => ?_)
  refine ik_Wk 1 (pc_q := 10) (loc_q := [some (.ref 17), some (fI p), some (fI 3), some (.ref 46), some (fI 0), none]) (st_q := [.ref 17]) (h_q := h) (cl_q := 0) (sl_q := 0) rfl ?_
  refine fw_gf rfl rfl h17 rfl ?_
  refine ik_Wk 1 (pc_q := 15) (loc_q := [some (.ref 17), some (fI p), some (fI 3), some (.ref 46), some (fI 0), none]) (st_q := [fI 0, .ref 18]) (h_q := h) (cl_q := 0) (sl_q := 0) rfl ?_
  refine fx_aal (z := 0) rfl h18 (by decide +kernel) (by decide +kernel) rfl ?_
  refine ik_Wk 1 (pc_q := 17) (loc_q := [some (.ref 17), some (fI p), some (fI 3), some (.ref 46), some (fI 0), none]) (st_q := [.ref 17, .ref 21]) (h_q := h) (cl_q := 0) (sl_q := 0) rfl ?_
  refine fw_gf rfl rfl h17 rfl ?_
  refine ik_Wk 1 (pc_q := 21) (loc_q := [some (.ref 17), some (fI p), some (fI 3), some (.ref 46), some (fI 0), none]) (st_q := [fI 0, .ref 15, .ref 21]) (h_q := h) (cl_q := 0) (sl_q := 0) rfl ?_
  refine fw_ial (z := 0) rfl h15 (by decide +kernel) (Nat.le_of_ble_eq_true rfl) (by decide +kernel) ?_
  refine ik_Wk 0 (pc_q := 22) (loc_q := [some (.ref 17), some (fI p), some (fI 3), some (.ref 46), some (fI 0), none]) (st_q := [fI ka, .ref 21]) (h_q := h) (cl_q := 0) (sl_q := 0) rfl ?_
  refine ik_Wk 2 (pc_q := 25) (loc_q := [some (.ref 17), some (fI p), some (fI 3), some (.ref 46), some (fI 0), none]) (st_q := [fI 0, fI p, fI ka, .ref 21]) (h_q := h) (cl_q := 0) (sl_q := 0) rfl ?_
  refine fw_add rfl ?_
  refine fw_call 30 3 0 [.ref 21, fI ka, fI (p + 0)] [] rfl rfl rfl (Nat.le_of_ble_eq_true rfl) rfl rfl (fw_rec hl rfl (mf_cr_o h21).choose_spec rfl (by decide +kernel)) (cs_setIn (C := 21) (pl := pl) (lo := lo) (s := s) (kd := ka) (qp := p + 0) (W := W) (by omega) (by omega) (by omega) h7 h21 hl) ?_
  rintro _ h_706 ⟨rfl, e_706_C, F_706⟩
  have k_706 : cL h_706 := F_706.1.trans hl
  have fr_706 := hfr_cb (hfr_refl [17, 19, 46, 21, 22, 23, 24, 25, 26, 27, 28, 29, 30, 31, 32, 33, 34, 35, 36, 37, 38, 39, 40, 41, 42, 43, 44] h) F_706 rfl
  have g_706_7 := (hfr_g F_706 7 rfl).trans h7
  have g_706_11 := (hfr_g F_706 11 rfl).trans h11
  have g_706_12 := (hfr_g F_706 12 rfl).trans h12
  have g_706_13 := (hfr_g F_706 13 rfl).trans h13
  have g_706_15 := (hfr_g F_706 15 rfl).trans h15
  have g_706_17 := (hfr_g F_706 17 rfl).trans h17
  have g_706_18 := (hfr_g F_706 18 rfl).trans h18
  have g_706_19 := (hfr_g F_706 19 rfl).trans h19
  have g_706_25 := mf_cr_f h25 (hfr_g F_706 25 rfl) (hfr_g F_706 26 rfl) (hfr_g F_706 27 rfl) (hfr_g F_706 28 rfl)
  have g_706_29 := mf_cr_f h29 (hfr_g F_706 29 rfl) (hfr_g F_706 30 rfl) (hfr_g F_706 31 rfl) (hfr_g F_706 32 rfl)
  have g_706_33 := mf_cr_f h33 (hfr_g F_706 33 rfl) (hfr_g F_706 34 rfl) (hfr_g F_706 35 rfl) (hfr_g F_706 36 rfl)
  have g_706_37 := mf_cr_f h37 (hfr_g F_706 37 rfl) (hfr_g F_706 38 rfl) (hfr_g F_706 39 rfl) (hfr_g F_706 40 rfl)
  have g_706_41 := mf_cr_f h41 (hfr_g F_706 41 rfl) (hfr_g F_706 42 rfl) (hfr_g F_706 43 rfl) (hfr_g F_706 44 rfl)
  have g_706_46 := (hfr_g F_706 46 rfl).trans h46
  have g_706_21 : mf_cv h_706 21 W pl ka (p + 0) 0 := e_706_C
  refine ik_Wk 0 (pc_q := 29) (loc_q := [some (.ref 17), some (fI p), some (fI 3), some (.ref 46), some (fI 0), none]) (st_q := [.ref 21]) (h_q := h_706) (cl_q := 0) (sl_q := 0) rfl ?_
  refine ik_Wk 2 (pc_q := 31) (loc_q := [some (.ref 17), some (fI p), some (fI 3), some (.ref 46), some (fI 0), none]) (st_q := [.ref 17]) (h_q := h_706) (cl_q := 0) (sl_q := 0) rfl ?_
  refine fw_gf rfl rfl g_706_17 rfl ?_
  refine ik_Wk 2 (pc_q := 37) (loc_q := [some (.ref 17), some (fI p), some (fI 3), some (.ref 46), some (fI 0), none]) (st_q := [fI 0, fI 3, .ref 18]) (h_q := h_706) (cl_q := 0) (sl_q := 0) rfl ?_
  refine fw_add rfl ?_
  refine fx_aal (z := 3) rfl g_706_18 (by decide +kernel) (by decide +kernel) rfl ?_
  refine ik_Wk 1 (pc_q := 40) (loc_q := [some (.ref 17), some (fI p), some (fI 3), some (.ref 46), some (fI 0), none]) (st_q := [.ref 17, .ref 33]) (h_q := h_706) (cl_q := 0) (sl_q := 0) rfl ?_
  refine fw_gf rfl rfl g_706_17 rfl ?_
  refine ik_Wk 1 (pc_q := 44) (loc_q := [some (.ref 17), some (fI p), some (fI 3), some (.ref 46), some (fI 0), none]) (st_q := [fI 3, .ref 15, .ref 33]) (h_q := h_706) (cl_q := 0) (sl_q := 0) rfl ?_
  refine fw_ial (z := 3) rfl g_706_15 (by decide +kernel) (Nat.le_of_ble_eq_true rfl) (by decide +kernel) ?_
  refine ik_Wk 0 (pc_q := 45) (loc_q := [some (.ref 17), some (fI p), some (fI 3), some (.ref 46), some (fI 0), none]) (st_q := [fI kb, .ref 33]) (h_q := h_706) (cl_q := 0) (sl_q := 0) rfl ?_
  refine ik_Wk 2 (pc_q := 48) (loc_q := [some (.ref 17), some (fI p), some (fI 3), some (.ref 46), some (fI 0), none]) (st_q := [fI 0, fI p, fI kb, .ref 33]) (h_q := h_706) (cl_q := 0) (sl_q := 0) rfl ?_
  refine fw_add rfl ?_
  refine fw_call 30 3 0 [.ref 33, fI kb, fI (p + 0)] [] rfl rfl rfl (Nat.le_of_ble_eq_true rfl) rfl rfl (fw_rec k_706 rfl (mf_cr_o g_706_33).choose_spec rfl (by decide +kernel)) (cs_setIn (C := 33) (pl := pl) (lo := lo) (s := s) (kd := kb) (qp := p + 0) (W := W) (by omega) (by omega) (by omega) g_706_7 g_706_33 k_706) ?_
  rintro _ h_707 ⟨rfl, e_707_C, F_707⟩
  have k_707 : cL h_707 := F_707.1.trans k_706
  have fr_707 := hfr_cb fr_706 F_707 rfl
  have g_707_7 := (hfr_g F_707 7 rfl).trans g_706_7
  have g_707_11 := (hfr_g F_707 11 rfl).trans g_706_11
  have g_707_12 := (hfr_g F_707 12 rfl).trans g_706_12
  have g_707_13 := (hfr_g F_707 13 rfl).trans g_706_13
  have g_707_15 := (hfr_g F_707 15 rfl).trans g_706_15
  have g_707_17 := (hfr_g F_707 17 rfl).trans g_706_17
  have g_707_18 := (hfr_g F_707 18 rfl).trans g_706_18
  have g_707_19 := (hfr_g F_707 19 rfl).trans g_706_19
  have g_707_21 := mf_cv_f g_706_21 (hfr_g F_707 21 rfl) (hfr_g F_707 22 rfl) (hfr_g F_707 23 rfl) (hfr_g F_707 24 rfl)
  have g_707_25 := mf_cr_f g_706_25 (hfr_g F_707 25 rfl) (hfr_g F_707 26 rfl) (hfr_g F_707 27 rfl) (hfr_g F_707 28 rfl)
  have g_707_29 := mf_cr_f g_706_29 (hfr_g F_707 29 rfl) (hfr_g F_707 30 rfl) (hfr_g F_707 31 rfl) (hfr_g F_707 32 rfl)
  have g_707_37 := mf_cr_f g_706_37 (hfr_g F_707 37 rfl) (hfr_g F_707 38 rfl) (hfr_g F_707 39 rfl) (hfr_g F_707 40 rfl)
  have g_707_41 := mf_cr_f g_706_41 (hfr_g F_707 41 rfl) (hfr_g F_707 42 rfl) (hfr_g F_707 43 rfl) (hfr_g F_707 44 rfl)
  have g_707_46 := (hfr_g F_707 46 rfl).trans g_706_46
  have g_707_33 : mf_cv h_707 33 W pl kb (p + 0) 0 := e_707_C
  refine ik_Wk 0 (pc_q := 52) (loc_q := [some (.ref 17), some (fI p), some (fI 3), some (.ref 46), some (fI 0), none]) (st_q := [.ref 33]) (h_q := h_707) (cl_q := 0) (sl_q := 0) rfl ?_
  refine ik_Wk 1 (pc_q := 53) (loc_q := [some (.ref 17), some (fI p), some (fI 3), some (.ref 46), some (fI 0), none]) (st_q := []) (h_q := h_707) (cl_q := 0) (sl_q := 0) rfl ?_
  refine fw_inc (a := 0) (loc_q := [some (.ref 17), some (fI p), some (fI 3), some (.ref 46), some (fI 1), none]) rfl rfl (Nat.le_of_ble_eq_true rfl) rfl ?_
  refine ik_Wk 3 (pc_q := 6) (loc_q := [some (.ref 17), some (fI p), some (fI 3), some (.ref 46), some (fI 1), none]) (st_q := [fI 3, fI 1]) (h_q := h_707) (cl_q := 0) (sl_q := 0) rfl ?_
  refine fw_ic_ge rfl rfl (by decide +kernel) (by decide +kernel) (by decide +kernel) (by decide +kernel) (fun hc2 => absurd hc2 (by decide +kernel)) (fun hc2 => ?_)
  refine ik_Wk 1 (pc_q := 10) (loc_q := [some (.ref 17), some (fI p), some (fI 3), some (.ref 46), some (fI 1), none]) (st_q := [.ref 17]) (h_q := h_707) (cl_q := 0) (sl_q := 0) rfl ?_
  refine fw_gf rfl rfl g_707_17 rfl ?_
  refine ik_Wk 1 (pc_q := 15) (loc_q := [some (.ref 17), some (fI p), some (fI 3), some (.ref 46), some (fI 1), none]) (st_q := [fI 1, .ref 18]) (h_q := h_707) (cl_q := 0) (sl_q := 0) rfl ?_
  refine fx_aal (z := 1) rfl g_707_18 (by decide +kernel) (by decide +kernel) rfl ?_
  refine ik_Wk 1 (pc_q := 17) (loc_q := [some (.ref 17), some (fI p), some (fI 3), some (.ref 46), some (fI 1), none]) (st_q := [.ref 17, .ref 25]) (h_q := h_707) (cl_q := 0) (sl_q := 0) rfl ?_
  refine fw_gf rfl rfl g_707_17 rfl ?_
  refine ik_Wk 1 (pc_q := 21) (loc_q := [some (.ref 17), some (fI p), some (fI 3), some (.ref 46), some (fI 1), none]) (st_q := [fI 0, .ref 15, .ref 25]) (h_q := h_707) (cl_q := 0) (sl_q := 0) rfl ?_
  refine fw_ial (z := 0) rfl g_707_15 (by decide +kernel) (Nat.le_of_ble_eq_true rfl) (by decide +kernel) ?_
  refine ik_Wk 0 (pc_q := 22) (loc_q := [some (.ref 17), some (fI p), some (fI 3), some (.ref 46), some (fI 1), none]) (st_q := [fI ka, .ref 25]) (h_q := h_707) (cl_q := 0) (sl_q := 0) rfl ?_
  refine ik_Wk 2 (pc_q := 25) (loc_q := [some (.ref 17), some (fI p), some (fI 3), some (.ref 46), some (fI 1), none]) (st_q := [fI 1, fI p, fI ka, .ref 25]) (h_q := h_707) (cl_q := 0) (sl_q := 0) rfl ?_
  refine fw_add rfl ?_
  refine fw_call 30 3 0 [.ref 25, fI ka, fI (p + 1)] [] rfl rfl rfl (Nat.le_of_ble_eq_true rfl) rfl rfl (fw_rec k_707 rfl (mf_cr_o g_707_25).choose_spec rfl (by decide +kernel)) (cs_setIn (C := 25) (pl := pl) (lo := lo) (s := s) (kd := ka) (qp := p + 1) (W := W) (by omega) (by omega) (by omega) g_707_7 g_707_25 k_707) ?_
  rintro _ h_708 ⟨rfl, e_708_C, F_708⟩
  have k_708 : cL h_708 := F_708.1.trans k_707
  have fr_708 := hfr_cb fr_707 F_708 rfl
  have g_708_7 := (hfr_g F_708 7 rfl).trans g_707_7
  have g_708_11 := (hfr_g F_708 11 rfl).trans g_707_11
  have g_708_12 := (hfr_g F_708 12 rfl).trans g_707_12
  have g_708_13 := (hfr_g F_708 13 rfl).trans g_707_13
  have g_708_15 := (hfr_g F_708 15 rfl).trans g_707_15
  have g_708_17 := (hfr_g F_708 17 rfl).trans g_707_17
  have g_708_18 := (hfr_g F_708 18 rfl).trans g_707_18
  have g_708_19 := (hfr_g F_708 19 rfl).trans g_707_19
  have g_708_21 := mf_cv_f g_707_21 (hfr_g F_708 21 rfl) (hfr_g F_708 22 rfl) (hfr_g F_708 23 rfl) (hfr_g F_708 24 rfl)
  have g_708_29 := mf_cr_f g_707_29 (hfr_g F_708 29 rfl) (hfr_g F_708 30 rfl) (hfr_g F_708 31 rfl) (hfr_g F_708 32 rfl)
  have g_708_33 := mf_cv_f g_707_33 (hfr_g F_708 33 rfl) (hfr_g F_708 34 rfl) (hfr_g F_708 35 rfl) (hfr_g F_708 36 rfl)
  have g_708_37 := mf_cr_f g_707_37 (hfr_g F_708 37 rfl) (hfr_g F_708 38 rfl) (hfr_g F_708 39 rfl) (hfr_g F_708 40 rfl)
  have g_708_41 := mf_cr_f g_707_41 (hfr_g F_708 41 rfl) (hfr_g F_708 42 rfl) (hfr_g F_708 43 rfl) (hfr_g F_708 44 rfl)
  have g_708_46 := (hfr_g F_708 46 rfl).trans g_707_46
  have g_708_25 : mf_cv h_708 25 W pl ka (p + 1) 0 := e_708_C
  refine ik_Wk 0 (pc_q := 29) (loc_q := [some (.ref 17), some (fI p), some (fI 3), some (.ref 46), some (fI 1), none]) (st_q := [.ref 25]) (h_q := h_708) (cl_q := 0) (sl_q := 0) rfl ?_
  refine ik_Wk 2 (pc_q := 31) (loc_q := [some (.ref 17), some (fI p), some (fI 3), some (.ref 46), some (fI 1), none]) (st_q := [.ref 17]) (h_q := h_708) (cl_q := 0) (sl_q := 0) rfl ?_
  refine fw_gf rfl rfl g_708_17 rfl ?_
  refine ik_Wk 2 (pc_q := 37) (loc_q := [some (.ref 17), some (fI p), some (fI 3), some (.ref 46), some (fI 1), none]) (st_q := [fI 1, fI 3, .ref 18]) (h_q := h_708) (cl_q := 0) (sl_q := 0) rfl ?_
  refine fw_add rfl ?_
  refine fx_aal (z := 4) rfl g_708_18 (by decide +kernel) (by decide +kernel) rfl ?_
  refine ik_Wk 1 (pc_q := 40) (loc_q := [some (.ref 17), some (fI p), some (fI 3), some (.ref 46), some (fI 1), none]) (st_q := [.ref 17, .ref 37]) (h_q := h_708) (cl_q := 0) (sl_q := 0) rfl ?_
  refine fw_gf rfl rfl g_708_17 rfl ?_
  refine ik_Wk 1 (pc_q := 44) (loc_q := [some (.ref 17), some (fI p), some (fI 3), some (.ref 46), some (fI 1), none]) (st_q := [fI 3, .ref 15, .ref 37]) (h_q := h_708) (cl_q := 0) (sl_q := 0) rfl ?_
  refine fw_ial (z := 3) rfl g_708_15 (by decide +kernel) (Nat.le_of_ble_eq_true rfl) (by decide +kernel) ?_
  refine ik_Wk 0 (pc_q := 45) (loc_q := [some (.ref 17), some (fI p), some (fI 3), some (.ref 46), some (fI 1), none]) (st_q := [fI kb, .ref 37]) (h_q := h_708) (cl_q := 0) (sl_q := 0) rfl ?_
  refine ik_Wk 2 (pc_q := 48) (loc_q := [some (.ref 17), some (fI p), some (fI 3), some (.ref 46), some (fI 1), none]) (st_q := [fI 1, fI p, fI kb, .ref 37]) (h_q := h_708) (cl_q := 0) (sl_q := 0) rfl ?_
  refine fw_add rfl ?_
  refine fw_call 30 3 0 [.ref 37, fI kb, fI (p + 1)] [] rfl rfl rfl (Nat.le_of_ble_eq_true rfl) rfl rfl (fw_rec k_708 rfl (mf_cr_o g_708_37).choose_spec rfl (by decide +kernel)) (cs_setIn (C := 37) (pl := pl) (lo := lo) (s := s) (kd := kb) (qp := p + 1) (W := W) (by omega) (by omega) (by omega) g_708_7 g_708_37 k_708) ?_
  rintro _ h_709 ⟨rfl, e_709_C, F_709⟩
  have k_709 : cL h_709 := F_709.1.trans k_708
  have fr_709 := hfr_cb fr_708 F_709 rfl
  have g_709_7 := (hfr_g F_709 7 rfl).trans g_708_7
  have g_709_11 := (hfr_g F_709 11 rfl).trans g_708_11
  have g_709_12 := (hfr_g F_709 12 rfl).trans g_708_12
  have g_709_13 := (hfr_g F_709 13 rfl).trans g_708_13
  have g_709_15 := (hfr_g F_709 15 rfl).trans g_708_15
  have g_709_17 := (hfr_g F_709 17 rfl).trans g_708_17
  have g_709_18 := (hfr_g F_709 18 rfl).trans g_708_18
  have g_709_19 := (hfr_g F_709 19 rfl).trans g_708_19
  have g_709_21 := mf_cv_f g_708_21 (hfr_g F_709 21 rfl) (hfr_g F_709 22 rfl) (hfr_g F_709 23 rfl) (hfr_g F_709 24 rfl)
  have g_709_25 := mf_cv_f g_708_25 (hfr_g F_709 25 rfl) (hfr_g F_709 26 rfl) (hfr_g F_709 27 rfl) (hfr_g F_709 28 rfl)
  have g_709_29 := mf_cr_f g_708_29 (hfr_g F_709 29 rfl) (hfr_g F_709 30 rfl) (hfr_g F_709 31 rfl) (hfr_g F_709 32 rfl)
  have g_709_33 := mf_cv_f g_708_33 (hfr_g F_709 33 rfl) (hfr_g F_709 34 rfl) (hfr_g F_709 35 rfl) (hfr_g F_709 36 rfl)
  have g_709_41 := mf_cr_f g_708_41 (hfr_g F_709 41 rfl) (hfr_g F_709 42 rfl) (hfr_g F_709 43 rfl) (hfr_g F_709 44 rfl)
  have g_709_46 := (hfr_g F_709 46 rfl).trans g_708_46
  have g_709_37 : mf_cv h_709 37 W pl kb (p + 1) 0 := e_709_C
  refine ik_Wk 0 (pc_q := 52) (loc_q := [some (.ref 17), some (fI p), some (fI 3), some (.ref 46), some (fI 1), none]) (st_q := [.ref 37]) (h_q := h_709) (cl_q := 0) (sl_q := 0) rfl ?_
  refine ik_Wk 1 (pc_q := 53) (loc_q := [some (.ref 17), some (fI p), some (fI 3), some (.ref 46), some (fI 1), none]) (st_q := []) (h_q := h_709) (cl_q := 0) (sl_q := 0) rfl ?_
  refine fw_inc (a := 1) (loc_q := [some (.ref 17), some (fI p), some (fI 3), some (.ref 46), some (fI 2), none]) rfl rfl (Nat.le_of_ble_eq_true rfl) rfl ?_
  refine ik_Wk 3 (pc_q := 6) (loc_q := [some (.ref 17), some (fI p), some (fI 3), some (.ref 46), some (fI 2), none]) (st_q := [fI 3, fI 2]) (h_q := h_709) (cl_q := 0) (sl_q := 0) rfl ?_
  refine fw_ic_ge rfl rfl (by decide +kernel) (by decide +kernel) (by decide +kernel) (by decide +kernel) (fun hc3 => absurd hc3 (by decide +kernel)) (fun hc3 => ?_)
  refine ik_Wk 1 (pc_q := 10) (loc_q := [some (.ref 17), some (fI p), some (fI 3), some (.ref 46), some (fI 2), none]) (st_q := [.ref 17]) (h_q := h_709) (cl_q := 0) (sl_q := 0) rfl ?_
  refine fw_gf rfl rfl g_709_17 rfl ?_
  refine ik_Wk 1 (pc_q := 15) (loc_q := [some (.ref 17), some (fI p), some (fI 3), some (.ref 46), some (fI 2), none]) (st_q := [fI 2, .ref 18]) (h_q := h_709) (cl_q := 0) (sl_q := 0) rfl ?_
  refine fx_aal (z := 2) rfl g_709_18 (by decide +kernel) (by decide +kernel) rfl ?_
  refine ik_Wk 1 (pc_q := 17) (loc_q := [some (.ref 17), some (fI p), some (fI 3), some (.ref 46), some (fI 2), none]) (st_q := [.ref 17, .ref 29]) (h_q := h_709) (cl_q := 0) (sl_q := 0) rfl ?_
  refine fw_gf rfl rfl g_709_17 rfl ?_
  refine ik_Wk 1 (pc_q := 21) (loc_q := [some (.ref 17), some (fI p), some (fI 3), some (.ref 46), some (fI 2), none]) (st_q := [fI 0, .ref 15, .ref 29]) (h_q := h_709) (cl_q := 0) (sl_q := 0) rfl ?_
  refine fw_ial (z := 0) rfl g_709_15 (by decide +kernel) (Nat.le_of_ble_eq_true rfl) (by decide +kernel) ?_
  refine ik_Wk 0 (pc_q := 22) (loc_q := [some (.ref 17), some (fI p), some (fI 3), some (.ref 46), some (fI 2), none]) (st_q := [fI ka, .ref 29]) (h_q := h_709) (cl_q := 0) (sl_q := 0) rfl ?_
  refine ik_Wk 2 (pc_q := 25) (loc_q := [some (.ref 17), some (fI p), some (fI 3), some (.ref 46), some (fI 2), none]) (st_q := [fI 2, fI p, fI ka, .ref 29]) (h_q := h_709) (cl_q := 0) (sl_q := 0) rfl ?_
  refine fw_add rfl ?_
  refine fw_call 30 3 0 [.ref 29, fI ka, fI (p + 2)] [] rfl rfl rfl (Nat.le_of_ble_eq_true rfl) rfl rfl (fw_rec k_709 rfl (mf_cr_o g_709_29).choose_spec rfl (by decide +kernel)) (cs_setIn (C := 29) (pl := pl) (lo := lo) (s := s) (kd := ka) (qp := p + 2) (W := W) (by omega) (by omega) (by omega) g_709_7 g_709_29 k_709) ?_
  rintro _ h_710 ⟨rfl, e_710_C, F_710⟩
  have k_710 : cL h_710 := F_710.1.trans k_709
  have fr_710 := hfr_cb fr_709 F_710 rfl
  have g_710_7 := (hfr_g F_710 7 rfl).trans g_709_7
  have g_710_11 := (hfr_g F_710 11 rfl).trans g_709_11
  have g_710_12 := (hfr_g F_710 12 rfl).trans g_709_12
  have g_710_13 := (hfr_g F_710 13 rfl).trans g_709_13
  have g_710_15 := (hfr_g F_710 15 rfl).trans g_709_15
  have g_710_17 := (hfr_g F_710 17 rfl).trans g_709_17
  have g_710_18 := (hfr_g F_710 18 rfl).trans g_709_18
  have g_710_19 := (hfr_g F_710 19 rfl).trans g_709_19
  have g_710_21 := mf_cv_f g_709_21 (hfr_g F_710 21 rfl) (hfr_g F_710 22 rfl) (hfr_g F_710 23 rfl) (hfr_g F_710 24 rfl)
  have g_710_25 := mf_cv_f g_709_25 (hfr_g F_710 25 rfl) (hfr_g F_710 26 rfl) (hfr_g F_710 27 rfl) (hfr_g F_710 28 rfl)
  have g_710_33 := mf_cv_f g_709_33 (hfr_g F_710 33 rfl) (hfr_g F_710 34 rfl) (hfr_g F_710 35 rfl) (hfr_g F_710 36 rfl)
  have g_710_37 := mf_cv_f g_709_37 (hfr_g F_710 37 rfl) (hfr_g F_710 38 rfl) (hfr_g F_710 39 rfl) (hfr_g F_710 40 rfl)
  have g_710_41 := mf_cr_f g_709_41 (hfr_g F_710 41 rfl) (hfr_g F_710 42 rfl) (hfr_g F_710 43 rfl) (hfr_g F_710 44 rfl)
  have g_710_46 := (hfr_g F_710 46 rfl).trans g_709_46
  have g_710_29 : mf_cv h_710 29 W pl ka (p + 2) 0 := e_710_C
  refine ik_Wk 0 (pc_q := 29) (loc_q := [some (.ref 17), some (fI p), some (fI 3), some (.ref 46), some (fI 2), none]) (st_q := [.ref 29]) (h_q := h_710) (cl_q := 0) (sl_q := 0) rfl ?_
  refine ik_Wk 2 (pc_q := 31) (loc_q := [some (.ref 17), some (fI p), some (fI 3), some (.ref 46), some (fI 2), none]) (st_q := [.ref 17]) (h_q := h_710) (cl_q := 0) (sl_q := 0) rfl ?_
  refine fw_gf rfl rfl g_710_17 rfl ?_
  refine ik_Wk 2 (pc_q := 37) (loc_q := [some (.ref 17), some (fI p), some (fI 3), some (.ref 46), some (fI 2), none]) (st_q := [fI 2, fI 3, .ref 18]) (h_q := h_710) (cl_q := 0) (sl_q := 0) rfl ?_
  refine fw_add rfl ?_
  refine fx_aal (z := 5) rfl g_710_18 (by decide +kernel) (by decide +kernel) rfl ?_
  refine ik_Wk 1 (pc_q := 40) (loc_q := [some (.ref 17), some (fI p), some (fI 3), some (.ref 46), some (fI 2), none]) (st_q := [.ref 17, .ref 41]) (h_q := h_710) (cl_q := 0) (sl_q := 0) rfl ?_
  refine fw_gf rfl rfl g_710_17 rfl ?_
  refine ik_Wk 1 (pc_q := 44) (loc_q := [some (.ref 17), some (fI p), some (fI 3), some (.ref 46), some (fI 2), none]) (st_q := [fI 3, .ref 15, .ref 41]) (h_q := h_710) (cl_q := 0) (sl_q := 0) rfl ?_
  refine fw_ial (z := 3) rfl g_710_15 (by decide +kernel) (Nat.le_of_ble_eq_true rfl) (by decide +kernel) ?_
  refine ik_Wk 0 (pc_q := 45) (loc_q := [some (.ref 17), some (fI p), some (fI 3), some (.ref 46), some (fI 2), none]) (st_q := [fI kb, .ref 41]) (h_q := h_710) (cl_q := 0) (sl_q := 0) rfl ?_
  refine ik_Wk 2 (pc_q := 48) (loc_q := [some (.ref 17), some (fI p), some (fI 3), some (.ref 46), some (fI 2), none]) (st_q := [fI 2, fI p, fI kb, .ref 41]) (h_q := h_710) (cl_q := 0) (sl_q := 0) rfl ?_
  refine fw_add rfl ?_
  refine fw_call 30 3 0 [.ref 41, fI kb, fI (p + 2)] [] rfl rfl rfl (Nat.le_of_ble_eq_true rfl) rfl rfl (fw_rec k_710 rfl (mf_cr_o g_710_41).choose_spec rfl (by decide +kernel)) (cs_setIn (C := 41) (pl := pl) (lo := lo) (s := s) (kd := kb) (qp := p + 2) (W := W) (by omega) (by omega) (by omega) g_710_7 g_710_41 k_710) ?_
  rintro _ h_711 ⟨rfl, e_711_C, F_711⟩
  have k_711 : cL h_711 := F_711.1.trans k_710
  have fr_711 := hfr_cb fr_710 F_711 rfl
  have g_711_7 := (hfr_g F_711 7 rfl).trans g_710_7
  have g_711_11 := (hfr_g F_711 11 rfl).trans g_710_11
  have g_711_12 := (hfr_g F_711 12 rfl).trans g_710_12
  have g_711_13 := (hfr_g F_711 13 rfl).trans g_710_13
  have g_711_15 := (hfr_g F_711 15 rfl).trans g_710_15
  have g_711_17 := (hfr_g F_711 17 rfl).trans g_710_17
  have g_711_18 := (hfr_g F_711 18 rfl).trans g_710_18
  have g_711_19 := (hfr_g F_711 19 rfl).trans g_710_19
  have g_711_21 := mf_cv_f g_710_21 (hfr_g F_711 21 rfl) (hfr_g F_711 22 rfl) (hfr_g F_711 23 rfl) (hfr_g F_711 24 rfl)
  have g_711_25 := mf_cv_f g_710_25 (hfr_g F_711 25 rfl) (hfr_g F_711 26 rfl) (hfr_g F_711 27 rfl) (hfr_g F_711 28 rfl)
  have g_711_29 := mf_cv_f g_710_29 (hfr_g F_711 29 rfl) (hfr_g F_711 30 rfl) (hfr_g F_711 31 rfl) (hfr_g F_711 32 rfl)
  have g_711_33 := mf_cv_f g_710_33 (hfr_g F_711 33 rfl) (hfr_g F_711 34 rfl) (hfr_g F_711 35 rfl) (hfr_g F_711 36 rfl)
  have g_711_37 := mf_cv_f g_710_37 (hfr_g F_711 37 rfl) (hfr_g F_711 38 rfl) (hfr_g F_711 39 rfl) (hfr_g F_711 40 rfl)
  have g_711_46 := (hfr_g F_711 46 rfl).trans g_710_46
  have g_711_41 : mf_cv h_711 41 W pl kb (p + 2) 0 := e_711_C
  refine ik_Wk 0 (pc_q := 52) (loc_q := [some (.ref 17), some (fI p), some (fI 3), some (.ref 46), some (fI 2), none]) (st_q := [.ref 41]) (h_q := h_711) (cl_q := 0) (sl_q := 0) rfl ?_
  refine ik_Wk 1 (pc_q := 53) (loc_q := [some (.ref 17), some (fI p), some (fI 3), some (.ref 46), some (fI 2), none]) (st_q := []) (h_q := h_711) (cl_q := 0) (sl_q := 0) rfl ?_
  refine fw_inc (a := 2) (loc_q := [some (.ref 17), some (fI p), some (fI 3), some (.ref 46), some (fI 3), none]) rfl rfl (Nat.le_of_ble_eq_true rfl) rfl ?_
  refine ik_Wk 3 (pc_q := 6) (loc_q := [some (.ref 17), some (fI p), some (fI 3), some (.ref 46), some (fI 3), none]) (st_q := [fI 3, fI 3]) (h_q := h_711) (cl_q := 0) (sl_q := 0) rfl ?_
  refine fw_ic_ge rfl rfl (by decide +kernel) (by decide +kernel) (by decide +kernel) (by decide +kernel) (fun hc4 => ?_) (fun hc4 => absurd hc4 (by decide +kernel))
  refine ik_Wk 4 (pc_q := 65) (loc_q := [some (.ref 17), some (fI p), some (fI 3), some (.ref 46), some (fI 0), none]) (st_q := [fI 3, fI 0]) (h_q := h_711) (cl_q := 0) (sl_q := 0) rfl ?_
  refine fw_ic_ge rfl rfl (by decide +kernel) (by decide +kernel) (by decide +kernel) (by decide +kernel) (fun hc5 => absurd hc5 (by decide +kernel)) (fun hc5 => ?_)
  refine ik_Wk 4 (pc_q := 74) (loc_q := [some (.ref 17), some (fI p), some (fI 3), some (.ref 46), some (fI 0), some (fI 0)]) (st_q := [fI 3, fI 0]) (h_q := h_711) (cl_q := 0) (sl_q := 0) rfl ?_
  refine fw_ic_ge rfl rfl (by decide +kernel) (by decide +kernel) (by decide +kernel) (by decide +kernel) (fun hc6 => absurd hc6 (by decide +kernel)) (fun hc6 => ?_)
  refine ik_Wk 2 (pc_q := 79) (loc_q := [some (.ref 17), some (fI p), some (fI 3), some (.ref 46), some (fI 0), some (fI 0)]) (st_q := [.ref 17, .ref 17]) (h_q := h_711) (cl_q := 0) (sl_q := 0) rfl ?_
  refine fw_gf rfl rfl g_711_17 rfl ?_
  refine ik_Wk 1 (pc_q := 84) (loc_q := [some (.ref 17), some (fI p), some (fI 3), some (.ref 46), some (fI 0), some (fI 0)]) (st_q := [fI 0, .ref 18, .ref 17]) (h_q := h_711) (cl_q := 0) (sl_q := 0) rfl ?_
  refine fx_aal (z := 0) rfl g_711_18 (by decide +kernel) (by decide +kernel) rfl ?_
  refine ik_Wk 2 (pc_q := 87) (loc_q := [some (.ref 17), some (fI p), some (fI 3), some (.ref 46), some (fI 0), some (fI 0)]) (st_q := [.ref 17, fI 0, .ref 21, .ref 17]) (h_q := h_711) (cl_q := 0) (sl_q := 0) rfl ?_
  refine fw_gf rfl rfl g_711_17 rfl ?_
  refine ik_Wk 2 (pc_q := 93) (loc_q := [some (.ref 17), some (fI p), some (fI 3), some (.ref 46), some (fI 0), some (fI 0)]) (st_q := [fI 0, fI 3, .ref 18, fI 0, .ref 21, .ref 17]) (h_q := h_711) (cl_q := 0) (sl_q := 0) rfl ?_
  refine fw_add rfl ?_
  refine fx_aal (z := 3) rfl g_711_18 (by decide +kernel) (by decide +kernel) rfl ?_
  refine ik_Wk 1 (pc_q := 96) (loc_q := [some (.ref 17), some (fI p), some (fI 3), some (.ref 46), some (fI 0), some (fI 0)]) (st_q := [fI 0, .ref 33, fI 0, .ref 21, .ref 17]) (h_q := h_711) (cl_q := 0) (sl_q := 0) rfl ?_
  refine fw_ld 1000000 rfl rfl (by decide +kernel) ?_
  refine fw_call 80 6 0 [.ref 17, .ref 21, fI 0, .ref 33, fI 0, fI 1000000] [] rfl rfl rfl (Nat.le_of_ble_eq_true rfl) rfl rfl (fw_rec k_711 rfl g_711_17 rfl (Nat.le_of_ble_eq_true rfl)) (cs_race (C := 21) (E := 33) (pl := pl) (lo := lo) (s := s) (ka := ka) (pa := (p + 0)) (ma := 0) (kb := kb) (pb := (p + 0)) (mb := 0) (ua := 0) (ub := 0) (lim := 1000000) (bo := bo) (la := la) (lb := lb) (wg := wg) (wc := wc) (we := we) (W := W) (by omega) (by omega) (by omega) (by omega) (by omega) (by omega) (by omega) q3 q4 g_711_7 g_711_11 n11 g_711_12 n12 g_711_13 n13 g_711_17 g_711_19 g_711_21 g_711_33 k_711) ?_
  rintro _ h_712 ⟨l0_712, l1_712, l2_712, ua'_712, ub'_712, rfl, e_712_17, e_712_19, e_712_C, e_712_E, p_712_0, p_712_1, F_712⟩
  have k_712 : cL h_712 := F_712.1.trans k_711
  have fr_712 := hfr_cb fr_711 F_712 rfl
  have g_712_7 := (hfr_g F_712 7 rfl).trans g_711_7
  have g_712_11 := (hfr_g F_712 11 rfl).trans g_711_11
  have g_712_12 := (hfr_g F_712 12 rfl).trans g_711_12
  have g_712_13 := (hfr_g F_712 13 rfl).trans g_711_13
  have g_712_15 := (hfr_g F_712 15 rfl).trans g_711_15
  have g_712_18 := (hfr_g F_712 18 rfl).trans g_711_18
  have g_712_25 := mf_cv_f g_711_25 (hfr_g F_712 25 rfl) (hfr_g F_712 26 rfl) (hfr_g F_712 27 rfl) (hfr_g F_712 28 rfl)
  have g_712_29 := mf_cv_f g_711_29 (hfr_g F_712 29 rfl) (hfr_g F_712 30 rfl) (hfr_g F_712 31 rfl) (hfr_g F_712 32 rfl)
  have g_712_37 := mf_cv_f g_711_37 (hfr_g F_712 37 rfl) (hfr_g F_712 38 rfl) (hfr_g F_712 39 rfl) (hfr_g F_712 40 rfl)
  have g_712_41 := mf_cv_f g_711_41 (hfr_g F_712 41 rfl) (hfr_g F_712 42 rfl) (hfr_g F_712 43 rfl) (hfr_g F_712 44 rfl)
  have g_712_46 := (hfr_g F_712 46 rfl).trans g_711_46
  have g_712_17 : cE h_712 17 (.inr (8, [.ref 7, .ref 15, .ref 18, .ref 19, fJ l2_712, .ref 20])) := e_712_17
  have g_712_19 : cE h_712 19 (.inl (.long, fL [l0_712, l1_712])) := e_712_19
  have g_712_21 : mf_cv h_712 21 W pl ka (p + 0) ua'_712 := e_712_C
  have g_712_33 : mf_cv h_712 33 W pl kb (p + 0) ub'_712 := e_712_E
  refine ik_Wk 0 (pc_q := 101) (loc_q := [some (.ref 17), some (fI p), some (fI 3), some (.ref 46), some (fI 0), some (fI 0)]) (st_q := []) (h_q := h_712) (cl_q := 0) (sl_q := 0) rfl ?_
  refine ik_Wk 3 (pc_q := 105) (loc_q := [some (.ref 17), some (fI p), some (fI 3), some (.ref 46), some (fI 0), some (fI 0)]) (st_q := [fI 3, fI 0, .ref 46]) (h_q := h_712) (cl_q := 0) (sl_q := 0) rfl ?_
  refine fw_mul rfl ?_
  refine ik_Wk 1 (pc_q := 108) (loc_q := [some (.ref 17), some (fI p), some (fI 3), some (.ref 46), some (fI 0), some (fI 0)]) (st_q := [fI 0, fI 0, .ref 46]) (h_q := h_712) (cl_q := 0) (sl_q := 0) rfl ?_
  refine fw_add rfl ?_
  refine ik_Wk 2 (pc_q := 111) (loc_q := [some (.ref 17), some (fI p), some (fI 3), some (.ref 46), some (fI 0), some (fI 0)]) (st_q := [fI 0, .ref 17, fI 0, .ref 46]) (h_q := h_712) (cl_q := 0) (sl_q := 0) rfl ?_
  refine ik_Wc 74 2 0 [.ref 17, fI 0] [fI 0, .ref 46] rfl rfl rfl (by decide +kernel) rfl rfl (fw_rec k_712 rfl g_712_17 rfl (Nat.le_of_ble_eq_true rfl)) ?_
  refine ik_Wk 0 (pc_q := 0) (loc_q := [some (.ref 17), some (fI 0)]) (st_q := []) (h_q := h_712) (cl_q := 0) (sl_q := 0) rfl ?_
  refine ik_Wk 1 (pc_q := 1) (loc_q := [some (.ref 17), some (fI 0)]) (st_q := [.ref 17]) (h_q := h_712) (cl_q := 0) (sl_q := 0) rfl ?_
  refine fw_gf rfl rfl g_712_17 rfl ?_
  refine ik_Wk 1 (pc_q := 5) (loc_q := [some (.ref 17), some (fI 0)]) (st_q := [fI 0, .ref 19]) (h_q := h_712) (cl_q := 0) (sl_q := 0) rfl ?_
  refine fx_lal (z := 0) rfl g_712_19 (by decide +kernel) (Nat.le_of_ble_eq_true rfl) (by decide +kernel) ?_
  refine ik_Wk 0 (pc_q := 6) (loc_q := [some (.ref 17), some (fI 0)]) (st_q := [fJ l0_712]) (h_q := h_712) (cl_q := 0) (sl_q := 0) rfl ?_
  refine fw_l2 1000 rfl rfl (by decide +kernel) ?_
  refine fx_ldiv rfl (by omega) (by omega) (by omega) (by omega) ?_
  refine fx_l2i rfl ?_
  refine ik_Wret rfl rfl ⟨_, _, rfl, rfl, ?_⟩
  refine ik_Wk 0 (pc_q := 114) (loc_q := [some (.ref 17), some (fI p), some (fI 3), some (.ref 46), some (fI 0), some (fI 0)]) (st_q := [fI (l0_712 / 1000), fI 0, .ref 46]) (h_q := h_712) (cl_q := 0) (sl_q := 0) rfl ?_
  refine fw_si rfl (by decide +kernel) ?_
  refine fx_idiv rfl (by omega) (by omega) (by omega) (by omega) ?_
  have hl7 : (fe.set (0 : Int).toNat ((l0_712 / 1000) / 1000)).length = 9 := (List.length_set ..).trans n46
  refine fx_ias rfl g_712_46 (by omega) (by omega) (by omega) ?_
  intro h_713 e_713 f_713 l_713
  have k_713 : cL h_713 := l_713.trans k_712
  have fr_713 := hfr_wb fr_712 f_713 l_713 rfl
  clear l_713
  have g_713_7 := (f_713 7 (Nat.ne_of_beq_eq_false rfl)).trans g_712_7
  have g_713_11 := (f_713 11 (Nat.ne_of_beq_eq_false rfl)).trans g_712_11
  have g_713_12 := (f_713 12 (Nat.ne_of_beq_eq_false rfl)).trans g_712_12
  have g_713_13 := (f_713 13 (Nat.ne_of_beq_eq_false rfl)).trans g_712_13
  have g_713_15 := (f_713 15 (Nat.ne_of_beq_eq_false rfl)).trans g_712_15
  have g_713_17 := (f_713 17 (Nat.ne_of_beq_eq_false rfl)).trans g_712_17
  have g_713_18 := (f_713 18 (Nat.ne_of_beq_eq_false rfl)).trans g_712_18
  have g_713_19 := (f_713 19 (Nat.ne_of_beq_eq_false rfl)).trans g_712_19
  have g_713_21 := mf_cv_f g_712_21 (f_713 21 (Nat.ne_of_beq_eq_false rfl)) (f_713 22 (Nat.ne_of_beq_eq_false rfl)) (f_713 23 (Nat.ne_of_beq_eq_false rfl)) (f_713 24 (Nat.ne_of_beq_eq_false rfl))
  have g_713_25 := mf_cv_f g_712_25 (f_713 25 (Nat.ne_of_beq_eq_false rfl)) (f_713 26 (Nat.ne_of_beq_eq_false rfl)) (f_713 27 (Nat.ne_of_beq_eq_false rfl)) (f_713 28 (Nat.ne_of_beq_eq_false rfl))
  have g_713_29 := mf_cv_f g_712_29 (f_713 29 (Nat.ne_of_beq_eq_false rfl)) (f_713 30 (Nat.ne_of_beq_eq_false rfl)) (f_713 31 (Nat.ne_of_beq_eq_false rfl)) (f_713 32 (Nat.ne_of_beq_eq_false rfl))
  have g_713_33 := mf_cv_f g_712_33 (f_713 33 (Nat.ne_of_beq_eq_false rfl)) (f_713 34 (Nat.ne_of_beq_eq_false rfl)) (f_713 35 (Nat.ne_of_beq_eq_false rfl)) (f_713 36 (Nat.ne_of_beq_eq_false rfl))
  have g_713_37 := mf_cv_f g_712_37 (f_713 37 (Nat.ne_of_beq_eq_false rfl)) (f_713 38 (Nat.ne_of_beq_eq_false rfl)) (f_713 39 (Nat.ne_of_beq_eq_false rfl)) (f_713 40 (Nat.ne_of_beq_eq_false rfl))
  have g_713_41 := mf_cv_f g_712_41 (f_713 41 (Nat.ne_of_beq_eq_false rfl)) (f_713 42 (Nat.ne_of_beq_eq_false rfl)) (f_713 43 (Nat.ne_of_beq_eq_false rfl)) (f_713 44 (Nat.ne_of_beq_eq_false rfl))
  have g_713_46 : cE h_713 46 (.inl (.int, fA (fe.set (0 : Int).toNat ((l0_712 / 1000) / 1000)))) := e_713
  have qfe1 : ∀ i : Int, 0 ≤ i → i < 9 → 0 ≤ (fe.set (0 : Int).toNat ((l0_712 / 1000) / 1000)).getD i.toNat 0 ∧ (fe.set (0 : Int).toNat ((l0_712 / 1000) / 1000)).getD i.toNat 0 ≤ 1000 := by
    intro i i0 i1
    rw [fz_getD_set]
    split
    · omega
    · exact qfe0 i i0 i1
  refine fw_inc (a := 0) (loc_q := [some (.ref 17), some (fI p), some (fI 3), some (.ref 46), some (fI 0), some (fI 1)]) rfl rfl (Nat.le_of_ble_eq_true rfl) rfl ?_
  refine ik_Wk 3 (pc_q := 74) (loc_q := [some (.ref 17), some (fI p), some (fI 3), some (.ref 46), some (fI 0), some (fI 1)]) (st_q := [fI 3, fI 1]) (h_q := h_713) (cl_q := 0) (sl_q := 0) rfl ?_
  refine fw_ic_ge rfl rfl (by decide +kernel) (by decide +kernel) (by decide +kernel) (by decide +kernel) (fun hc8 => absurd hc8 (by decide +kernel)) (fun hc8 => ?_)
  refine ik_Wk 2 (pc_q := 79) (loc_q := [some (.ref 17), some (fI p), some (fI 3), some (.ref 46), some (fI 0), some (fI 1)]) (st_q := [.ref 17, .ref 17]) (h_q := h_713) (cl_q := 0) (sl_q := 0) rfl ?_
  refine fw_gf rfl rfl g_713_17 rfl ?_
  refine ik_Wk 1 (pc_q := 84) (loc_q := [some (.ref 17), some (fI p), some (fI 3), some (.ref 46), some (fI 0), some (fI 1)]) (st_q := [fI 0, .ref 18, .ref 17]) (h_q := h_713) (cl_q := 0) (sl_q := 0) rfl ?_
  refine fx_aal (z := 0) rfl g_713_18 (by decide +kernel) (by decide +kernel) rfl ?_
  refine ik_Wk 2 (pc_q := 87) (loc_q := [some (.ref 17), some (fI p), some (fI 3), some (.ref 46), some (fI 0), some (fI 1)]) (st_q := [.ref 17, fI 0, .ref 21, .ref 17]) (h_q := h_713) (cl_q := 0) (sl_q := 0) rfl ?_
  refine fw_gf rfl rfl g_713_17 rfl ?_
  refine ik_Wk 2 (pc_q := 93) (loc_q := [some (.ref 17), some (fI p), some (fI 3), some (.ref 46), some (fI 0), some (fI 1)]) (st_q := [fI 1, fI 3, .ref 18, fI 0, .ref 21, .ref 17]) (h_q := h_713) (cl_q := 0) (sl_q := 0) rfl ?_
  refine fw_add rfl ?_
  refine fx_aal (z := 4) rfl g_713_18 (by decide +kernel) (by decide +kernel) rfl ?_
  refine ik_Wk 1 (pc_q := 96) (loc_q := [some (.ref 17), some (fI p), some (fI 3), some (.ref 46), some (fI 0), some (fI 1)]) (st_q := [fI 0, .ref 37, fI 0, .ref 21, .ref 17]) (h_q := h_713) (cl_q := 0) (sl_q := 0) rfl ?_
  refine fw_ld 1000000 rfl rfl (by decide +kernel) ?_
  refine fw_call 80 6 0 [.ref 17, .ref 21, fI 0, .ref 37, fI 0, fI 1000000] [] rfl rfl rfl (Nat.le_of_ble_eq_true rfl) rfl rfl (fw_rec k_713 rfl g_713_17 rfl (Nat.le_of_ble_eq_true rfl)) (cs_race (C := 21) (E := 37) (pl := pl) (lo := lo) (s := s) (ka := ka) (pa := (p + 0)) (ma := 0) (kb := kb) (pb := (p + 1)) (mb := 0) (ua := ua'_712) (ub := 0) (lim := 1000000) (bo := l2_712) (la := l0_712) (lb := l1_712) (wg := wg) (wc := wc) (we := we) (W := W) (by omega) (by omega) (by omega) (by omega) (by omega) (by omega) (by omega) q3 q4 g_713_7 g_713_11 n11 g_713_12 n12 g_713_13 n13 g_713_17 g_713_19 g_713_21 g_713_37 k_713) ?_
  rintro _ h_714 ⟨l0_714, l1_714, l2_714, ua'_714, ub'_714, rfl, e_714_17, e_714_19, e_714_C, e_714_E, p_714_0, p_714_1, F_714⟩
  have k_714 : cL h_714 := F_714.1.trans k_713
  have fr_714 := hfr_cb fr_713 F_714 rfl
  have g_714_7 := (hfr_g F_714 7 rfl).trans g_713_7
  have g_714_11 := (hfr_g F_714 11 rfl).trans g_713_11
  have g_714_12 := (hfr_g F_714 12 rfl).trans g_713_12
  have g_714_13 := (hfr_g F_714 13 rfl).trans g_713_13
  have g_714_15 := (hfr_g F_714 15 rfl).trans g_713_15
  have g_714_18 := (hfr_g F_714 18 rfl).trans g_713_18
  have g_714_25 := mf_cv_f g_713_25 (hfr_g F_714 25 rfl) (hfr_g F_714 26 rfl) (hfr_g F_714 27 rfl) (hfr_g F_714 28 rfl)
  have g_714_29 := mf_cv_f g_713_29 (hfr_g F_714 29 rfl) (hfr_g F_714 30 rfl) (hfr_g F_714 31 rfl) (hfr_g F_714 32 rfl)
  have g_714_33 := mf_cv_f g_713_33 (hfr_g F_714 33 rfl) (hfr_g F_714 34 rfl) (hfr_g F_714 35 rfl) (hfr_g F_714 36 rfl)
  have g_714_41 := mf_cv_f g_713_41 (hfr_g F_714 41 rfl) (hfr_g F_714 42 rfl) (hfr_g F_714 43 rfl) (hfr_g F_714 44 rfl)
  have g_714_46 := (hfr_g F_714 46 rfl).trans g_713_46
  have g_714_17 : cE h_714 17 (.inr (8, [.ref 7, .ref 15, .ref 18, .ref 19, fJ l2_714, .ref 20])) := e_714_17
  have g_714_19 : cE h_714 19 (.inl (.long, fL [l0_714, l1_714])) := e_714_19
  have g_714_21 : mf_cv h_714 21 W pl ka (p + 0) ua'_714 := e_714_C
  have g_714_37 : mf_cv h_714 37 W pl kb (p + 1) ub'_714 := e_714_E
  refine ik_Wk 0 (pc_q := 101) (loc_q := [some (.ref 17), some (fI p), some (fI 3), some (.ref 46), some (fI 0), some (fI 1)]) (st_q := []) (h_q := h_714) (cl_q := 0) (sl_q := 0) rfl ?_
  refine ik_Wk 3 (pc_q := 105) (loc_q := [some (.ref 17), some (fI p), some (fI 3), some (.ref 46), some (fI 0), some (fI 1)]) (st_q := [fI 3, fI 0, .ref 46]) (h_q := h_714) (cl_q := 0) (sl_q := 0) rfl ?_
  refine fw_mul rfl ?_
  refine ik_Wk 1 (pc_q := 108) (loc_q := [some (.ref 17), some (fI p), some (fI 3), some (.ref 46), some (fI 0), some (fI 1)]) (st_q := [fI 1, fI 0, .ref 46]) (h_q := h_714) (cl_q := 0) (sl_q := 0) rfl ?_
  refine fw_add rfl ?_
  refine ik_Wk 2 (pc_q := 111) (loc_q := [some (.ref 17), some (fI p), some (fI 3), some (.ref 46), some (fI 0), some (fI 1)]) (st_q := [fI 0, .ref 17, fI 1, .ref 46]) (h_q := h_714) (cl_q := 0) (sl_q := 0) rfl ?_
  refine ik_Wc 74 2 0 [.ref 17, fI 0] [fI 1, .ref 46] rfl rfl rfl (by decide +kernel) rfl rfl (fw_rec k_714 rfl g_714_17 rfl (Nat.le_of_ble_eq_true rfl)) ?_
  refine ik_Wk 0 (pc_q := 0) (loc_q := [some (.ref 17), some (fI 0)]) (st_q := []) (h_q := h_714) (cl_q := 0) (sl_q := 0) rfl ?_
  refine ik_Wk 1 (pc_q := 1) (loc_q := [some (.ref 17), some (fI 0)]) (st_q := [.ref 17]) (h_q := h_714) (cl_q := 0) (sl_q := 0) rfl ?_
  refine fw_gf rfl rfl g_714_17 rfl ?_
  refine ik_Wk 1 (pc_q := 5) (loc_q := [some (.ref 17), some (fI 0)]) (st_q := [fI 0, .ref 19]) (h_q := h_714) (cl_q := 0) (sl_q := 0) rfl ?_
  refine fx_lal (z := 0) rfl g_714_19 (by decide +kernel) (Nat.le_of_ble_eq_true rfl) (by decide +kernel) ?_
  refine ik_Wk 0 (pc_q := 6) (loc_q := [some (.ref 17), some (fI 0)]) (st_q := [fJ l0_714]) (h_q := h_714) (cl_q := 0) (sl_q := 0) rfl ?_
  refine fw_l2 1000 rfl rfl (by decide +kernel) ?_
  refine fx_ldiv rfl (by omega) (by omega) (by omega) (by omega) ?_
  refine fx_l2i rfl ?_
  refine ik_Wret rfl rfl ⟨_, _, rfl, rfl, ?_⟩
  refine ik_Wk 0 (pc_q := 114) (loc_q := [some (.ref 17), some (fI p), some (fI 3), some (.ref 46), some (fI 0), some (fI 1)]) (st_q := [fI (l0_714 / 1000), fI 1, .ref 46]) (h_q := h_714) (cl_q := 0) (sl_q := 0) rfl ?_
  refine fw_si rfl (by decide +kernel) ?_
  refine fx_idiv rfl (by omega) (by omega) (by omega) (by omega) ?_
  have hl9 : ((fe.set (0 : Int).toNat ((l0_712 / 1000) / 1000)).set (1 : Int).toNat ((l0_714 / 1000) / 1000)).length = 9 := (List.length_set ..).trans hl7
  refine fx_ias rfl g_714_46 (by omega) (by omega) (by omega) ?_
  intro h_715 e_715 f_715 l_715
  have k_715 : cL h_715 := l_715.trans k_714
  have fr_715 := hfr_wb fr_714 f_715 l_715 rfl
  clear l_715
  have g_715_7 := (f_715 7 (Nat.ne_of_beq_eq_false rfl)).trans g_714_7
  have g_715_11 := (f_715 11 (Nat.ne_of_beq_eq_false rfl)).trans g_714_11
  have g_715_12 := (f_715 12 (Nat.ne_of_beq_eq_false rfl)).trans g_714_12
  have g_715_13 := (f_715 13 (Nat.ne_of_beq_eq_false rfl)).trans g_714_13
  have g_715_15 := (f_715 15 (Nat.ne_of_beq_eq_false rfl)).trans g_714_15
  have g_715_17 := (f_715 17 (Nat.ne_of_beq_eq_false rfl)).trans g_714_17
  have g_715_18 := (f_715 18 (Nat.ne_of_beq_eq_false rfl)).trans g_714_18
  have g_715_19 := (f_715 19 (Nat.ne_of_beq_eq_false rfl)).trans g_714_19
  have g_715_21 := mf_cv_f g_714_21 (f_715 21 (Nat.ne_of_beq_eq_false rfl)) (f_715 22 (Nat.ne_of_beq_eq_false rfl)) (f_715 23 (Nat.ne_of_beq_eq_false rfl)) (f_715 24 (Nat.ne_of_beq_eq_false rfl))
  have g_715_25 := mf_cv_f g_714_25 (f_715 25 (Nat.ne_of_beq_eq_false rfl)) (f_715 26 (Nat.ne_of_beq_eq_false rfl)) (f_715 27 (Nat.ne_of_beq_eq_false rfl)) (f_715 28 (Nat.ne_of_beq_eq_false rfl))
  have g_715_29 := mf_cv_f g_714_29 (f_715 29 (Nat.ne_of_beq_eq_false rfl)) (f_715 30 (Nat.ne_of_beq_eq_false rfl)) (f_715 31 (Nat.ne_of_beq_eq_false rfl)) (f_715 32 (Nat.ne_of_beq_eq_false rfl))
  have g_715_33 := mf_cv_f g_714_33 (f_715 33 (Nat.ne_of_beq_eq_false rfl)) (f_715 34 (Nat.ne_of_beq_eq_false rfl)) (f_715 35 (Nat.ne_of_beq_eq_false rfl)) (f_715 36 (Nat.ne_of_beq_eq_false rfl))
  have g_715_37 := mf_cv_f g_714_37 (f_715 37 (Nat.ne_of_beq_eq_false rfl)) (f_715 38 (Nat.ne_of_beq_eq_false rfl)) (f_715 39 (Nat.ne_of_beq_eq_false rfl)) (f_715 40 (Nat.ne_of_beq_eq_false rfl))
  have g_715_41 := mf_cv_f g_714_41 (f_715 41 (Nat.ne_of_beq_eq_false rfl)) (f_715 42 (Nat.ne_of_beq_eq_false rfl)) (f_715 43 (Nat.ne_of_beq_eq_false rfl)) (f_715 44 (Nat.ne_of_beq_eq_false rfl))
  have g_715_46 : cE h_715 46 (.inl (.int, fA ((fe.set (0 : Int).toNat ((l0_712 / 1000) / 1000)).set (1 : Int).toNat ((l0_714 / 1000) / 1000)))) := e_715
  have qfe2 : ∀ i : Int, 0 ≤ i → i < 9 → 0 ≤ ((fe.set (0 : Int).toNat ((l0_712 / 1000) / 1000)).set (1 : Int).toNat ((l0_714 / 1000) / 1000)).getD i.toNat 0 ∧ ((fe.set (0 : Int).toNat ((l0_712 / 1000) / 1000)).set (1 : Int).toNat ((l0_714 / 1000) / 1000)).getD i.toNat 0 ≤ 1000 := by
    intro i i0 i1
    rw [fz_getD_set]
    split
    · omega
    · exact qfe1 i i0 i1
  refine fw_inc (a := 1) (loc_q := [some (.ref 17), some (fI p), some (fI 3), some (.ref 46), some (fI 0), some (fI 2)]) rfl rfl (Nat.le_of_ble_eq_true rfl) rfl ?_
  refine ik_Wk 3 (pc_q := 74) (loc_q := [some (.ref 17), some (fI p), some (fI 3), some (.ref 46), some (fI 0), some (fI 2)]) (st_q := [fI 3, fI 2]) (h_q := h_715) (cl_q := 0) (sl_q := 0) rfl ?_
  refine fw_ic_ge rfl rfl (by decide +kernel) (by decide +kernel) (by decide +kernel) (by decide +kernel) (fun hc10 => absurd hc10 (by decide +kernel)) (fun hc10 => ?_)
  refine ik_Wk 2 (pc_q := 79) (loc_q := [some (.ref 17), some (fI p), some (fI 3), some (.ref 46), some (fI 0), some (fI 2)]) (st_q := [.ref 17, .ref 17]) (h_q := h_715) (cl_q := 0) (sl_q := 0) rfl ?_
  refine fw_gf rfl rfl g_715_17 rfl ?_
  refine ik_Wk 1 (pc_q := 84) (loc_q := [some (.ref 17), some (fI p), some (fI 3), some (.ref 46), some (fI 0), some (fI 2)]) (st_q := [fI 0, .ref 18, .ref 17]) (h_q := h_715) (cl_q := 0) (sl_q := 0) rfl ?_
  refine fx_aal (z := 0) rfl g_715_18 (by decide +kernel) (by decide +kernel) rfl ?_
  refine ik_Wk 2 (pc_q := 87) (loc_q := [some (.ref 17), some (fI p), some (fI 3), some (.ref 46), some (fI 0), some (fI 2)]) (st_q := [.ref 17, fI 0, .ref 21, .ref 17]) (h_q := h_715) (cl_q := 0) (sl_q := 0) rfl ?_
  refine fw_gf rfl rfl g_715_17 rfl ?_
  refine ik_Wk 2 (pc_q := 93) (loc_q := [some (.ref 17), some (fI p), some (fI 3), some (.ref 46), some (fI 0), some (fI 2)]) (st_q := [fI 2, fI 3, .ref 18, fI 0, .ref 21, .ref 17]) (h_q := h_715) (cl_q := 0) (sl_q := 0) rfl ?_
  refine fw_add rfl ?_
  refine fx_aal (z := 5) rfl g_715_18 (by decide +kernel) (by decide +kernel) rfl ?_
  refine ik_Wk 1 (pc_q := 96) (loc_q := [some (.ref 17), some (fI p), some (fI 3), some (.ref 46), some (fI 0), some (fI 2)]) (st_q := [fI 0, .ref 41, fI 0, .ref 21, .ref 17]) (h_q := h_715) (cl_q := 0) (sl_q := 0) rfl ?_
  refine fw_ld 1000000 rfl rfl (by decide +kernel) ?_
  refine fw_call 80 6 0 [.ref 17, .ref 21, fI 0, .ref 41, fI 0, fI 1000000] [] rfl rfl rfl (Nat.le_of_ble_eq_true rfl) rfl rfl (fw_rec k_715 rfl g_715_17 rfl (Nat.le_of_ble_eq_true rfl)) (cs_race (C := 21) (E := 41) (pl := pl) (lo := lo) (s := s) (ka := ka) (pa := (p + 0)) (ma := 0) (kb := kb) (pb := (p + 2)) (mb := 0) (ua := ua'_714) (ub := 0) (lim := 1000000) (bo := l2_714) (la := l0_714) (lb := l1_714) (wg := wg) (wc := wc) (we := we) (W := W) (by omega) (by omega) (by omega) (by omega) (by omega) (by omega) (by omega) q3 q4 g_715_7 g_715_11 n11 g_715_12 n12 g_715_13 n13 g_715_17 g_715_19 g_715_21 g_715_41 k_715) ?_
  rintro _ h_716 ⟨l0_716, l1_716, l2_716, ua'_716, ub'_716, rfl, e_716_17, e_716_19, e_716_C, e_716_E, p_716_0, p_716_1, F_716⟩
  have k_716 : cL h_716 := F_716.1.trans k_715
  have fr_716 := hfr_cb fr_715 F_716 rfl
  have g_716_7 := (hfr_g F_716 7 rfl).trans g_715_7
  have g_716_11 := (hfr_g F_716 11 rfl).trans g_715_11
  have g_716_12 := (hfr_g F_716 12 rfl).trans g_715_12
  have g_716_13 := (hfr_g F_716 13 rfl).trans g_715_13
  have g_716_15 := (hfr_g F_716 15 rfl).trans g_715_15
  have g_716_18 := (hfr_g F_716 18 rfl).trans g_715_18
  have g_716_25 := mf_cv_f g_715_25 (hfr_g F_716 25 rfl) (hfr_g F_716 26 rfl) (hfr_g F_716 27 rfl) (hfr_g F_716 28 rfl)
  have g_716_29 := mf_cv_f g_715_29 (hfr_g F_716 29 rfl) (hfr_g F_716 30 rfl) (hfr_g F_716 31 rfl) (hfr_g F_716 32 rfl)
  have g_716_33 := mf_cv_f g_715_33 (hfr_g F_716 33 rfl) (hfr_g F_716 34 rfl) (hfr_g F_716 35 rfl) (hfr_g F_716 36 rfl)
  have g_716_37 := mf_cv_f g_715_37 (hfr_g F_716 37 rfl) (hfr_g F_716 38 rfl) (hfr_g F_716 39 rfl) (hfr_g F_716 40 rfl)
  have g_716_46 := (hfr_g F_716 46 rfl).trans g_715_46
  have g_716_17 : cE h_716 17 (.inr (8, [.ref 7, .ref 15, .ref 18, .ref 19, fJ l2_716, .ref 20])) := e_716_17
  have g_716_19 : cE h_716 19 (.inl (.long, fL [l0_716, l1_716])) := e_716_19
  have g_716_21 : mf_cv h_716 21 W pl ka (p + 0) ua'_716 := e_716_C
  have g_716_41 : mf_cv h_716 41 W pl kb (p + 2) ub'_716 := e_716_E
  refine ik_Wk 0 (pc_q := 101) (loc_q := [some (.ref 17), some (fI p), some (fI 3), some (.ref 46), some (fI 0), some (fI 2)]) (st_q := []) (h_q := h_716) (cl_q := 0) (sl_q := 0) rfl ?_
  refine ik_Wk 3 (pc_q := 105) (loc_q := [some (.ref 17), some (fI p), some (fI 3), some (.ref 46), some (fI 0), some (fI 2)]) (st_q := [fI 3, fI 0, .ref 46]) (h_q := h_716) (cl_q := 0) (sl_q := 0) rfl ?_
  refine fw_mul rfl ?_
  refine ik_Wk 1 (pc_q := 108) (loc_q := [some (.ref 17), some (fI p), some (fI 3), some (.ref 46), some (fI 0), some (fI 2)]) (st_q := [fI 2, fI 0, .ref 46]) (h_q := h_716) (cl_q := 0) (sl_q := 0) rfl ?_
  refine fw_add rfl ?_
  refine ik_Wk 2 (pc_q := 111) (loc_q := [some (.ref 17), some (fI p), some (fI 3), some (.ref 46), some (fI 0), some (fI 2)]) (st_q := [fI 0, .ref 17, fI 2, .ref 46]) (h_q := h_716) (cl_q := 0) (sl_q := 0) rfl ?_
  refine ik_Wc 74 2 0 [.ref 17, fI 0] [fI 2, .ref 46] rfl rfl rfl (by decide +kernel) rfl rfl (fw_rec k_716 rfl g_716_17 rfl (Nat.le_of_ble_eq_true rfl)) ?_
  refine ik_Wk 0 (pc_q := 0) (loc_q := [some (.ref 17), some (fI 0)]) (st_q := []) (h_q := h_716) (cl_q := 0) (sl_q := 0) rfl ?_
  refine ik_Wk 1 (pc_q := 1) (loc_q := [some (.ref 17), some (fI 0)]) (st_q := [.ref 17]) (h_q := h_716) (cl_q := 0) (sl_q := 0) rfl ?_
  refine fw_gf rfl rfl g_716_17 rfl ?_
  refine ik_Wk 1 (pc_q := 5) (loc_q := [some (.ref 17), some (fI 0)]) (st_q := [fI 0, .ref 19]) (h_q := h_716) (cl_q := 0) (sl_q := 0) rfl ?_
  refine fx_lal (z := 0) rfl g_716_19 (by decide +kernel) (Nat.le_of_ble_eq_true rfl) (by decide +kernel) ?_
  refine ik_Wk 0 (pc_q := 6) (loc_q := [some (.ref 17), some (fI 0)]) (st_q := [fJ l0_716]) (h_q := h_716) (cl_q := 0) (sl_q := 0) rfl ?_
  refine fw_l2 1000 rfl rfl (by decide +kernel) ?_
  refine fx_ldiv rfl (by omega) (by omega) (by omega) (by omega) ?_
  refine fx_l2i rfl ?_
  refine ik_Wret rfl rfl ⟨_, _, rfl, rfl, ?_⟩
  refine ik_Wk 0 (pc_q := 114) (loc_q := [some (.ref 17), some (fI p), some (fI 3), some (.ref 46), some (fI 0), some (fI 2)]) (st_q := [fI (l0_716 / 1000), fI 2, .ref 46]) (h_q := h_716) (cl_q := 0) (sl_q := 0) rfl ?_
  refine fw_si rfl (by decide +kernel) ?_
  refine fx_idiv rfl (by omega) (by omega) (by omega) (by omega) ?_
  have hl11 : (((fe.set (0 : Int).toNat ((l0_712 / 1000) / 1000)).set (1 : Int).toNat ((l0_714 / 1000) / 1000)).set (2 : Int).toNat ((l0_716 / 1000) / 1000)).length = 9 := (List.length_set ..).trans hl9
  refine fx_ias rfl g_716_46 (by omega) (by omega) (by omega) ?_
  intro h_717 e_717 f_717 l_717
  have k_717 : cL h_717 := l_717.trans k_716
  have fr_717 := hfr_wb fr_716 f_717 l_717 rfl
  clear l_717
  have g_717_7 := (f_717 7 (Nat.ne_of_beq_eq_false rfl)).trans g_716_7
  have g_717_11 := (f_717 11 (Nat.ne_of_beq_eq_false rfl)).trans g_716_11
  have g_717_12 := (f_717 12 (Nat.ne_of_beq_eq_false rfl)).trans g_716_12
  have g_717_13 := (f_717 13 (Nat.ne_of_beq_eq_false rfl)).trans g_716_13
  have g_717_15 := (f_717 15 (Nat.ne_of_beq_eq_false rfl)).trans g_716_15
  have g_717_17 := (f_717 17 (Nat.ne_of_beq_eq_false rfl)).trans g_716_17
  have g_717_18 := (f_717 18 (Nat.ne_of_beq_eq_false rfl)).trans g_716_18
  have g_717_19 := (f_717 19 (Nat.ne_of_beq_eq_false rfl)).trans g_716_19
  have g_717_21 := mf_cv_f g_716_21 (f_717 21 (Nat.ne_of_beq_eq_false rfl)) (f_717 22 (Nat.ne_of_beq_eq_false rfl)) (f_717 23 (Nat.ne_of_beq_eq_false rfl)) (f_717 24 (Nat.ne_of_beq_eq_false rfl))
  have g_717_25 := mf_cv_f g_716_25 (f_717 25 (Nat.ne_of_beq_eq_false rfl)) (f_717 26 (Nat.ne_of_beq_eq_false rfl)) (f_717 27 (Nat.ne_of_beq_eq_false rfl)) (f_717 28 (Nat.ne_of_beq_eq_false rfl))
  have g_717_29 := mf_cv_f g_716_29 (f_717 29 (Nat.ne_of_beq_eq_false rfl)) (f_717 30 (Nat.ne_of_beq_eq_false rfl)) (f_717 31 (Nat.ne_of_beq_eq_false rfl)) (f_717 32 (Nat.ne_of_beq_eq_false rfl))
  have g_717_33 := mf_cv_f g_716_33 (f_717 33 (Nat.ne_of_beq_eq_false rfl)) (f_717 34 (Nat.ne_of_beq_eq_false rfl)) (f_717 35 (Nat.ne_of_beq_eq_false rfl)) (f_717 36 (Nat.ne_of_beq_eq_false rfl))
  have g_717_37 := mf_cv_f g_716_37 (f_717 37 (Nat.ne_of_beq_eq_false rfl)) (f_717 38 (Nat.ne_of_beq_eq_false rfl)) (f_717 39 (Nat.ne_of_beq_eq_false rfl)) (f_717 40 (Nat.ne_of_beq_eq_false rfl))
  have g_717_41 := mf_cv_f g_716_41 (f_717 41 (Nat.ne_of_beq_eq_false rfl)) (f_717 42 (Nat.ne_of_beq_eq_false rfl)) (f_717 43 (Nat.ne_of_beq_eq_false rfl)) (f_717 44 (Nat.ne_of_beq_eq_false rfl))
  have g_717_46 : cE h_717 46 (.inl (.int, fA (((fe.set (0 : Int).toNat ((l0_712 / 1000) / 1000)).set (1 : Int).toNat ((l0_714 / 1000) / 1000)).set (2 : Int).toNat ((l0_716 / 1000) / 1000)))) := e_717
  have qfe3 : ∀ i : Int, 0 ≤ i → i < 9 → 0 ≤ (((fe.set (0 : Int).toNat ((l0_712 / 1000) / 1000)).set (1 : Int).toNat ((l0_714 / 1000) / 1000)).set (2 : Int).toNat ((l0_716 / 1000) / 1000)).getD i.toNat 0 ∧ (((fe.set (0 : Int).toNat ((l0_712 / 1000) / 1000)).set (1 : Int).toNat ((l0_714 / 1000) / 1000)).set (2 : Int).toNat ((l0_716 / 1000) / 1000)).getD i.toNat 0 ≤ 1000 := by
    intro i i0 i1
    rw [fz_getD_set]
    split
    · omega
    · exact qfe2 i i0 i1
  refine fw_inc (a := 2) (loc_q := [some (.ref 17), some (fI p), some (fI 3), some (.ref 46), some (fI 0), some (fI 3)]) rfl rfl (Nat.le_of_ble_eq_true rfl) rfl ?_
  refine ik_Wk 3 (pc_q := 74) (loc_q := [some (.ref 17), some (fI p), some (fI 3), some (.ref 46), some (fI 0), some (fI 3)]) (st_q := [fI 3, fI 3]) (h_q := h_717) (cl_q := 0) (sl_q := 0) rfl ?_
  refine fw_ic_ge rfl rfl (by decide +kernel) (by decide +kernel) (by decide +kernel) (by decide +kernel) (fun hc12 => ?_) (fun hc12 => absurd hc12 (by decide +kernel))
  refine fw_inc (a := 0) (loc_q := [some (.ref 17), some (fI p), some (fI 3), some (.ref 46), some (fI 1), some (fI 3)]) rfl rfl (Nat.le_of_ble_eq_true rfl) rfl ?_
  refine ik_Wk 3 (pc_q := 65) (loc_q := [some (.ref 17), some (fI p), some (fI 3), some (.ref 46), some (fI 1), some (fI 3)]) (st_q := [fI 3, fI 1]) (h_q := h_717) (cl_q := 0) (sl_q := 0) rfl ?_
  refine fw_ic_ge rfl rfl (by decide +kernel) (by decide +kernel) (by decide +kernel) (by decide +kernel) (fun hc13 => absurd hc13 (by decide +kernel)) (fun hc13 => ?_)
  refine ik_Wk 4 (pc_q := 74) (loc_q := [some (.ref 17), some (fI p), some (fI 3), some (.ref 46), some (fI 1), some (fI 0)]) (st_q := [fI 3, fI 0]) (h_q := h_717) (cl_q := 0) (sl_q := 0) rfl ?_
  refine fw_ic_ge rfl rfl (by decide +kernel) (by decide +kernel) (by decide +kernel) (by decide +kernel) (fun hc14 => absurd hc14 (by decide +kernel)) (fun hc14 => ?_)
  refine ik_Wk 2 (pc_q := 79) (loc_q := [some (.ref 17), some (fI p), some (fI 3), some (.ref 46), some (fI 1), some (fI 0)]) (st_q := [.ref 17, .ref 17]) (h_q := h_717) (cl_q := 0) (sl_q := 0) rfl ?_
  refine fw_gf rfl rfl g_717_17 rfl ?_
  refine ik_Wk 1 (pc_q := 84) (loc_q := [some (.ref 17), some (fI p), some (fI 3), some (.ref 46), some (fI 1), some (fI 0)]) (st_q := [fI 1, .ref 18, .ref 17]) (h_q := h_717) (cl_q := 0) (sl_q := 0) rfl ?_
  refine fx_aal (z := 1) rfl g_717_18 (by decide +kernel) (by decide +kernel) rfl ?_
  refine ik_Wk 2 (pc_q := 87) (loc_q := [some (.ref 17), some (fI p), some (fI 3), some (.ref 46), some (fI 1), some (fI 0)]) (st_q := [.ref 17, fI 0, .ref 25, .ref 17]) (h_q := h_717) (cl_q := 0) (sl_q := 0) rfl ?_
  refine fw_gf rfl rfl g_717_17 rfl ?_
  refine ik_Wk 2 (pc_q := 93) (loc_q := [some (.ref 17), some (fI p), some (fI 3), some (.ref 46), some (fI 1), some (fI 0)]) (st_q := [fI 0, fI 3, .ref 18, fI 0, .ref 25, .ref 17]) (h_q := h_717) (cl_q := 0) (sl_q := 0) rfl ?_
  refine fw_add rfl ?_
  refine fx_aal (z := 3) rfl g_717_18 (by decide +kernel) (by decide +kernel) rfl ?_
  refine ik_Wk 1 (pc_q := 96) (loc_q := [some (.ref 17), some (fI p), some (fI 3), some (.ref 46), some (fI 1), some (fI 0)]) (st_q := [fI 0, .ref 33, fI 0, .ref 25, .ref 17]) (h_q := h_717) (cl_q := 0) (sl_q := 0) rfl ?_
  refine fw_ld 1000000 rfl rfl (by decide +kernel) ?_
  refine fw_call 80 6 0 [.ref 17, .ref 25, fI 0, .ref 33, fI 0, fI 1000000] [] rfl rfl rfl (Nat.le_of_ble_eq_true rfl) rfl rfl (fw_rec k_717 rfl g_717_17 rfl (Nat.le_of_ble_eq_true rfl)) (cs_race (C := 25) (E := 33) (pl := pl) (lo := lo) (s := s) (ka := ka) (pa := (p + 1)) (ma := 0) (kb := kb) (pb := (p + 0)) (mb := 0) (ua := 0) (ub := ub'_712) (lim := 1000000) (bo := l2_716) (la := l0_716) (lb := l1_716) (wg := wg) (wc := wc) (we := we) (W := W) (by omega) (by omega) (by omega) (by omega) (by omega) (by omega) (by omega) q3 q4 g_717_7 g_717_11 n11 g_717_12 n12 g_717_13 n13 g_717_17 g_717_19 g_717_25 g_717_33 k_717) ?_
  rintro _ h_718 ⟨l0_718, l1_718, l2_718, ua'_718, ub'_718, rfl, e_718_17, e_718_19, e_718_C, e_718_E, p_718_0, p_718_1, F_718⟩
  have k_718 : cL h_718 := F_718.1.trans k_717
  have fr_718 := hfr_cb fr_717 F_718 rfl
  have g_718_7 := (hfr_g F_718 7 rfl).trans g_717_7
  have g_718_11 := (hfr_g F_718 11 rfl).trans g_717_11
  have g_718_12 := (hfr_g F_718 12 rfl).trans g_717_12
  have g_718_13 := (hfr_g F_718 13 rfl).trans g_717_13
  have g_718_15 := (hfr_g F_718 15 rfl).trans g_717_15
  have g_718_18 := (hfr_g F_718 18 rfl).trans g_717_18
  have g_718_21 := mf_cv_f g_717_21 (hfr_g F_718 21 rfl) (hfr_g F_718 22 rfl) (hfr_g F_718 23 rfl) (hfr_g F_718 24 rfl)
  have g_718_29 := mf_cv_f g_717_29 (hfr_g F_718 29 rfl) (hfr_g F_718 30 rfl) (hfr_g F_718 31 rfl) (hfr_g F_718 32 rfl)
  have g_718_37 := mf_cv_f g_717_37 (hfr_g F_718 37 rfl) (hfr_g F_718 38 rfl) (hfr_g F_718 39 rfl) (hfr_g F_718 40 rfl)
  have g_718_41 := mf_cv_f g_717_41 (hfr_g F_718 41 rfl) (hfr_g F_718 42 rfl) (hfr_g F_718 43 rfl) (hfr_g F_718 44 rfl)
  have g_718_46 := (hfr_g F_718 46 rfl).trans g_717_46
  have g_718_17 : cE h_718 17 (.inr (8, [.ref 7, .ref 15, .ref 18, .ref 19, fJ l2_718, .ref 20])) := e_718_17
  have g_718_19 : cE h_718 19 (.inl (.long, fL [l0_718, l1_718])) := e_718_19
  have g_718_25 : mf_cv h_718 25 W pl ka (p + 1) ua'_718 := e_718_C
  have g_718_33 : mf_cv h_718 33 W pl kb (p + 0) ub'_718 := e_718_E
  refine ik_Wk 0 (pc_q := 101) (loc_q := [some (.ref 17), some (fI p), some (fI 3), some (.ref 46), some (fI 1), some (fI 0)]) (st_q := []) (h_q := h_718) (cl_q := 0) (sl_q := 0) rfl ?_
  refine ik_Wk 3 (pc_q := 105) (loc_q := [some (.ref 17), some (fI p), some (fI 3), some (.ref 46), some (fI 1), some (fI 0)]) (st_q := [fI 3, fI 1, .ref 46]) (h_q := h_718) (cl_q := 0) (sl_q := 0) rfl ?_
  refine fw_mul rfl ?_
  refine ik_Wk 1 (pc_q := 108) (loc_q := [some (.ref 17), some (fI p), some (fI 3), some (.ref 46), some (fI 1), some (fI 0)]) (st_q := [fI 0, fI 3, .ref 46]) (h_q := h_718) (cl_q := 0) (sl_q := 0) rfl ?_
  refine fw_add rfl ?_
  refine ik_Wk 2 (pc_q := 111) (loc_q := [some (.ref 17), some (fI p), some (fI 3), some (.ref 46), some (fI 1), some (fI 0)]) (st_q := [fI 0, .ref 17, fI 3, .ref 46]) (h_q := h_718) (cl_q := 0) (sl_q := 0) rfl ?_
  refine ik_Wc 74 2 0 [.ref 17, fI 0] [fI 3, .ref 46] rfl rfl rfl (by decide +kernel) rfl rfl (fw_rec k_718 rfl g_718_17 rfl (Nat.le_of_ble_eq_true rfl)) ?_
  refine ik_Wk 0 (pc_q := 0) (loc_q := [some (.ref 17), some (fI 0)]) (st_q := []) (h_q := h_718) (cl_q := 0) (sl_q := 0) rfl ?_
  refine ik_Wk 1 (pc_q := 1) (loc_q := [some (.ref 17), some (fI 0)]) (st_q := [.ref 17]) (h_q := h_718) (cl_q := 0) (sl_q := 0) rfl ?_
  refine fw_gf rfl rfl g_718_17 rfl ?_
  refine ik_Wk 1 (pc_q := 5) (loc_q := [some (.ref 17), some (fI 0)]) (st_q := [fI 0, .ref 19]) (h_q := h_718) (cl_q := 0) (sl_q := 0) rfl ?_
  refine fx_lal (z := 0) rfl g_718_19 (by decide +kernel) (Nat.le_of_ble_eq_true rfl) (by decide +kernel) ?_
  refine ik_Wk 0 (pc_q := 6) (loc_q := [some (.ref 17), some (fI 0)]) (st_q := [fJ l0_718]) (h_q := h_718) (cl_q := 0) (sl_q := 0) rfl ?_
  refine fw_l2 1000 rfl rfl (by decide +kernel) ?_
  refine fx_ldiv rfl (by omega) (by omega) (by omega) (by omega) ?_
  refine fx_l2i rfl ?_
  refine ik_Wret rfl rfl ⟨_, _, rfl, rfl, ?_⟩
  refine ik_Wk 0 (pc_q := 114) (loc_q := [some (.ref 17), some (fI p), some (fI 3), some (.ref 46), some (fI 1), some (fI 0)]) (st_q := [fI (l0_718 / 1000), fI 3, .ref 46]) (h_q := h_718) (cl_q := 0) (sl_q := 0) rfl ?_
  refine fw_si rfl (by decide +kernel) ?_
  refine fx_idiv rfl (by omega) (by omega) (by omega) (by omega) ?_
  have hl15 : ((((fe.set (0 : Int).toNat ((l0_712 / 1000) / 1000)).set (1 : Int).toNat ((l0_714 / 1000) / 1000)).set (2 : Int).toNat ((l0_716 / 1000) / 1000)).set (3 : Int).toNat ((l0_718 / 1000) / 1000)).length = 9 := (List.length_set ..).trans hl11
  refine fx_ias rfl g_718_46 (by omega) (by omega) (by omega) ?_
  intro h_719 e_719 f_719 l_719
  have k_719 : cL h_719 := l_719.trans k_718
  have fr_719 := hfr_wb fr_718 f_719 l_719 rfl
  clear l_719
  have g_719_7 := (f_719 7 (Nat.ne_of_beq_eq_false rfl)).trans g_718_7
  have g_719_11 := (f_719 11 (Nat.ne_of_beq_eq_false rfl)).trans g_718_11
  have g_719_12 := (f_719 12 (Nat.ne_of_beq_eq_false rfl)).trans g_718_12
  have g_719_13 := (f_719 13 (Nat.ne_of_beq_eq_false rfl)).trans g_718_13
  have g_719_15 := (f_719 15 (Nat.ne_of_beq_eq_false rfl)).trans g_718_15
  have g_719_17 := (f_719 17 (Nat.ne_of_beq_eq_false rfl)).trans g_718_17
  have g_719_18 := (f_719 18 (Nat.ne_of_beq_eq_false rfl)).trans g_718_18
  have g_719_19 := (f_719 19 (Nat.ne_of_beq_eq_false rfl)).trans g_718_19
  have g_719_21 := mf_cv_f g_718_21 (f_719 21 (Nat.ne_of_beq_eq_false rfl)) (f_719 22 (Nat.ne_of_beq_eq_false rfl)) (f_719 23 (Nat.ne_of_beq_eq_false rfl)) (f_719 24 (Nat.ne_of_beq_eq_false rfl))
  have g_719_25 := mf_cv_f g_718_25 (f_719 25 (Nat.ne_of_beq_eq_false rfl)) (f_719 26 (Nat.ne_of_beq_eq_false rfl)) (f_719 27 (Nat.ne_of_beq_eq_false rfl)) (f_719 28 (Nat.ne_of_beq_eq_false rfl))
  have g_719_29 := mf_cv_f g_718_29 (f_719 29 (Nat.ne_of_beq_eq_false rfl)) (f_719 30 (Nat.ne_of_beq_eq_false rfl)) (f_719 31 (Nat.ne_of_beq_eq_false rfl)) (f_719 32 (Nat.ne_of_beq_eq_false rfl))
  have g_719_33 := mf_cv_f g_718_33 (f_719 33 (Nat.ne_of_beq_eq_false rfl)) (f_719 34 (Nat.ne_of_beq_eq_false rfl)) (f_719 35 (Nat.ne_of_beq_eq_false rfl)) (f_719 36 (Nat.ne_of_beq_eq_false rfl))
  have g_719_37 := mf_cv_f g_718_37 (f_719 37 (Nat.ne_of_beq_eq_false rfl)) (f_719 38 (Nat.ne_of_beq_eq_false rfl)) (f_719 39 (Nat.ne_of_beq_eq_false rfl)) (f_719 40 (Nat.ne_of_beq_eq_false rfl))
  have g_719_41 := mf_cv_f g_718_41 (f_719 41 (Nat.ne_of_beq_eq_false rfl)) (f_719 42 (Nat.ne_of_beq_eq_false rfl)) (f_719 43 (Nat.ne_of_beq_eq_false rfl)) (f_719 44 (Nat.ne_of_beq_eq_false rfl))
  have g_719_46 : cE h_719 46 (.inl (.int, fA ((((fe.set (0 : Int).toNat ((l0_712 / 1000) / 1000)).set (1 : Int).toNat ((l0_714 / 1000) / 1000)).set (2 : Int).toNat ((l0_716 / 1000) / 1000)).set (3 : Int).toNat ((l0_718 / 1000) / 1000)))) := e_719
  have qfe4 : ∀ i : Int, 0 ≤ i → i < 9 → 0 ≤ ((((fe.set (0 : Int).toNat ((l0_712 / 1000) / 1000)).set (1 : Int).toNat ((l0_714 / 1000) / 1000)).set (2 : Int).toNat ((l0_716 / 1000) / 1000)).set (3 : Int).toNat ((l0_718 / 1000) / 1000)).getD i.toNat 0 ∧ ((((fe.set (0 : Int).toNat ((l0_712 / 1000) / 1000)).set (1 : Int).toNat ((l0_714 / 1000) / 1000)).set (2 : Int).toNat ((l0_716 / 1000) / 1000)).set (3 : Int).toNat ((l0_718 / 1000) / 1000)).getD i.toNat 0 ≤ 1000 := by
    intro i i0 i1
    rw [fz_getD_set]
    split
    · omega
    · exact qfe3 i i0 i1
  refine fw_inc (a := 0) (loc_q := [some (.ref 17), some (fI p), some (fI 3), some (.ref 46), some (fI 1), some (fI 1)]) rfl rfl (Nat.le_of_ble_eq_true rfl) rfl ?_
  refine ik_Wk 3 (pc_q := 74) (loc_q := [some (.ref 17), some (fI p), some (fI 3), some (.ref 46), some (fI 1), some (fI 1)]) (st_q := [fI 3, fI 1]) (h_q := h_719) (cl_q := 0) (sl_q := 0) rfl ?_
  refine fw_ic_ge rfl rfl (by decide +kernel) (by decide +kernel) (by decide +kernel) (by decide +kernel) (fun hc16 => absurd hc16 (by decide +kernel)) (fun hc16 => ?_)
  refine ik_Wk 2 (pc_q := 79) (loc_q := [some (.ref 17), some (fI p), some (fI 3), some (.ref 46), some (fI 1), some (fI 1)]) (st_q := [.ref 17, .ref 17]) (h_q := h_719) (cl_q := 0) (sl_q := 0) rfl ?_
  refine fw_gf rfl rfl g_719_17 rfl ?_
  refine ik_Wk 1 (pc_q := 84) (loc_q := [some (.ref 17), some (fI p), some (fI 3), some (.ref 46), some (fI 1), some (fI 1)]) (st_q := [fI 1, .ref 18, .ref 17]) (h_q := h_719) (cl_q := 0) (sl_q := 0) rfl ?_
  refine fx_aal (z := 1) rfl g_719_18 (by decide +kernel) (by decide +kernel) rfl ?_
  refine ik_Wk 2 (pc_q := 87) (loc_q := [some (.ref 17), some (fI p), some (fI 3), some (.ref 46), some (fI 1), some (fI 1)]) (st_q := [.ref 17, fI 0, .ref 25, .ref 17]) (h_q := h_719) (cl_q := 0) (sl_q := 0) rfl ?_
  refine fw_gf rfl rfl g_719_17 rfl ?_
  refine ik_Wk 2 (pc_q := 93) (loc_q := [some (.ref 17), some (fI p), some (fI 3), some (.ref 46), some (fI 1), some (fI 1)]) (st_q := [fI 1, fI 3, .ref 18, fI 0, .ref 25, .ref 17]) (h_q := h_719) (cl_q := 0) (sl_q := 0) rfl ?_
  refine fw_add rfl ?_
  refine fx_aal (z := 4) rfl g_719_18 (by decide +kernel) (by decide +kernel) rfl ?_
  refine ik_Wk 1 (pc_q := 96) (loc_q := [some (.ref 17), some (fI p), some (fI 3), some (.ref 46), some (fI 1), some (fI 1)]) (st_q := [fI 0, .ref 37, fI 0, .ref 25, .ref 17]) (h_q := h_719) (cl_q := 0) (sl_q := 0) rfl ?_
  refine fw_ld 1000000 rfl rfl (by decide +kernel) ?_
  refine fw_call 80 6 0 [.ref 17, .ref 25, fI 0, .ref 37, fI 0, fI 1000000] [] rfl rfl rfl (Nat.le_of_ble_eq_true rfl) rfl rfl (fw_rec k_719 rfl g_719_17 rfl (Nat.le_of_ble_eq_true rfl)) (cs_race (C := 25) (E := 37) (pl := pl) (lo := lo) (s := s) (ka := ka) (pa := (p + 1)) (ma := 0) (kb := kb) (pb := (p + 1)) (mb := 0) (ua := ua'_718) (ub := ub'_714) (lim := 1000000) (bo := l2_718) (la := l0_718) (lb := l1_718) (wg := wg) (wc := wc) (we := we) (W := W) (by omega) (by omega) (by omega) (by omega) (by omega) (by omega) (by omega) q3 q4 g_719_7 g_719_11 n11 g_719_12 n12 g_719_13 n13 g_719_17 g_719_19 g_719_25 g_719_37 k_719) ?_
  rintro _ h_720 ⟨l0_720, l1_720, l2_720, ua'_720, ub'_720, rfl, e_720_17, e_720_19, e_720_C, e_720_E, p_720_0, p_720_1, F_720⟩
  have k_720 : cL h_720 := F_720.1.trans k_719
  have fr_720 := hfr_cb fr_719 F_720 rfl
  have g_720_7 := (hfr_g F_720 7 rfl).trans g_719_7
  have g_720_11 := (hfr_g F_720 11 rfl).trans g_719_11
  have g_720_12 := (hfr_g F_720 12 rfl).trans g_719_12
  have g_720_13 := (hfr_g F_720 13 rfl).trans g_719_13
  have g_720_15 := (hfr_g F_720 15 rfl).trans g_719_15
  have g_720_18 := (hfr_g F_720 18 rfl).trans g_719_18
  have g_720_21 := mf_cv_f g_719_21 (hfr_g F_720 21 rfl) (hfr_g F_720 22 rfl) (hfr_g F_720 23 rfl) (hfr_g F_720 24 rfl)
  have g_720_29 := mf_cv_f g_719_29 (hfr_g F_720 29 rfl) (hfr_g F_720 30 rfl) (hfr_g F_720 31 rfl) (hfr_g F_720 32 rfl)
  have g_720_33 := mf_cv_f g_719_33 (hfr_g F_720 33 rfl) (hfr_g F_720 34 rfl) (hfr_g F_720 35 rfl) (hfr_g F_720 36 rfl)
  have g_720_41 := mf_cv_f g_719_41 (hfr_g F_720 41 rfl) (hfr_g F_720 42 rfl) (hfr_g F_720 43 rfl) (hfr_g F_720 44 rfl)
  have g_720_46 := (hfr_g F_720 46 rfl).trans g_719_46
  have g_720_17 : cE h_720 17 (.inr (8, [.ref 7, .ref 15, .ref 18, .ref 19, fJ l2_720, .ref 20])) := e_720_17
  have g_720_19 : cE h_720 19 (.inl (.long, fL [l0_720, l1_720])) := e_720_19
  have g_720_25 : mf_cv h_720 25 W pl ka (p + 1) ua'_720 := e_720_C
  have g_720_37 : mf_cv h_720 37 W pl kb (p + 1) ub'_720 := e_720_E
  refine ik_Wk 0 (pc_q := 101) (loc_q := [some (.ref 17), some (fI p), some (fI 3), some (.ref 46), some (fI 1), some (fI 1)]) (st_q := []) (h_q := h_720) (cl_q := 0) (sl_q := 0) rfl ?_
  refine ik_Wk 3 (pc_q := 105) (loc_q := [some (.ref 17), some (fI p), some (fI 3), some (.ref 46), some (fI 1), some (fI 1)]) (st_q := [fI 3, fI 1, .ref 46]) (h_q := h_720) (cl_q := 0) (sl_q := 0) rfl ?_
  refine fw_mul rfl ?_
  refine ik_Wk 1 (pc_q := 108) (loc_q := [some (.ref 17), some (fI p), some (fI 3), some (.ref 46), some (fI 1), some (fI 1)]) (st_q := [fI 1, fI 3, .ref 46]) (h_q := h_720) (cl_q := 0) (sl_q := 0) rfl ?_
  refine fw_add rfl ?_
  refine ik_Wk 2 (pc_q := 111) (loc_q := [some (.ref 17), some (fI p), some (fI 3), some (.ref 46), some (fI 1), some (fI 1)]) (st_q := [fI 0, .ref 17, fI 4, .ref 46]) (h_q := h_720) (cl_q := 0) (sl_q := 0) rfl ?_
  refine ik_Wc 74 2 0 [.ref 17, fI 0] [fI 4, .ref 46] rfl rfl rfl (by decide +kernel) rfl rfl (fw_rec k_720 rfl g_720_17 rfl (Nat.le_of_ble_eq_true rfl)) ?_
  refine ik_Wk 0 (pc_q := 0) (loc_q := [some (.ref 17), some (fI 0)]) (st_q := []) (h_q := h_720) (cl_q := 0) (sl_q := 0) rfl ?_
  refine ik_Wk 1 (pc_q := 1) (loc_q := [some (.ref 17), some (fI 0)]) (st_q := [.ref 17]) (h_q := h_720) (cl_q := 0) (sl_q := 0) rfl ?_
  refine fw_gf rfl rfl g_720_17 rfl ?_
  refine ik_Wk 1 (pc_q := 5) (loc_q := [some (.ref 17), some (fI 0)]) (st_q := [fI 0, .ref 19]) (h_q := h_720) (cl_q := 0) (sl_q := 0) rfl ?_
  refine fx_lal (z := 0) rfl g_720_19 (by decide +kernel) (Nat.le_of_ble_eq_true rfl) (by decide +kernel) ?_
  refine ik_Wk 0 (pc_q := 6) (loc_q := [some (.ref 17), some (fI 0)]) (st_q := [fJ l0_720]) (h_q := h_720) (cl_q := 0) (sl_q := 0) rfl ?_
  refine fw_l2 1000 rfl rfl (by decide +kernel) ?_
  refine fx_ldiv rfl (by omega) (by omega) (by omega) (by omega) ?_
  refine fx_l2i rfl ?_
  refine ik_Wret rfl rfl ⟨_, _, rfl, rfl, ?_⟩
  refine ik_Wk 0 (pc_q := 114) (loc_q := [some (.ref 17), some (fI p), some (fI 3), some (.ref 46), some (fI 1), some (fI 1)]) (st_q := [fI (l0_720 / 1000), fI 4, .ref 46]) (h_q := h_720) (cl_q := 0) (sl_q := 0) rfl ?_
  refine fw_si rfl (by decide +kernel) ?_
  refine fx_idiv rfl (by omega) (by omega) (by omega) (by omega) ?_
  have hl17 : (((((fe.set (0 : Int).toNat ((l0_712 / 1000) / 1000)).set (1 : Int).toNat ((l0_714 / 1000) / 1000)).set (2 : Int).toNat ((l0_716 / 1000) / 1000)).set (3 : Int).toNat ((l0_718 / 1000) / 1000)).set (4 : Int).toNat ((l0_720 / 1000) / 1000)).length = 9 := (List.length_set ..).trans hl15
  refine fx_ias rfl g_720_46 (by omega) (by omega) (by omega) ?_
  intro h_721 e_721 f_721 l_721
  have k_721 : cL h_721 := l_721.trans k_720
  have fr_721 := hfr_wb fr_720 f_721 l_721 rfl
  clear l_721
  have g_721_7 := (f_721 7 (Nat.ne_of_beq_eq_false rfl)).trans g_720_7
  have g_721_11 := (f_721 11 (Nat.ne_of_beq_eq_false rfl)).trans g_720_11
  have g_721_12 := (f_721 12 (Nat.ne_of_beq_eq_false rfl)).trans g_720_12
  have g_721_13 := (f_721 13 (Nat.ne_of_beq_eq_false rfl)).trans g_720_13
  have g_721_15 := (f_721 15 (Nat.ne_of_beq_eq_false rfl)).trans g_720_15
  have g_721_17 := (f_721 17 (Nat.ne_of_beq_eq_false rfl)).trans g_720_17
  have g_721_18 := (f_721 18 (Nat.ne_of_beq_eq_false rfl)).trans g_720_18
  have g_721_19 := (f_721 19 (Nat.ne_of_beq_eq_false rfl)).trans g_720_19
  have g_721_21 := mf_cv_f g_720_21 (f_721 21 (Nat.ne_of_beq_eq_false rfl)) (f_721 22 (Nat.ne_of_beq_eq_false rfl)) (f_721 23 (Nat.ne_of_beq_eq_false rfl)) (f_721 24 (Nat.ne_of_beq_eq_false rfl))
  have g_721_25 := mf_cv_f g_720_25 (f_721 25 (Nat.ne_of_beq_eq_false rfl)) (f_721 26 (Nat.ne_of_beq_eq_false rfl)) (f_721 27 (Nat.ne_of_beq_eq_false rfl)) (f_721 28 (Nat.ne_of_beq_eq_false rfl))
  have g_721_29 := mf_cv_f g_720_29 (f_721 29 (Nat.ne_of_beq_eq_false rfl)) (f_721 30 (Nat.ne_of_beq_eq_false rfl)) (f_721 31 (Nat.ne_of_beq_eq_false rfl)) (f_721 32 (Nat.ne_of_beq_eq_false rfl))
  have g_721_33 := mf_cv_f g_720_33 (f_721 33 (Nat.ne_of_beq_eq_false rfl)) (f_721 34 (Nat.ne_of_beq_eq_false rfl)) (f_721 35 (Nat.ne_of_beq_eq_false rfl)) (f_721 36 (Nat.ne_of_beq_eq_false rfl))
  have g_721_37 := mf_cv_f g_720_37 (f_721 37 (Nat.ne_of_beq_eq_false rfl)) (f_721 38 (Nat.ne_of_beq_eq_false rfl)) (f_721 39 (Nat.ne_of_beq_eq_false rfl)) (f_721 40 (Nat.ne_of_beq_eq_false rfl))
  have g_721_41 := mf_cv_f g_720_41 (f_721 41 (Nat.ne_of_beq_eq_false rfl)) (f_721 42 (Nat.ne_of_beq_eq_false rfl)) (f_721 43 (Nat.ne_of_beq_eq_false rfl)) (f_721 44 (Nat.ne_of_beq_eq_false rfl))
  have g_721_46 : cE h_721 46 (.inl (.int, fA (((((fe.set (0 : Int).toNat ((l0_712 / 1000) / 1000)).set (1 : Int).toNat ((l0_714 / 1000) / 1000)).set (2 : Int).toNat ((l0_716 / 1000) / 1000)).set (3 : Int).toNat ((l0_718 / 1000) / 1000)).set (4 : Int).toNat ((l0_720 / 1000) / 1000)))) := e_721
  have qfe5 : ∀ i : Int, 0 ≤ i → i < 9 → 0 ≤ (((((fe.set (0 : Int).toNat ((l0_712 / 1000) / 1000)).set (1 : Int).toNat ((l0_714 / 1000) / 1000)).set (2 : Int).toNat ((l0_716 / 1000) / 1000)).set (3 : Int).toNat ((l0_718 / 1000) / 1000)).set (4 : Int).toNat ((l0_720 / 1000) / 1000)).getD i.toNat 0 ∧ (((((fe.set (0 : Int).toNat ((l0_712 / 1000) / 1000)).set (1 : Int).toNat ((l0_714 / 1000) / 1000)).set (2 : Int).toNat ((l0_716 / 1000) / 1000)).set (3 : Int).toNat ((l0_718 / 1000) / 1000)).set (4 : Int).toNat ((l0_720 / 1000) / 1000)).getD i.toNat 0 ≤ 1000 := by
    intro i i0 i1
    rw [fz_getD_set]
    split
    · omega
    · exact qfe4 i i0 i1
  refine fw_inc (a := 1) (loc_q := [some (.ref 17), some (fI p), some (fI 3), some (.ref 46), some (fI 1), some (fI 2)]) rfl rfl (Nat.le_of_ble_eq_true rfl) rfl ?_
  refine ik_Wk 3 (pc_q := 74) (loc_q := [some (.ref 17), some (fI p), some (fI 3), some (.ref 46), some (fI 1), some (fI 2)]) (st_q := [fI 3, fI 2]) (h_q := h_721) (cl_q := 0) (sl_q := 0) rfl ?_
  refine fw_ic_ge rfl rfl (by decide +kernel) (by decide +kernel) (by decide +kernel) (by decide +kernel) (fun hc18 => absurd hc18 (by decide +kernel)) (fun hc18 => ?_)
  refine ik_Wk 2 (pc_q := 79) (loc_q := [some (.ref 17), some (fI p), some (fI 3), some (.ref 46), some (fI 1), some (fI 2)]) (st_q := [.ref 17, .ref 17]) (h_q := h_721) (cl_q := 0) (sl_q := 0) rfl ?_
  refine fw_gf rfl rfl g_721_17 rfl ?_
  refine ik_Wk 1 (pc_q := 84) (loc_q := [some (.ref 17), some (fI p), some (fI 3), some (.ref 46), some (fI 1), some (fI 2)]) (st_q := [fI 1, .ref 18, .ref 17]) (h_q := h_721) (cl_q := 0) (sl_q := 0) rfl ?_
  refine fx_aal (z := 1) rfl g_721_18 (by decide +kernel) (by decide +kernel) rfl ?_
  refine ik_Wk 2 (pc_q := 87) (loc_q := [some (.ref 17), some (fI p), some (fI 3), some (.ref 46), some (fI 1), some (fI 2)]) (st_q := [.ref 17, fI 0, .ref 25, .ref 17]) (h_q := h_721) (cl_q := 0) (sl_q := 0) rfl ?_
  refine fw_gf rfl rfl g_721_17 rfl ?_
  refine ik_Wk 2 (pc_q := 93) (loc_q := [some (.ref 17), some (fI p), some (fI 3), some (.ref 46), some (fI 1), some (fI 2)]) (st_q := [fI 2, fI 3, .ref 18, fI 0, .ref 25, .ref 17]) (h_q := h_721) (cl_q := 0) (sl_q := 0) rfl ?_
  refine fw_add rfl ?_
  refine fx_aal (z := 5) rfl g_721_18 (by decide +kernel) (by decide +kernel) rfl ?_
  refine ik_Wk 1 (pc_q := 96) (loc_q := [some (.ref 17), some (fI p), some (fI 3), some (.ref 46), some (fI 1), some (fI 2)]) (st_q := [fI 0, .ref 41, fI 0, .ref 25, .ref 17]) (h_q := h_721) (cl_q := 0) (sl_q := 0) rfl ?_
  refine fw_ld 1000000 rfl rfl (by decide +kernel) ?_
  refine fw_call 80 6 0 [.ref 17, .ref 25, fI 0, .ref 41, fI 0, fI 1000000] [] rfl rfl rfl (Nat.le_of_ble_eq_true rfl) rfl rfl (fw_rec k_721 rfl g_721_17 rfl (Nat.le_of_ble_eq_true rfl)) (cs_race (C := 25) (E := 41) (pl := pl) (lo := lo) (s := s) (ka := ka) (pa := (p + 1)) (ma := 0) (kb := kb) (pb := (p + 2)) (mb := 0) (ua := ua'_720) (ub := ub'_716) (lim := 1000000) (bo := l2_720) (la := l0_720) (lb := l1_720) (wg := wg) (wc := wc) (we := we) (W := W) (by omega) (by omega) (by omega) (by omega) (by omega) (by omega) (by omega) q3 q4 g_721_7 g_721_11 n11 g_721_12 n12 g_721_13 n13 g_721_17 g_721_19 g_721_25 g_721_41 k_721) ?_
  rintro _ h_722 ⟨l0_722, l1_722, l2_722, ua'_722, ub'_722, rfl, e_722_17, e_722_19, e_722_C, e_722_E, p_722_0, p_722_1, F_722⟩
  have k_722 : cL h_722 := F_722.1.trans k_721
  have fr_722 := hfr_cb fr_721 F_722 rfl
  have g_722_7 := (hfr_g F_722 7 rfl).trans g_721_7
  have g_722_11 := (hfr_g F_722 11 rfl).trans g_721_11
  have g_722_12 := (hfr_g F_722 12 rfl).trans g_721_12
  have g_722_13 := (hfr_g F_722 13 rfl).trans g_721_13
  have g_722_15 := (hfr_g F_722 15 rfl).trans g_721_15
  have g_722_18 := (hfr_g F_722 18 rfl).trans g_721_18
  have g_722_21 := mf_cv_f g_721_21 (hfr_g F_722 21 rfl) (hfr_g F_722 22 rfl) (hfr_g F_722 23 rfl) (hfr_g F_722 24 rfl)
  have g_722_29 := mf_cv_f g_721_29 (hfr_g F_722 29 rfl) (hfr_g F_722 30 rfl) (hfr_g F_722 31 rfl) (hfr_g F_722 32 rfl)
  have g_722_33 := mf_cv_f g_721_33 (hfr_g F_722 33 rfl) (hfr_g F_722 34 rfl) (hfr_g F_722 35 rfl) (hfr_g F_722 36 rfl)
  have g_722_37 := mf_cv_f g_721_37 (hfr_g F_722 37 rfl) (hfr_g F_722 38 rfl) (hfr_g F_722 39 rfl) (hfr_g F_722 40 rfl)
  have g_722_46 := (hfr_g F_722 46 rfl).trans g_721_46
  have g_722_17 : cE h_722 17 (.inr (8, [.ref 7, .ref 15, .ref 18, .ref 19, fJ l2_722, .ref 20])) := e_722_17
  have g_722_19 : cE h_722 19 (.inl (.long, fL [l0_722, l1_722])) := e_722_19
  have g_722_25 : mf_cv h_722 25 W pl ka (p + 1) ua'_722 := e_722_C
  have g_722_41 : mf_cv h_722 41 W pl kb (p + 2) ub'_722 := e_722_E
  refine ik_Wk 0 (pc_q := 101) (loc_q := [some (.ref 17), some (fI p), some (fI 3), some (.ref 46), some (fI 1), some (fI 2)]) (st_q := []) (h_q := h_722) (cl_q := 0) (sl_q := 0) rfl ?_
  refine ik_Wk 3 (pc_q := 105) (loc_q := [some (.ref 17), some (fI p), some (fI 3), some (.ref 46), some (fI 1), some (fI 2)]) (st_q := [fI 3, fI 1, .ref 46]) (h_q := h_722) (cl_q := 0) (sl_q := 0) rfl ?_
  refine fw_mul rfl ?_
  refine ik_Wk 1 (pc_q := 108) (loc_q := [some (.ref 17), some (fI p), some (fI 3), some (.ref 46), some (fI 1), some (fI 2)]) (st_q := [fI 2, fI 3, .ref 46]) (h_q := h_722) (cl_q := 0) (sl_q := 0) rfl ?_
  refine fw_add rfl ?_
  refine ik_Wk 2 (pc_q := 111) (loc_q := [some (.ref 17), some (fI p), some (fI 3), some (.ref 46), some (fI 1), some (fI 2)]) (st_q := [fI 0, .ref 17, fI 5, .ref 46]) (h_q := h_722) (cl_q := 0) (sl_q := 0) rfl ?_
  refine ik_Wc 74 2 0 [.ref 17, fI 0] [fI 5, .ref 46] rfl rfl rfl (by decide +kernel) rfl rfl (fw_rec k_722 rfl g_722_17 rfl (Nat.le_of_ble_eq_true rfl)) ?_
  refine ik_Wk 0 (pc_q := 0) (loc_q := [some (.ref 17), some (fI 0)]) (st_q := []) (h_q := h_722) (cl_q := 0) (sl_q := 0) rfl ?_
  refine ik_Wk 1 (pc_q := 1) (loc_q := [some (.ref 17), some (fI 0)]) (st_q := [.ref 17]) (h_q := h_722) (cl_q := 0) (sl_q := 0) rfl ?_
  refine fw_gf rfl rfl g_722_17 rfl ?_
  refine ik_Wk 1 (pc_q := 5) (loc_q := [some (.ref 17), some (fI 0)]) (st_q := [fI 0, .ref 19]) (h_q := h_722) (cl_q := 0) (sl_q := 0) rfl ?_
  refine fx_lal (z := 0) rfl g_722_19 (by decide +kernel) (Nat.le_of_ble_eq_true rfl) (by decide +kernel) ?_
  refine ik_Wk 0 (pc_q := 6) (loc_q := [some (.ref 17), some (fI 0)]) (st_q := [fJ l0_722]) (h_q := h_722) (cl_q := 0) (sl_q := 0) rfl ?_
  refine fw_l2 1000 rfl rfl (by decide +kernel) ?_
  refine fx_ldiv rfl (by omega) (by omega) (by omega) (by omega) ?_
  refine fx_l2i rfl ?_
  refine ik_Wret rfl rfl ⟨_, _, rfl, rfl, ?_⟩
  refine ik_Wk 0 (pc_q := 114) (loc_q := [some (.ref 17), some (fI p), some (fI 3), some (.ref 46), some (fI 1), some (fI 2)]) (st_q := [fI (l0_722 / 1000), fI 5, .ref 46]) (h_q := h_722) (cl_q := 0) (sl_q := 0) rfl ?_
  refine fw_si rfl (by decide +kernel) ?_
  refine fx_idiv rfl (by omega) (by omega) (by omega) (by omega) ?_
  have hl19 : ((((((fe.set (0 : Int).toNat ((l0_712 / 1000) / 1000)).set (1 : Int).toNat ((l0_714 / 1000) / 1000)).set (2 : Int).toNat ((l0_716 / 1000) / 1000)).set (3 : Int).toNat ((l0_718 / 1000) / 1000)).set (4 : Int).toNat ((l0_720 / 1000) / 1000)).set (5 : Int).toNat ((l0_722 / 1000) / 1000)).length = 9 := (List.length_set ..).trans hl17
  refine fx_ias rfl g_722_46 (by omega) (by omega) (by omega) ?_
  intro h_723 e_723 f_723 l_723
  have k_723 : cL h_723 := l_723.trans k_722
  have fr_723 := hfr_wb fr_722 f_723 l_723 rfl
  clear l_723
  have g_723_7 := (f_723 7 (Nat.ne_of_beq_eq_false rfl)).trans g_722_7
  have g_723_11 := (f_723 11 (Nat.ne_of_beq_eq_false rfl)).trans g_722_11
  have g_723_12 := (f_723 12 (Nat.ne_of_beq_eq_false rfl)).trans g_722_12
  have g_723_13 := (f_723 13 (Nat.ne_of_beq_eq_false rfl)).trans g_722_13
  have g_723_15 := (f_723 15 (Nat.ne_of_beq_eq_false rfl)).trans g_722_15
  have g_723_17 := (f_723 17 (Nat.ne_of_beq_eq_false rfl)).trans g_722_17
  have g_723_18 := (f_723 18 (Nat.ne_of_beq_eq_false rfl)).trans g_722_18
  have g_723_19 := (f_723 19 (Nat.ne_of_beq_eq_false rfl)).trans g_722_19
  have g_723_21 := mf_cv_f g_722_21 (f_723 21 (Nat.ne_of_beq_eq_false rfl)) (f_723 22 (Nat.ne_of_beq_eq_false rfl)) (f_723 23 (Nat.ne_of_beq_eq_false rfl)) (f_723 24 (Nat.ne_of_beq_eq_false rfl))
  have g_723_25 := mf_cv_f g_722_25 (f_723 25 (Nat.ne_of_beq_eq_false rfl)) (f_723 26 (Nat.ne_of_beq_eq_false rfl)) (f_723 27 (Nat.ne_of_beq_eq_false rfl)) (f_723 28 (Nat.ne_of_beq_eq_false rfl))
  have g_723_29 := mf_cv_f g_722_29 (f_723 29 (Nat.ne_of_beq_eq_false rfl)) (f_723 30 (Nat.ne_of_beq_eq_false rfl)) (f_723 31 (Nat.ne_of_beq_eq_false rfl)) (f_723 32 (Nat.ne_of_beq_eq_false rfl))
  have g_723_33 := mf_cv_f g_722_33 (f_723 33 (Nat.ne_of_beq_eq_false rfl)) (f_723 34 (Nat.ne_of_beq_eq_false rfl)) (f_723 35 (Nat.ne_of_beq_eq_false rfl)) (f_723 36 (Nat.ne_of_beq_eq_false rfl))
  have g_723_37 := mf_cv_f g_722_37 (f_723 37 (Nat.ne_of_beq_eq_false rfl)) (f_723 38 (Nat.ne_of_beq_eq_false rfl)) (f_723 39 (Nat.ne_of_beq_eq_false rfl)) (f_723 40 (Nat.ne_of_beq_eq_false rfl))
  have g_723_41 := mf_cv_f g_722_41 (f_723 41 (Nat.ne_of_beq_eq_false rfl)) (f_723 42 (Nat.ne_of_beq_eq_false rfl)) (f_723 43 (Nat.ne_of_beq_eq_false rfl)) (f_723 44 (Nat.ne_of_beq_eq_false rfl))
  have g_723_46 : cE h_723 46 (.inl (.int, fA ((((((fe.set (0 : Int).toNat ((l0_712 / 1000) / 1000)).set (1 : Int).toNat ((l0_714 / 1000) / 1000)).set (2 : Int).toNat ((l0_716 / 1000) / 1000)).set (3 : Int).toNat ((l0_718 / 1000) / 1000)).set (4 : Int).toNat ((l0_720 / 1000) / 1000)).set (5 : Int).toNat ((l0_722 / 1000) / 1000)))) := e_723
  have qfe6 : ∀ i : Int, 0 ≤ i → i < 9 → 0 ≤ ((((((fe.set (0 : Int).toNat ((l0_712 / 1000) / 1000)).set (1 : Int).toNat ((l0_714 / 1000) / 1000)).set (2 : Int).toNat ((l0_716 / 1000) / 1000)).set (3 : Int).toNat ((l0_718 / 1000) / 1000)).set (4 : Int).toNat ((l0_720 / 1000) / 1000)).set (5 : Int).toNat ((l0_722 / 1000) / 1000)).getD i.toNat 0 ∧ ((((((fe.set (0 : Int).toNat ((l0_712 / 1000) / 1000)).set (1 : Int).toNat ((l0_714 / 1000) / 1000)).set (2 : Int).toNat ((l0_716 / 1000) / 1000)).set (3 : Int).toNat ((l0_718 / 1000) / 1000)).set (4 : Int).toNat ((l0_720 / 1000) / 1000)).set (5 : Int).toNat ((l0_722 / 1000) / 1000)).getD i.toNat 0 ≤ 1000 := by
    intro i i0 i1
    rw [fz_getD_set]
    split
    · omega
    · exact qfe5 i i0 i1
  refine fw_inc (a := 2) (loc_q := [some (.ref 17), some (fI p), some (fI 3), some (.ref 46), some (fI 1), some (fI 3)]) rfl rfl (Nat.le_of_ble_eq_true rfl) rfl ?_
  refine ik_Wk 3 (pc_q := 74) (loc_q := [some (.ref 17), some (fI p), some (fI 3), some (.ref 46), some (fI 1), some (fI 3)]) (st_q := [fI 3, fI 3]) (h_q := h_723) (cl_q := 0) (sl_q := 0) rfl ?_
  refine fw_ic_ge rfl rfl (by decide +kernel) (by decide +kernel) (by decide +kernel) (by decide +kernel) (fun hc20 => ?_) (fun hc20 => absurd hc20 (by decide +kernel))
  refine fw_inc (a := 1) (loc_q := [some (.ref 17), some (fI p), some (fI 3), some (.ref 46), some (fI 2), some (fI 3)]) rfl rfl (Nat.le_of_ble_eq_true rfl) rfl ?_
  refine ik_Wk 3 (pc_q := 65) (loc_q := [some (.ref 17), some (fI p), some (fI 3), some (.ref 46), some (fI 2), some (fI 3)]) (st_q := [fI 3, fI 2]) (h_q := h_723) (cl_q := 0) (sl_q := 0) rfl ?_
  refine fw_ic_ge rfl rfl (by decide +kernel) (by decide +kernel) (by decide +kernel) (by decide +kernel) (fun hc21 => absurd hc21 (by decide +kernel)) (fun hc21 => ?_)
  refine ik_Wk 4 (pc_q := 74) (loc_q := [some (.ref 17), some (fI p), some (fI 3), some (.ref 46), some (fI 2), some (fI 0)]) (st_q := [fI 3, fI 0]) (h_q := h_723) (cl_q := 0) (sl_q := 0) rfl ?_
  refine fw_ic_ge rfl rfl (by decide +kernel) (by decide +kernel) (by decide +kernel) (by decide +kernel) (fun hc22 => absurd hc22 (by decide +kernel)) (fun hc22 => ?_)
  refine ik_Wk 2 (pc_q := 79) (loc_q := [some (.ref 17), some (fI p), some (fI 3), some (.ref 46), some (fI 2), some (fI 0)]) (st_q := [.ref 17, .ref 17]) (h_q := h_723) (cl_q := 0) (sl_q := 0) rfl ?_
  refine fw_gf rfl rfl g_723_17 rfl ?_
  refine ik_Wk 1 (pc_q := 84) (loc_q := [some (.ref 17), some (fI p), some (fI 3), some (.ref 46), some (fI 2), some (fI 0)]) (st_q := [fI 2, .ref 18, .ref 17]) (h_q := h_723) (cl_q := 0) (sl_q := 0) rfl ?_
  refine fx_aal (z := 2) rfl g_723_18 (by decide +kernel) (by decide +kernel) rfl ?_
  refine ik_Wk 2 (pc_q := 87) (loc_q := [some (.ref 17), some (fI p), some (fI 3), some (.ref 46), some (fI 2), some (fI 0)]) (st_q := [.ref 17, fI 0, .ref 29, .ref 17]) (h_q := h_723) (cl_q := 0) (sl_q := 0) rfl ?_
  refine fw_gf rfl rfl g_723_17 rfl ?_
  refine ik_Wk 2 (pc_q := 93) (loc_q := [some (.ref 17), some (fI p), some (fI 3), some (.ref 46), some (fI 2), some (fI 0)]) (st_q := [fI 0, fI 3, .ref 18, fI 0, .ref 29, .ref 17]) (h_q := h_723) (cl_q := 0) (sl_q := 0) rfl ?_
  refine fw_add rfl ?_
  refine fx_aal (z := 3) rfl g_723_18 (by decide +kernel) (by decide +kernel) rfl ?_
  refine ik_Wk 1 (pc_q := 96) (loc_q := [some (.ref 17), some (fI p), some (fI 3), some (.ref 46), some (fI 2), some (fI 0)]) (st_q := [fI 0, .ref 33, fI 0, .ref 29, .ref 17]) (h_q := h_723) (cl_q := 0) (sl_q := 0) rfl ?_
  refine fw_ld 1000000 rfl rfl (by decide +kernel) ?_
  refine fw_call 80 6 0 [.ref 17, .ref 29, fI 0, .ref 33, fI 0, fI 1000000] [] rfl rfl rfl (Nat.le_of_ble_eq_true rfl) rfl rfl (fw_rec k_723 rfl g_723_17 rfl (Nat.le_of_ble_eq_true rfl)) (cs_race (C := 29) (E := 33) (pl := pl) (lo := lo) (s := s) (ka := ka) (pa := (p + 2)) (ma := 0) (kb := kb) (pb := (p + 0)) (mb := 0) (ua := 0) (ub := ub'_718) (lim := 1000000) (bo := l2_722) (la := l0_722) (lb := l1_722) (wg := wg) (wc := wc) (we := we) (W := W) (by omega) (by omega) (by omega) (by omega) (by omega) (by omega) (by omega) q3 q4 g_723_7 g_723_11 n11 g_723_12 n12 g_723_13 n13 g_723_17 g_723_19 g_723_29 g_723_33 k_723) ?_
  rintro _ h_724 ⟨l0_724, l1_724, l2_724, ua'_724, ub'_724, rfl, e_724_17, e_724_19, e_724_C, e_724_E, p_724_0, p_724_1, F_724⟩
  have k_724 : cL h_724 := F_724.1.trans k_723
  have fr_724 := hfr_cb fr_723 F_724 rfl
  have g_724_7 := (hfr_g F_724 7 rfl).trans g_723_7
  have g_724_11 := (hfr_g F_724 11 rfl).trans g_723_11
  have g_724_12 := (hfr_g F_724 12 rfl).trans g_723_12
  have g_724_13 := (hfr_g F_724 13 rfl).trans g_723_13
  have g_724_15 := (hfr_g F_724 15 rfl).trans g_723_15
  have g_724_18 := (hfr_g F_724 18 rfl).trans g_723_18
  have g_724_21 := mf_cv_f g_723_21 (hfr_g F_724 21 rfl) (hfr_g F_724 22 rfl) (hfr_g F_724 23 rfl) (hfr_g F_724 24 rfl)
  have g_724_25 := mf_cv_f g_723_25 (hfr_g F_724 25 rfl) (hfr_g F_724 26 rfl) (hfr_g F_724 27 rfl) (hfr_g F_724 28 rfl)
  have g_724_37 := mf_cv_f g_723_37 (hfr_g F_724 37 rfl) (hfr_g F_724 38 rfl) (hfr_g F_724 39 rfl) (hfr_g F_724 40 rfl)
  have g_724_41 := mf_cv_f g_723_41 (hfr_g F_724 41 rfl) (hfr_g F_724 42 rfl) (hfr_g F_724 43 rfl) (hfr_g F_724 44 rfl)
  have g_724_46 := (hfr_g F_724 46 rfl).trans g_723_46
  have g_724_17 : cE h_724 17 (.inr (8, [.ref 7, .ref 15, .ref 18, .ref 19, fJ l2_724, .ref 20])) := e_724_17
  have g_724_19 : cE h_724 19 (.inl (.long, fL [l0_724, l1_724])) := e_724_19
  have g_724_29 : mf_cv h_724 29 W pl ka (p + 2) ua'_724 := e_724_C
  have g_724_33 : mf_cv h_724 33 W pl kb (p + 0) ub'_724 := e_724_E
  refine ik_Wk 0 (pc_q := 101) (loc_q := [some (.ref 17), some (fI p), some (fI 3), some (.ref 46), some (fI 2), some (fI 0)]) (st_q := []) (h_q := h_724) (cl_q := 0) (sl_q := 0) rfl ?_
  refine ik_Wk 3 (pc_q := 105) (loc_q := [some (.ref 17), some (fI p), some (fI 3), some (.ref 46), some (fI 2), some (fI 0)]) (st_q := [fI 3, fI 2, .ref 46]) (h_q := h_724) (cl_q := 0) (sl_q := 0) rfl ?_
  refine fw_mul rfl ?_
  refine ik_Wk 1 (pc_q := 108) (loc_q := [some (.ref 17), some (fI p), some (fI 3), some (.ref 46), some (fI 2), some (fI 0)]) (st_q := [fI 0, fI 6, .ref 46]) (h_q := h_724) (cl_q := 0) (sl_q := 0) rfl ?_
  refine fw_add rfl ?_
  refine ik_Wk 2 (pc_q := 111) (loc_q := [some (.ref 17), some (fI p), some (fI 3), some (.ref 46), some (fI 2), some (fI 0)]) (st_q := [fI 0, .ref 17, fI 6, .ref 46]) (h_q := h_724) (cl_q := 0) (sl_q := 0) rfl ?_
  refine ik_Wc 74 2 0 [.ref 17, fI 0] [fI 6, .ref 46] rfl rfl rfl (by decide +kernel) rfl rfl (fw_rec k_724 rfl g_724_17 rfl (Nat.le_of_ble_eq_true rfl)) ?_
  refine ik_Wk 0 (pc_q := 0) (loc_q := [some (.ref 17), some (fI 0)]) (st_q := []) (h_q := h_724) (cl_q := 0) (sl_q := 0) rfl ?_
  refine ik_Wk 1 (pc_q := 1) (loc_q := [some (.ref 17), some (fI 0)]) (st_q := [.ref 17]) (h_q := h_724) (cl_q := 0) (sl_q := 0) rfl ?_
  refine fw_gf rfl rfl g_724_17 rfl ?_
  refine ik_Wk 1 (pc_q := 5) (loc_q := [some (.ref 17), some (fI 0)]) (st_q := [fI 0, .ref 19]) (h_q := h_724) (cl_q := 0) (sl_q := 0) rfl ?_
  refine fx_lal (z := 0) rfl g_724_19 (by decide +kernel) (Nat.le_of_ble_eq_true rfl) (by decide +kernel) ?_
  refine ik_Wk 0 (pc_q := 6) (loc_q := [some (.ref 17), some (fI 0)]) (st_q := [fJ l0_724]) (h_q := h_724) (cl_q := 0) (sl_q := 0) rfl ?_
  refine fw_l2 1000 rfl rfl (by decide +kernel) ?_
  refine fx_ldiv rfl (by omega) (by omega) (by omega) (by omega) ?_
  refine fx_l2i rfl ?_
  refine ik_Wret rfl rfl ⟨_, _, rfl, rfl, ?_⟩
  refine ik_Wk 0 (pc_q := 114) (loc_q := [some (.ref 17), some (fI p), some (fI 3), some (.ref 46), some (fI 2), some (fI 0)]) (st_q := [fI (l0_724 / 1000), fI 6, .ref 46]) (h_q := h_724) (cl_q := 0) (sl_q := 0) rfl ?_
  refine fw_si rfl (by decide +kernel) ?_
  refine fx_idiv rfl (by omega) (by omega) (by omega) (by omega) ?_
  have hl23 : (((((((fe.set (0 : Int).toNat ((l0_712 / 1000) / 1000)).set (1 : Int).toNat ((l0_714 / 1000) / 1000)).set (2 : Int).toNat ((l0_716 / 1000) / 1000)).set (3 : Int).toNat ((l0_718 / 1000) / 1000)).set (4 : Int).toNat ((l0_720 / 1000) / 1000)).set (5 : Int).toNat ((l0_722 / 1000) / 1000)).set (6 : Int).toNat ((l0_724 / 1000) / 1000)).length = 9 := (List.length_set ..).trans hl19
  refine fx_ias rfl g_724_46 (by omega) (by omega) (by omega) ?_
  intro h_725 e_725 f_725 l_725
  have k_725 : cL h_725 := l_725.trans k_724
  have fr_725 := hfr_wb fr_724 f_725 l_725 rfl
  clear l_725
  have g_725_7 := (f_725 7 (Nat.ne_of_beq_eq_false rfl)).trans g_724_7
  have g_725_11 := (f_725 11 (Nat.ne_of_beq_eq_false rfl)).trans g_724_11
  have g_725_12 := (f_725 12 (Nat.ne_of_beq_eq_false rfl)).trans g_724_12
  have g_725_13 := (f_725 13 (Nat.ne_of_beq_eq_false rfl)).trans g_724_13
  have g_725_15 := (f_725 15 (Nat.ne_of_beq_eq_false rfl)).trans g_724_15
  have g_725_17 := (f_725 17 (Nat.ne_of_beq_eq_false rfl)).trans g_724_17
  have g_725_18 := (f_725 18 (Nat.ne_of_beq_eq_false rfl)).trans g_724_18
  have g_725_19 := (f_725 19 (Nat.ne_of_beq_eq_false rfl)).trans g_724_19
  have g_725_21 := mf_cv_f g_724_21 (f_725 21 (Nat.ne_of_beq_eq_false rfl)) (f_725 22 (Nat.ne_of_beq_eq_false rfl)) (f_725 23 (Nat.ne_of_beq_eq_false rfl)) (f_725 24 (Nat.ne_of_beq_eq_false rfl))
  have g_725_25 := mf_cv_f g_724_25 (f_725 25 (Nat.ne_of_beq_eq_false rfl)) (f_725 26 (Nat.ne_of_beq_eq_false rfl)) (f_725 27 (Nat.ne_of_beq_eq_false rfl)) (f_725 28 (Nat.ne_of_beq_eq_false rfl))
  have g_725_29 := mf_cv_f g_724_29 (f_725 29 (Nat.ne_of_beq_eq_false rfl)) (f_725 30 (Nat.ne_of_beq_eq_false rfl)) (f_725 31 (Nat.ne_of_beq_eq_false rfl)) (f_725 32 (Nat.ne_of_beq_eq_false rfl))
  have g_725_33 := mf_cv_f g_724_33 (f_725 33 (Nat.ne_of_beq_eq_false rfl)) (f_725 34 (Nat.ne_of_beq_eq_false rfl)) (f_725 35 (Nat.ne_of_beq_eq_false rfl)) (f_725 36 (Nat.ne_of_beq_eq_false rfl))
  have g_725_37 := mf_cv_f g_724_37 (f_725 37 (Nat.ne_of_beq_eq_false rfl)) (f_725 38 (Nat.ne_of_beq_eq_false rfl)) (f_725 39 (Nat.ne_of_beq_eq_false rfl)) (f_725 40 (Nat.ne_of_beq_eq_false rfl))
  have g_725_41 := mf_cv_f g_724_41 (f_725 41 (Nat.ne_of_beq_eq_false rfl)) (f_725 42 (Nat.ne_of_beq_eq_false rfl)) (f_725 43 (Nat.ne_of_beq_eq_false rfl)) (f_725 44 (Nat.ne_of_beq_eq_false rfl))
  have g_725_46 : cE h_725 46 (.inl (.int, fA (((((((fe.set (0 : Int).toNat ((l0_712 / 1000) / 1000)).set (1 : Int).toNat ((l0_714 / 1000) / 1000)).set (2 : Int).toNat ((l0_716 / 1000) / 1000)).set (3 : Int).toNat ((l0_718 / 1000) / 1000)).set (4 : Int).toNat ((l0_720 / 1000) / 1000)).set (5 : Int).toNat ((l0_722 / 1000) / 1000)).set (6 : Int).toNat ((l0_724 / 1000) / 1000)))) := e_725
  have qfe7 : ∀ i : Int, 0 ≤ i → i < 9 → 0 ≤ (((((((fe.set (0 : Int).toNat ((l0_712 / 1000) / 1000)).set (1 : Int).toNat ((l0_714 / 1000) / 1000)).set (2 : Int).toNat ((l0_716 / 1000) / 1000)).set (3 : Int).toNat ((l0_718 / 1000) / 1000)).set (4 : Int).toNat ((l0_720 / 1000) / 1000)).set (5 : Int).toNat ((l0_722 / 1000) / 1000)).set (6 : Int).toNat ((l0_724 / 1000) / 1000)).getD i.toNat 0 ∧ (((((((fe.set (0 : Int).toNat ((l0_712 / 1000) / 1000)).set (1 : Int).toNat ((l0_714 / 1000) / 1000)).set (2 : Int).toNat ((l0_716 / 1000) / 1000)).set (3 : Int).toNat ((l0_718 / 1000) / 1000)).set (4 : Int).toNat ((l0_720 / 1000) / 1000)).set (5 : Int).toNat ((l0_722 / 1000) / 1000)).set (6 : Int).toNat ((l0_724 / 1000) / 1000)).getD i.toNat 0 ≤ 1000 := by
    intro i i0 i1
    rw [fz_getD_set]
    split
    · omega
    · exact qfe6 i i0 i1
  refine fw_inc (a := 0) (loc_q := [some (.ref 17), some (fI p), some (fI 3), some (.ref 46), some (fI 2), some (fI 1)]) rfl rfl (Nat.le_of_ble_eq_true rfl) rfl ?_
  refine ik_Wk 3 (pc_q := 74) (loc_q := [some (.ref 17), some (fI p), some (fI 3), some (.ref 46), some (fI 2), some (fI 1)]) (st_q := [fI 3, fI 1]) (h_q := h_725) (cl_q := 0) (sl_q := 0) rfl ?_
  refine fw_ic_ge rfl rfl (by decide +kernel) (by decide +kernel) (by decide +kernel) (by decide +kernel) (fun hc24 => absurd hc24 (by decide +kernel)) (fun hc24 => ?_)
  refine ik_Wk 2 (pc_q := 79) (loc_q := [some (.ref 17), some (fI p), some (fI 3), some (.ref 46), some (fI 2), some (fI 1)]) (st_q := [.ref 17, .ref 17]) (h_q := h_725) (cl_q := 0) (sl_q := 0) rfl ?_
  refine fw_gf rfl rfl g_725_17 rfl ?_
  refine ik_Wk 1 (pc_q := 84) (loc_q := [some (.ref 17), some (fI p), some (fI 3), some (.ref 46), some (fI 2), some (fI 1)]) (st_q := [fI 2, .ref 18, .ref 17]) (h_q := h_725) (cl_q := 0) (sl_q := 0) rfl ?_
  refine fx_aal (z := 2) rfl g_725_18 (by decide +kernel) (by decide +kernel) rfl ?_
  refine ik_Wk 2 (pc_q := 87) (loc_q := [some (.ref 17), some (fI p), some (fI 3), some (.ref 46), some (fI 2), some (fI 1)]) (st_q := [.ref 17, fI 0, .ref 29, .ref 17]) (h_q := h_725) (cl_q := 0) (sl_q := 0) rfl ?_
  refine fw_gf rfl rfl g_725_17 rfl ?_
  refine ik_Wk 2 (pc_q := 93) (loc_q := [some (.ref 17), some (fI p), some (fI 3), some (.ref 46), some (fI 2), some (fI 1)]) (st_q := [fI 1, fI 3, .ref 18, fI 0, .ref 29, .ref 17]) (h_q := h_725) (cl_q := 0) (sl_q := 0) rfl ?_
  refine fw_add rfl ?_
  refine fx_aal (z := 4) rfl g_725_18 (by decide +kernel) (by decide +kernel) rfl ?_
  refine ik_Wk 1 (pc_q := 96) (loc_q := [some (.ref 17), some (fI p), some (fI 3), some (.ref 46), some (fI 2), some (fI 1)]) (st_q := [fI 0, .ref 37, fI 0, .ref 29, .ref 17]) (h_q := h_725) (cl_q := 0) (sl_q := 0) rfl ?_
  refine fw_ld 1000000 rfl rfl (by decide +kernel) ?_
  refine fw_call 80 6 0 [.ref 17, .ref 29, fI 0, .ref 37, fI 0, fI 1000000] [] rfl rfl rfl (Nat.le_of_ble_eq_true rfl) rfl rfl (fw_rec k_725 rfl g_725_17 rfl (Nat.le_of_ble_eq_true rfl)) (cs_race (C := 29) (E := 37) (pl := pl) (lo := lo) (s := s) (ka := ka) (pa := (p + 2)) (ma := 0) (kb := kb) (pb := (p + 1)) (mb := 0) (ua := ua'_724) (ub := ub'_720) (lim := 1000000) (bo := l2_724) (la := l0_724) (lb := l1_724) (wg := wg) (wc := wc) (we := we) (W := W) (by omega) (by omega) (by omega) (by omega) (by omega) (by omega) (by omega) q3 q4 g_725_7 g_725_11 n11 g_725_12 n12 g_725_13 n13 g_725_17 g_725_19 g_725_29 g_725_37 k_725) ?_
  rintro _ h_726 ⟨l0_726, l1_726, l2_726, ua'_726, ub'_726, rfl, e_726_17, e_726_19, e_726_C, e_726_E, p_726_0, p_726_1, F_726⟩
  have k_726 : cL h_726 := F_726.1.trans k_725
  have fr_726 := hfr_cb fr_725 F_726 rfl
  have g_726_7 := (hfr_g F_726 7 rfl).trans g_725_7
  have g_726_11 := (hfr_g F_726 11 rfl).trans g_725_11
  have g_726_12 := (hfr_g F_726 12 rfl).trans g_725_12
  have g_726_13 := (hfr_g F_726 13 rfl).trans g_725_13
  have g_726_15 := (hfr_g F_726 15 rfl).trans g_725_15
  have g_726_18 := (hfr_g F_726 18 rfl).trans g_725_18
  have g_726_21 := mf_cv_f g_725_21 (hfr_g F_726 21 rfl) (hfr_g F_726 22 rfl) (hfr_g F_726 23 rfl) (hfr_g F_726 24 rfl)
  have g_726_25 := mf_cv_f g_725_25 (hfr_g F_726 25 rfl) (hfr_g F_726 26 rfl) (hfr_g F_726 27 rfl) (hfr_g F_726 28 rfl)
  have g_726_33 := mf_cv_f g_725_33 (hfr_g F_726 33 rfl) (hfr_g F_726 34 rfl) (hfr_g F_726 35 rfl) (hfr_g F_726 36 rfl)
  have g_726_41 := mf_cv_f g_725_41 (hfr_g F_726 41 rfl) (hfr_g F_726 42 rfl) (hfr_g F_726 43 rfl) (hfr_g F_726 44 rfl)
  have g_726_46 := (hfr_g F_726 46 rfl).trans g_725_46
  have g_726_17 : cE h_726 17 (.inr (8, [.ref 7, .ref 15, .ref 18, .ref 19, fJ l2_726, .ref 20])) := e_726_17
  have g_726_19 : cE h_726 19 (.inl (.long, fL [l0_726, l1_726])) := e_726_19
  have g_726_29 : mf_cv h_726 29 W pl ka (p + 2) ua'_726 := e_726_C
  have g_726_37 : mf_cv h_726 37 W pl kb (p + 1) ub'_726 := e_726_E
  refine ik_Wk 0 (pc_q := 101) (loc_q := [some (.ref 17), some (fI p), some (fI 3), some (.ref 46), some (fI 2), some (fI 1)]) (st_q := []) (h_q := h_726) (cl_q := 0) (sl_q := 0) rfl ?_
  refine ik_Wk 3 (pc_q := 105) (loc_q := [some (.ref 17), some (fI p), some (fI 3), some (.ref 46), some (fI 2), some (fI 1)]) (st_q := [fI 3, fI 2, .ref 46]) (h_q := h_726) (cl_q := 0) (sl_q := 0) rfl ?_
  refine fw_mul rfl ?_
  refine ik_Wk 1 (pc_q := 108) (loc_q := [some (.ref 17), some (fI p), some (fI 3), some (.ref 46), some (fI 2), some (fI 1)]) (st_q := [fI 1, fI 6, .ref 46]) (h_q := h_726) (cl_q := 0) (sl_q := 0) rfl ?_
  refine fw_add rfl ?_
  refine ik_Wk 2 (pc_q := 111) (loc_q := [some (.ref 17), some (fI p), some (fI 3), some (.ref 46), some (fI 2), some (fI 1)]) (st_q := [fI 0, .ref 17, fI 7, .ref 46]) (h_q := h_726) (cl_q := 0) (sl_q := 0) rfl ?_
  refine ik_Wc 74 2 0 [.ref 17, fI 0] [fI 7, .ref 46] rfl rfl rfl (by decide +kernel) rfl rfl (fw_rec k_726 rfl g_726_17 rfl (Nat.le_of_ble_eq_true rfl)) ?_
  refine ik_Wk 0 (pc_q := 0) (loc_q := [some (.ref 17), some (fI 0)]) (st_q := []) (h_q := h_726) (cl_q := 0) (sl_q := 0) rfl ?_
  refine ik_Wk 1 (pc_q := 1) (loc_q := [some (.ref 17), some (fI 0)]) (st_q := [.ref 17]) (h_q := h_726) (cl_q := 0) (sl_q := 0) rfl ?_
  refine fw_gf rfl rfl g_726_17 rfl ?_
  refine ik_Wk 1 (pc_q := 5) (loc_q := [some (.ref 17), some (fI 0)]) (st_q := [fI 0, .ref 19]) (h_q := h_726) (cl_q := 0) (sl_q := 0) rfl ?_
  refine fx_lal (z := 0) rfl g_726_19 (by decide +kernel) (Nat.le_of_ble_eq_true rfl) (by decide +kernel) ?_
  refine ik_Wk 0 (pc_q := 6) (loc_q := [some (.ref 17), some (fI 0)]) (st_q := [fJ l0_726]) (h_q := h_726) (cl_q := 0) (sl_q := 0) rfl ?_
  refine fw_l2 1000 rfl rfl (by decide +kernel) ?_
  refine fx_ldiv rfl (by omega) (by omega) (by omega) (by omega) ?_
  refine fx_l2i rfl ?_
  refine ik_Wret rfl rfl ⟨_, _, rfl, rfl, ?_⟩
  refine ik_Wk 0 (pc_q := 114) (loc_q := [some (.ref 17), some (fI p), some (fI 3), some (.ref 46), some (fI 2), some (fI 1)]) (st_q := [fI (l0_726 / 1000), fI 7, .ref 46]) (h_q := h_726) (cl_q := 0) (sl_q := 0) rfl ?_
  refine fw_si rfl (by decide +kernel) ?_
  refine fx_idiv rfl (by omega) (by omega) (by omega) (by omega) ?_
  have hl25 : ((((((((fe.set (0 : Int).toNat ((l0_712 / 1000) / 1000)).set (1 : Int).toNat ((l0_714 / 1000) / 1000)).set (2 : Int).toNat ((l0_716 / 1000) / 1000)).set (3 : Int).toNat ((l0_718 / 1000) / 1000)).set (4 : Int).toNat ((l0_720 / 1000) / 1000)).set (5 : Int).toNat ((l0_722 / 1000) / 1000)).set (6 : Int).toNat ((l0_724 / 1000) / 1000)).set (7 : Int).toNat ((l0_726 / 1000) / 1000)).length = 9 := (List.length_set ..).trans hl23
  refine fx_ias rfl g_726_46 (by omega) (by omega) (by omega) ?_
  intro h_727 e_727 f_727 l_727
  have k_727 : cL h_727 := l_727.trans k_726
  have fr_727 := hfr_wb fr_726 f_727 l_727 rfl
  clear l_727
  have g_727_7 := (f_727 7 (Nat.ne_of_beq_eq_false rfl)).trans g_726_7
  have g_727_11 := (f_727 11 (Nat.ne_of_beq_eq_false rfl)).trans g_726_11
  have g_727_12 := (f_727 12 (Nat.ne_of_beq_eq_false rfl)).trans g_726_12
  have g_727_13 := (f_727 13 (Nat.ne_of_beq_eq_false rfl)).trans g_726_13
  have g_727_15 := (f_727 15 (Nat.ne_of_beq_eq_false rfl)).trans g_726_15
  have g_727_17 := (f_727 17 (Nat.ne_of_beq_eq_false rfl)).trans g_726_17
  have g_727_18 := (f_727 18 (Nat.ne_of_beq_eq_false rfl)).trans g_726_18
  have g_727_19 := (f_727 19 (Nat.ne_of_beq_eq_false rfl)).trans g_726_19
  have g_727_21 := mf_cv_f g_726_21 (f_727 21 (Nat.ne_of_beq_eq_false rfl)) (f_727 22 (Nat.ne_of_beq_eq_false rfl)) (f_727 23 (Nat.ne_of_beq_eq_false rfl)) (f_727 24 (Nat.ne_of_beq_eq_false rfl))
  have g_727_25 := mf_cv_f g_726_25 (f_727 25 (Nat.ne_of_beq_eq_false rfl)) (f_727 26 (Nat.ne_of_beq_eq_false rfl)) (f_727 27 (Nat.ne_of_beq_eq_false rfl)) (f_727 28 (Nat.ne_of_beq_eq_false rfl))
  have g_727_29 := mf_cv_f g_726_29 (f_727 29 (Nat.ne_of_beq_eq_false rfl)) (f_727 30 (Nat.ne_of_beq_eq_false rfl)) (f_727 31 (Nat.ne_of_beq_eq_false rfl)) (f_727 32 (Nat.ne_of_beq_eq_false rfl))
  have g_727_33 := mf_cv_f g_726_33 (f_727 33 (Nat.ne_of_beq_eq_false rfl)) (f_727 34 (Nat.ne_of_beq_eq_false rfl)) (f_727 35 (Nat.ne_of_beq_eq_false rfl)) (f_727 36 (Nat.ne_of_beq_eq_false rfl))
  have g_727_37 := mf_cv_f g_726_37 (f_727 37 (Nat.ne_of_beq_eq_false rfl)) (f_727 38 (Nat.ne_of_beq_eq_false rfl)) (f_727 39 (Nat.ne_of_beq_eq_false rfl)) (f_727 40 (Nat.ne_of_beq_eq_false rfl))
  have g_727_41 := mf_cv_f g_726_41 (f_727 41 (Nat.ne_of_beq_eq_false rfl)) (f_727 42 (Nat.ne_of_beq_eq_false rfl)) (f_727 43 (Nat.ne_of_beq_eq_false rfl)) (f_727 44 (Nat.ne_of_beq_eq_false rfl))
  have g_727_46 : cE h_727 46 (.inl (.int, fA ((((((((fe.set (0 : Int).toNat ((l0_712 / 1000) / 1000)).set (1 : Int).toNat ((l0_714 / 1000) / 1000)).set (2 : Int).toNat ((l0_716 / 1000) / 1000)).set (3 : Int).toNat ((l0_718 / 1000) / 1000)).set (4 : Int).toNat ((l0_720 / 1000) / 1000)).set (5 : Int).toNat ((l0_722 / 1000) / 1000)).set (6 : Int).toNat ((l0_724 / 1000) / 1000)).set (7 : Int).toNat ((l0_726 / 1000) / 1000)))) := e_727
  have qfe8 : ∀ i : Int, 0 ≤ i → i < 9 → 0 ≤ ((((((((fe.set (0 : Int).toNat ((l0_712 / 1000) / 1000)).set (1 : Int).toNat ((l0_714 / 1000) / 1000)).set (2 : Int).toNat ((l0_716 / 1000) / 1000)).set (3 : Int).toNat ((l0_718 / 1000) / 1000)).set (4 : Int).toNat ((l0_720 / 1000) / 1000)).set (5 : Int).toNat ((l0_722 / 1000) / 1000)).set (6 : Int).toNat ((l0_724 / 1000) / 1000)).set (7 : Int).toNat ((l0_726 / 1000) / 1000)).getD i.toNat 0 ∧ ((((((((fe.set (0 : Int).toNat ((l0_712 / 1000) / 1000)).set (1 : Int).toNat ((l0_714 / 1000) / 1000)).set (2 : Int).toNat ((l0_716 / 1000) / 1000)).set (3 : Int).toNat ((l0_718 / 1000) / 1000)).set (4 : Int).toNat ((l0_720 / 1000) / 1000)).set (5 : Int).toNat ((l0_722 / 1000) / 1000)).set (6 : Int).toNat ((l0_724 / 1000) / 1000)).set (7 : Int).toNat ((l0_726 / 1000) / 1000)).getD i.toNat 0 ≤ 1000 := by
    intro i i0 i1
    rw [fz_getD_set]
    split
    · omega
    · exact qfe7 i i0 i1
  refine fw_inc (a := 1) (loc_q := [some (.ref 17), some (fI p), some (fI 3), some (.ref 46), some (fI 2), some (fI 2)]) rfl rfl (Nat.le_of_ble_eq_true rfl) rfl ?_
  refine ik_Wk 3 (pc_q := 74) (loc_q := [some (.ref 17), some (fI p), some (fI 3), some (.ref 46), some (fI 2), some (fI 2)]) (st_q := [fI 3, fI 2]) (h_q := h_727) (cl_q := 0) (sl_q := 0) rfl ?_
  refine fw_ic_ge rfl rfl (by decide +kernel) (by decide +kernel) (by decide +kernel) (by decide +kernel) (fun hc26 => absurd hc26 (by decide +kernel)) (fun hc26 => ?_)
  refine ik_Wk 2 (pc_q := 79) (loc_q := [some (.ref 17), some (fI p), some (fI 3), some (.ref 46), some (fI 2), some (fI 2)]) (st_q := [.ref 17, .ref 17]) (h_q := h_727) (cl_q := 0) (sl_q := 0) rfl ?_
  refine fw_gf rfl rfl g_727_17 rfl ?_
  refine ik_Wk 1 (pc_q := 84) (loc_q := [some (.ref 17), some (fI p), some (fI 3), some (.ref 46), some (fI 2), some (fI 2)]) (st_q := [fI 2, .ref 18, .ref 17]) (h_q := h_727) (cl_q := 0) (sl_q := 0) rfl ?_
  refine fx_aal (z := 2) rfl g_727_18 (by decide +kernel) (by decide +kernel) rfl ?_
  refine ik_Wk 2 (pc_q := 87) (loc_q := [some (.ref 17), some (fI p), some (fI 3), some (.ref 46), some (fI 2), some (fI 2)]) (st_q := [.ref 17, fI 0, .ref 29, .ref 17]) (h_q := h_727) (cl_q := 0) (sl_q := 0) rfl ?_
  refine fw_gf rfl rfl g_727_17 rfl ?_
  refine ik_Wk 2 (pc_q := 93) (loc_q := [some (.ref 17), some (fI p), some (fI 3), some (.ref 46), some (fI 2), some (fI 2)]) (st_q := [fI 2, fI 3, .ref 18, fI 0, .ref 29, .ref 17]) (h_q := h_727) (cl_q := 0) (sl_q := 0) rfl ?_
  refine fw_add rfl ?_
  refine fx_aal (z := 5) rfl g_727_18 (by decide +kernel) (by decide +kernel) rfl ?_
  refine ik_Wk 1 (pc_q := 96) (loc_q := [some (.ref 17), some (fI p), some (fI 3), some (.ref 46), some (fI 2), some (fI 2)]) (st_q := [fI 0, .ref 41, fI 0, .ref 29, .ref 17]) (h_q := h_727) (cl_q := 0) (sl_q := 0) rfl ?_
  refine fw_ld 1000000 rfl rfl (by decide +kernel) ?_
  refine fw_call 80 6 0 [.ref 17, .ref 29, fI 0, .ref 41, fI 0, fI 1000000] [] rfl rfl rfl (Nat.le_of_ble_eq_true rfl) rfl rfl (fw_rec k_727 rfl g_727_17 rfl (Nat.le_of_ble_eq_true rfl)) (cs_race (C := 29) (E := 41) (pl := pl) (lo := lo) (s := s) (ka := ka) (pa := (p + 2)) (ma := 0) (kb := kb) (pb := (p + 2)) (mb := 0) (ua := ua'_726) (ub := ub'_722) (lim := 1000000) (bo := l2_726) (la := l0_726) (lb := l1_726) (wg := wg) (wc := wc) (we := we) (W := W) (by omega) (by omega) (by omega) (by omega) (by omega) (by omega) (by omega) q3 q4 g_727_7 g_727_11 n11 g_727_12 n12 g_727_13 n13 g_727_17 g_727_19 g_727_29 g_727_41 k_727) ?_
  rintro _ h_728 ⟨l0_728, l1_728, l2_728, ua'_728, ub'_728, rfl, e_728_17, e_728_19, e_728_C, e_728_E, p_728_0, p_728_1, F_728⟩
  have k_728 : cL h_728 := F_728.1.trans k_727
  have fr_728 := hfr_cb fr_727 F_728 rfl
  have g_728_7 := (hfr_g F_728 7 rfl).trans g_727_7
  have g_728_11 := (hfr_g F_728 11 rfl).trans g_727_11
  have g_728_12 := (hfr_g F_728 12 rfl).trans g_727_12
  have g_728_13 := (hfr_g F_728 13 rfl).trans g_727_13
  have g_728_15 := (hfr_g F_728 15 rfl).trans g_727_15
  have g_728_18 := (hfr_g F_728 18 rfl).trans g_727_18
  have g_728_21 := mf_cv_f g_727_21 (hfr_g F_728 21 rfl) (hfr_g F_728 22 rfl) (hfr_g F_728 23 rfl) (hfr_g F_728 24 rfl)
  have g_728_25 := mf_cv_f g_727_25 (hfr_g F_728 25 rfl) (hfr_g F_728 26 rfl) (hfr_g F_728 27 rfl) (hfr_g F_728 28 rfl)
  have g_728_33 := mf_cv_f g_727_33 (hfr_g F_728 33 rfl) (hfr_g F_728 34 rfl) (hfr_g F_728 35 rfl) (hfr_g F_728 36 rfl)
  have g_728_37 := mf_cv_f g_727_37 (hfr_g F_728 37 rfl) (hfr_g F_728 38 rfl) (hfr_g F_728 39 rfl) (hfr_g F_728 40 rfl)
  have g_728_46 := (hfr_g F_728 46 rfl).trans g_727_46
  have g_728_17 : cE h_728 17 (.inr (8, [.ref 7, .ref 15, .ref 18, .ref 19, fJ l2_728, .ref 20])) := e_728_17
  have g_728_19 : cE h_728 19 (.inl (.long, fL [l0_728, l1_728])) := e_728_19
  have g_728_29 : mf_cv h_728 29 W pl ka (p + 2) ua'_728 := e_728_C
  have g_728_41 : mf_cv h_728 41 W pl kb (p + 2) ub'_728 := e_728_E
  refine ik_Wk 0 (pc_q := 101) (loc_q := [some (.ref 17), some (fI p), some (fI 3), some (.ref 46), some (fI 2), some (fI 2)]) (st_q := []) (h_q := h_728) (cl_q := 0) (sl_q := 0) rfl ?_
  refine ik_Wk 3 (pc_q := 105) (loc_q := [some (.ref 17), some (fI p), some (fI 3), some (.ref 46), some (fI 2), some (fI 2)]) (st_q := [fI 3, fI 2, .ref 46]) (h_q := h_728) (cl_q := 0) (sl_q := 0) rfl ?_
  refine fw_mul rfl ?_
  refine ik_Wk 1 (pc_q := 108) (loc_q := [some (.ref 17), some (fI p), some (fI 3), some (.ref 46), some (fI 2), some (fI 2)]) (st_q := [fI 2, fI 6, .ref 46]) (h_q := h_728) (cl_q := 0) (sl_q := 0) rfl ?_
  refine fw_add rfl ?_
  refine ik_Wk 2 (pc_q := 111) (loc_q := [some (.ref 17), some (fI p), some (fI 3), some (.ref 46), some (fI 2), some (fI 2)]) (st_q := [fI 0, .ref 17, fI 8, .ref 46]) (h_q := h_728) (cl_q := 0) (sl_q := 0) rfl ?_
  refine ik_Wc 74 2 0 [.ref 17, fI 0] [fI 8, .ref 46] rfl rfl rfl (by decide +kernel) rfl rfl (fw_rec k_728 rfl g_728_17 rfl (Nat.le_of_ble_eq_true rfl)) ?_
  refine ik_Wk 0 (pc_q := 0) (loc_q := [some (.ref 17), some (fI 0)]) (st_q := []) (h_q := h_728) (cl_q := 0) (sl_q := 0) rfl ?_
  refine ik_Wk 1 (pc_q := 1) (loc_q := [some (.ref 17), some (fI 0)]) (st_q := [.ref 17]) (h_q := h_728) (cl_q := 0) (sl_q := 0) rfl ?_
  refine fw_gf rfl rfl g_728_17 rfl ?_
  refine ik_Wk 1 (pc_q := 5) (loc_q := [some (.ref 17), some (fI 0)]) (st_q := [fI 0, .ref 19]) (h_q := h_728) (cl_q := 0) (sl_q := 0) rfl ?_
  refine fx_lal (z := 0) rfl g_728_19 (by decide +kernel) (Nat.le_of_ble_eq_true rfl) (by decide +kernel) ?_
  refine ik_Wk 0 (pc_q := 6) (loc_q := [some (.ref 17), some (fI 0)]) (st_q := [fJ l0_728]) (h_q := h_728) (cl_q := 0) (sl_q := 0) rfl ?_
  refine fw_l2 1000 rfl rfl (by decide +kernel) ?_
  refine fx_ldiv rfl (by omega) (by omega) (by omega) (by omega) ?_
  refine fx_l2i rfl ?_
  refine ik_Wret rfl rfl ⟨_, _, rfl, rfl, ?_⟩
  refine ik_Wk 0 (pc_q := 114) (loc_q := [some (.ref 17), some (fI p), some (fI 3), some (.ref 46), some (fI 2), some (fI 2)]) (st_q := [fI (l0_728 / 1000), fI 8, .ref 46]) (h_q := h_728) (cl_q := 0) (sl_q := 0) rfl ?_
  refine fw_si rfl (by decide +kernel) ?_
  refine fx_idiv rfl (by omega) (by omega) (by omega) (by omega) ?_
  have hl27 : (((((((((fe.set (0 : Int).toNat ((l0_712 / 1000) / 1000)).set (1 : Int).toNat ((l0_714 / 1000) / 1000)).set (2 : Int).toNat ((l0_716 / 1000) / 1000)).set (3 : Int).toNat ((l0_718 / 1000) / 1000)).set (4 : Int).toNat ((l0_720 / 1000) / 1000)).set (5 : Int).toNat ((l0_722 / 1000) / 1000)).set (6 : Int).toNat ((l0_724 / 1000) / 1000)).set (7 : Int).toNat ((l0_726 / 1000) / 1000)).set (8 : Int).toNat ((l0_728 / 1000) / 1000)).length = 9 := (List.length_set ..).trans hl25
  refine fx_ias rfl g_728_46 (by omega) (by omega) (by omega) ?_
  intro h_729 e_729 f_729 l_729
  have k_729 : cL h_729 := l_729.trans k_728
  have fr_729 := hfr_wb fr_728 f_729 l_729 rfl
  clear l_729
  have g_729_7 := (f_729 7 (Nat.ne_of_beq_eq_false rfl)).trans g_728_7
  have g_729_11 := (f_729 11 (Nat.ne_of_beq_eq_false rfl)).trans g_728_11
  have g_729_12 := (f_729 12 (Nat.ne_of_beq_eq_false rfl)).trans g_728_12
  have g_729_13 := (f_729 13 (Nat.ne_of_beq_eq_false rfl)).trans g_728_13
  have g_729_15 := (f_729 15 (Nat.ne_of_beq_eq_false rfl)).trans g_728_15
  have g_729_17 := (f_729 17 (Nat.ne_of_beq_eq_false rfl)).trans g_728_17
  have g_729_18 := (f_729 18 (Nat.ne_of_beq_eq_false rfl)).trans g_728_18
  have g_729_19 := (f_729 19 (Nat.ne_of_beq_eq_false rfl)).trans g_728_19
  have g_729_21 := mf_cv_f g_728_21 (f_729 21 (Nat.ne_of_beq_eq_false rfl)) (f_729 22 (Nat.ne_of_beq_eq_false rfl)) (f_729 23 (Nat.ne_of_beq_eq_false rfl)) (f_729 24 (Nat.ne_of_beq_eq_false rfl))
  have g_729_25 := mf_cv_f g_728_25 (f_729 25 (Nat.ne_of_beq_eq_false rfl)) (f_729 26 (Nat.ne_of_beq_eq_false rfl)) (f_729 27 (Nat.ne_of_beq_eq_false rfl)) (f_729 28 (Nat.ne_of_beq_eq_false rfl))
  have g_729_29 := mf_cv_f g_728_29 (f_729 29 (Nat.ne_of_beq_eq_false rfl)) (f_729 30 (Nat.ne_of_beq_eq_false rfl)) (f_729 31 (Nat.ne_of_beq_eq_false rfl)) (f_729 32 (Nat.ne_of_beq_eq_false rfl))
  have g_729_33 := mf_cv_f g_728_33 (f_729 33 (Nat.ne_of_beq_eq_false rfl)) (f_729 34 (Nat.ne_of_beq_eq_false rfl)) (f_729 35 (Nat.ne_of_beq_eq_false rfl)) (f_729 36 (Nat.ne_of_beq_eq_false rfl))
  have g_729_37 := mf_cv_f g_728_37 (f_729 37 (Nat.ne_of_beq_eq_false rfl)) (f_729 38 (Nat.ne_of_beq_eq_false rfl)) (f_729 39 (Nat.ne_of_beq_eq_false rfl)) (f_729 40 (Nat.ne_of_beq_eq_false rfl))
  have g_729_41 := mf_cv_f g_728_41 (f_729 41 (Nat.ne_of_beq_eq_false rfl)) (f_729 42 (Nat.ne_of_beq_eq_false rfl)) (f_729 43 (Nat.ne_of_beq_eq_false rfl)) (f_729 44 (Nat.ne_of_beq_eq_false rfl))
  have g_729_46 : cE h_729 46 (.inl (.int, fA (((((((((fe.set (0 : Int).toNat ((l0_712 / 1000) / 1000)).set (1 : Int).toNat ((l0_714 / 1000) / 1000)).set (2 : Int).toNat ((l0_716 / 1000) / 1000)).set (3 : Int).toNat ((l0_718 / 1000) / 1000)).set (4 : Int).toNat ((l0_720 / 1000) / 1000)).set (5 : Int).toNat ((l0_722 / 1000) / 1000)).set (6 : Int).toNat ((l0_724 / 1000) / 1000)).set (7 : Int).toNat ((l0_726 / 1000) / 1000)).set (8 : Int).toNat ((l0_728 / 1000) / 1000)))) := e_729
  have qfe9 : ∀ i : Int, 0 ≤ i → i < 9 → 0 ≤ (((((((((fe.set (0 : Int).toNat ((l0_712 / 1000) / 1000)).set (1 : Int).toNat ((l0_714 / 1000) / 1000)).set (2 : Int).toNat ((l0_716 / 1000) / 1000)).set (3 : Int).toNat ((l0_718 / 1000) / 1000)).set (4 : Int).toNat ((l0_720 / 1000) / 1000)).set (5 : Int).toNat ((l0_722 / 1000) / 1000)).set (6 : Int).toNat ((l0_724 / 1000) / 1000)).set (7 : Int).toNat ((l0_726 / 1000) / 1000)).set (8 : Int).toNat ((l0_728 / 1000) / 1000)).getD i.toNat 0 ∧ (((((((((fe.set (0 : Int).toNat ((l0_712 / 1000) / 1000)).set (1 : Int).toNat ((l0_714 / 1000) / 1000)).set (2 : Int).toNat ((l0_716 / 1000) / 1000)).set (3 : Int).toNat ((l0_718 / 1000) / 1000)).set (4 : Int).toNat ((l0_720 / 1000) / 1000)).set (5 : Int).toNat ((l0_722 / 1000) / 1000)).set (6 : Int).toNat ((l0_724 / 1000) / 1000)).set (7 : Int).toNat ((l0_726 / 1000) / 1000)).set (8 : Int).toNat ((l0_728 / 1000) / 1000)).getD i.toNat 0 ≤ 1000 := by
    intro i i0 i1
    rw [fz_getD_set]
    split
    · omega
    · exact qfe8 i i0 i1
  refine fw_inc (a := 2) (loc_q := [some (.ref 17), some (fI p), some (fI 3), some (.ref 46), some (fI 2), some (fI 3)]) rfl rfl (Nat.le_of_ble_eq_true rfl) rfl ?_
  refine ik_Wk 3 (pc_q := 74) (loc_q := [some (.ref 17), some (fI p), some (fI 3), some (.ref 46), some (fI 2), some (fI 3)]) (st_q := [fI 3, fI 3]) (h_q := h_729) (cl_q := 0) (sl_q := 0) rfl ?_
  refine fw_ic_ge rfl rfl (by decide +kernel) (by decide +kernel) (by decide +kernel) (by decide +kernel) (fun hc28 => ?_) (fun hc28 => absurd hc28 (by decide +kernel))
  refine fw_inc (a := 2) (loc_q := [some (.ref 17), some (fI p), some (fI 3), some (.ref 46), some (fI 3), some (fI 3)]) rfl rfl (Nat.le_of_ble_eq_true rfl) rfl ?_
  refine ik_Wk 3 (pc_q := 65) (loc_q := [some (.ref 17), some (fI p), some (fI 3), some (.ref 46), some (fI 3), some (fI 3)]) (st_q := [fI 3, fI 3]) (h_q := h_729) (cl_q := 0) (sl_q := 0) rfl ?_
  refine fw_ic_ge rfl rfl (by decide +kernel) (by decide +kernel) (by decide +kernel) (by decide +kernel) (fun hc29 => ?_) (fun hc29 => absurd hc29 (by decide +kernel))
  exact ik_Wret rfl rfl ⟨_, _, rfl, rfl, rfl, rfl, ⟨l0_728, l1_728, l2_728, (((((((((fe.set (0 : Int).toNat ((l0_712 / 1000) / 1000)).set (1 : Int).toNat ((l0_714 / 1000) / 1000)).set (2 : Int).toNat ((l0_716 / 1000) / 1000)).set (3 : Int).toNat ((l0_718 / 1000) / 1000)).set (4 : Int).toNat ((l0_720 / 1000) / 1000)).set (5 : Int).toNat ((l0_722 / 1000) / 1000)).set (6 : Int).toNat ((l0_724 / 1000) / 1000)).set (7 : Int).toNat ((l0_726 / 1000) / 1000)).set (8 : Int).toNat ((l0_728 / 1000) / 1000)), rfl, g_729_17, g_729_19, (mf_cv_r g_729_21), (mf_cv_r g_729_25), (mf_cv_r g_729_29), (mf_cv_r g_729_33), (mf_cv_r g_729_37), (mf_cv_r g_729_41), g_729_46, hl27, qfe9, fr_729⟩⟩

end