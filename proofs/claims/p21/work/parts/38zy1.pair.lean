noncomputable section
theorem mj_nn {n : Int} (h : n ≤ 3) : 1 <<< n.toNat ≤ 8 := by
  rw [Nat.shiftLeft_eq, Nat.one_mul]
  have e : 2 ^ n.toNat ≤ 2 ^ 3 := Nat.pow_le_pow_right (by decide) (by omega)
  exact e
theorem cs_findPairB {h : List ik_E} {n : Int} {fe : List Int} {bo_ : List Int} {sh : List Int} {wh : List Int} {wo : List Int} (q0 : 1 ≤ n ∧ n ≤ 3) (q1 : ∀ i : Int, 0 ≤ i → i < 9 → 0 ≤ fe.getD i.toNat 0 ∧ fe.getD i.toNat 0 ≤ 1000) (nn : Nat) (hnn : nn ≤ 8) (sz : Int) (hs : 1 ≤ sz ∧ sz ≤ 3) (sa : Nat) (ha : 1 ≤ sa ∧ sa < 8)  (K : ∀ (w : List ik_E) (sb2 : Nat) (b1 : List Int) (s1 : List Int) (t1 : List Int) (u1 : List Int) (w45 : cE w 45 (.inr (5, [.ref 46, .ref 47, .ref 48, .ref 49, .ref 50]))) (w46 : cE w 46 (.inl (.int, fA fe))) (nw_46 : fe.length = 9) (w47 : cE w 47 (.inl (.long, fL b1))) (nw_47 : b1.length = 12) (w48 : cE w 48 (.inl (.long, fL s1))) (nw_48 : s1.length = 6) (w49 : cE w 49 (.inl (.long, fL t1))) (nw_49 : t1.length = 2) (w50 : cE w 50 (.inl (.long, fL u1))) (nw_50 : u1.length = 2) (wl : w.length = 94) (F : hfr [47, 48, 49, 50] h w) , ik_G 43 68 [some (.ref 45), some (fI n), some (fI ((nn : Nat) : Int)), some (fI sz), some (fI ((sa : Nat) : Int)), some (fI ((sb2 : Nat) : Int))] [] w (fun rv h' => ∃ (bo' : List Int) (sh' : List Int) (wh' : List Int) (wo' : List Int) (b : Int), rv = [fI b] ∧ cE h' 47 (.inl (.long, fL bo')) ∧ bo'.length = 12 ∧ cE h' 48 (.inl (.long, fL sh')) ∧ sh'.length = 6 ∧ cE h' 49 (.inl (.long, fL wh')) ∧ wh'.length = 2 ∧ cE h' 50 (.inl (.long, fL wo')) ∧ wo'.length = 2 ∧ (0 ≤ b ∧ b ≤ 1) ∧ hfr [47, 48, 49, 50] h h')) : ∀ (k : Nat) (sb : Nat) (b1 : List Int) (s1 : List Int) (t1 : List Int) (u1 : List Int) (u : List ik_E) (u45 : cE u 45 (.inr (5, [.ref 46, .ref 47, .ref 48, .ref 49, .ref 50]))) (u46 : cE u 46 (.inl (.int, fA fe))) (n46 : fe.length = 9) (u47 : cE u 47 (.inl (.long, fL b1))) (n47 : b1.length = 12) (u48 : cE u 48 (.inl (.long, fL s1))) (n48 : s1.length = 6) (u49 : cE u 49 (.inl (.long, fL t1))) (n49 : t1.length = 2) (u50 : cE u 50 (.inl (.long, fL u1))) (n50 : u1.length = 2) (ul : u.length = 94) (F : hfr [47, 48, 49, 50] h u) (hb : 1 ≤ sb ∧ sb ≤ 8) (hk : 8 - (sb : Int) < (k : Int)), ik_G 43 23 [some (.ref 45), some (fI n), some (fI ((nn : Nat) : Int)), some (fI sz), some (fI ((sa : Nat) : Int)), some (fI ((sb : Nat) : Int))] [] u (fun rv h' => ∃ (bo' : List Int) (sh' : List Int) (wh' : List Int) (wo' : List Int) (b : Int), rv = [fI b] ∧ cE h' 47 (.inl (.long, fL bo')) ∧ bo'.length = 12 ∧ cE h' 48 (.inl (.long, fL sh')) ∧ sh'.length = 6 ∧ cE h' 49 (.inl (.long, fL wh')) ∧ wh'.length = 2 ∧ cE h' 50 (.inl (.long, fL wo')) ∧ wo'.length = 2 ∧ (0 ≤ b ∧ b ≤ 1) ∧ hfr [47, 48, 49, 50] h h') := by
  intro k
  induction k with
  | zero => intro sb b1 s1 t1 u1 u u45 u46 n46 u47 n47 u48 n48 u49 n49 u50 n50 ul F hb hk; omega
  | succ k ih =>
    intro sb b1 s1 t1 u1 u u45 u46 n46 u47 n47 u48 n48 u49 n49 u50 n50 ul F hb hk
    refine ik_Wk 2 (pc' := 26) (loc' := [some (.ref 45), some (fI n), some (fI ((nn : Nat) : Int)), some (fI sz), some (fI ((sa : Nat) : Int)), some (fI ((sb : Nat) : Int))]) (st' := [fI ((nn : Nat) : Int), fI ((sb : Nat) : Int)]) (h' := u) (cl' := 0) (sl' := 0) rfl ?_
    refine fw_ic_ge rfl rfl (by omega) (by omega) (by omega) (by omega) (fun hc1 => ?_) (fun hc1 => ?_)
    · exact K u sb b1 s1 t1 u1 u45 u46 n46 u47 n47 u48 n48 u49 n49 u50 n50 ul F
    · refine ik_Wk 1 (pc' := 31) (loc' := [some (.ref 45), some (fI n), some (fI ((nn : Nat) : Int)), some (fI sz), some (fI ((sa : Nat) : Int)), some (fI ((sb : Nat) : Int))]) (st' := [fI ((sa : Nat) : Int)]) (h' := u) (cl' := 0) (sl' := 0) rfl ?_
      refine fw_call 211 1 3 [fI ((sa : Nat) : Int)] [] rfl rfl rfl (by decide) rfl rfl (fw_sta ul rfl (by decide)) (cj_bits (v := ((sa : Nat) : Int))   ul) ?_
      rintro _ h_685 ⟨z_685, rfl, p_685_0, F_685⟩
      have k_685 := F_685.1.trans ul
      have fr_685 := hfr_c F F_685 (by decide)
      have g_685_45 := (F_685.2 45 (by decide +kernel)).trans u45
      have g_685_46 := (F_685.2 46 (by decide +kernel)).trans u46
      have g_685_47 := (F_685.2 47 (by decide +kernel)).trans u47
      have g_685_48 := (F_685.2 48 (by decide +kernel)).trans u48
      have g_685_49 := (F_685.2 49 (by decide +kernel)).trans u49
      have g_685_50 := (F_685.2 50 (by decide +kernel)).trans u50
      refine ik_Wk 0 (pc' := 34) (loc' := [some (.ref 45), some (fI n), some (fI ((nn : Nat) : Int)), some (fI sz), some (fI ((sa : Nat) : Int)), some (fI ((sb : Nat) : Int))]) (st' := [fI z_685]) (h' := h_685) (cl' := 0) (sl' := 0) rfl ?_
      refine ik_Wk 1 (pc' := 35) (loc' := [some (.ref 45), some (fI n), some (fI ((nn : Nat) : Int)), some (fI sz), some (fI ((sa : Nat) : Int)), some (fI ((sb : Nat) : Int))]) (st' := [fI sz, fI z_685]) (h' := h_685) (cl' := 0) (sl' := 0) rfl ?_
      refine fw_ic_ne rfl rfl (by omega) (by omega) (by omega) (by omega) (fun hc2 => ?_) (fun hc2 => ?_)
      · refine ik_Wk 1 (pc' := 40) (loc' := [some (.ref 45), some (fI n), some (fI ((nn : Nat) : Int)), some (fI sz), some (fI ((sa : Nat) : Int)), some (fI ((sb : Nat) : Int))]) (st' := [fI ((sb : Nat) : Int)]) (h' := h_685) (cl' := 0) (sl' := 0) rfl ?_
        refine fw_call 211 1 3 [fI ((sb : Nat) : Int)] [] rfl rfl rfl (by decide) rfl rfl (fw_sta k_685 rfl (by decide)) (cj_bits (v := ((sb : Nat) : Int))   k_685) ?_
        rintro _ h_686 ⟨z_686, rfl, p_686_0, F_686⟩
        have k_686 := F_686.1.trans k_685
        have fr_686 := hfr_c fr_685 F_686 (by decide)
        have g_686_45 := (F_686.2 45 (by decide +kernel)).trans g_685_45
        have g_686_46 := (F_686.2 46 (by decide +kernel)).trans g_685_46
        have g_686_47 := (F_686.2 47 (by decide +kernel)).trans g_685_47
        have g_686_48 := (F_686.2 48 (by decide +kernel)).trans g_685_48
        have g_686_49 := (F_686.2 49 (by decide +kernel)).trans g_685_49
        have g_686_50 := (F_686.2 50 (by decide +kernel)).trans g_685_50
        refine ik_Wk 0 (pc' := 43) (loc' := [some (.ref 45), some (fI n), some (fI ((nn : Nat) : Int)), some (fI sz), some (fI ((sa : Nat) : Int)), some (fI ((sb : Nat) : Int))]) (st' := [fI z_686]) (h' := h_686) (cl' := 0) (sl' := 0) rfl ?_
        refine ik_Wk 1 (pc' := 44) (loc' := [some (.ref 45), some (fI n), some (fI ((nn : Nat) : Int)), some (fI sz), some (fI ((sa : Nat) : Int)), some (fI ((sb : Nat) : Int))]) (st' := [fI sz, fI z_686]) (h' := h_686) (cl' := 0) (sl' := 0) rfl ?_
        refine fw_ic_ne rfl rfl (by omega) (by omega) (by omega) (by omega) (fun hc3 => ?_) (fun hc3 => ?_)
        · refine ik_Wk 5 (pc' := 54) (loc' := [some (.ref 45), some (fI n), some (fI ((nn : Nat) : Int)), some (fI sz), some (fI ((sa : Nat) : Int)), some (fI ((sb : Nat) : Int))]) (st' := [fI n, fI sz, fI ((sb : Nat) : Int), fI ((sa : Nat) : Int), .ref 45]) (h' := h_686) (cl' := 0) (sl' := 0) rfl ?_
          refine fw_call 44 5 0 [.ref 45, fI ((sa : Nat) : Int), fI ((sb : Nat) : Int), fI sz, fI n] [] rfl rfl rfl (by decide) rfl rfl (fw_rec k_686 rfl g_686_45 rfl (by decide)) (cs_mixFits (sa := sa) (sb := sb) (sz := sz) (n := n) (fe := fe) (bo_ := b1) (sh := s1) (wh := t1) (wo := u1) (by omega) (by omega) (by omega) (by omega) q1 g_686_45 g_686_46 n46 g_686_47 n47 g_686_48 n48 g_686_49 n49 g_686_50 n50 k_686) ?_
          rintro _ h_687 ⟨bo'_687, sh'_687, wh'_687, wo'_687, b_687, rfl, e_687_47, m_687_47, e_687_48, m_687_48, e_687_49, m_687_49, e_687_50, m_687_50, p_687_0, F_687⟩
          have k_687 := F_687.1.trans k_686
          have fr_687 := hfr_c fr_686 F_687 (by decide)
          have g_687_45 := (F_687.2 45 (by decide +kernel)).trans g_686_45
          have g_687_46 := (F_687.2 46 (by decide +kernel)).trans g_686_46
          have g_687_47 : cE h_687 47 (.inl (.long, fL bo'_687)) := e_687_47
          have g_687_48 : cE h_687 48 (.inl (.long, fL sh'_687)) := e_687_48
          have g_687_49 : cE h_687 49 (.inl (.long, fL wh'_687)) := e_687_49
          have g_687_50 : cE h_687 50 (.inl (.long, fL wo'_687)) := e_687_50
          refine ik_Wk 0 (pc' := 57) (loc' := [some (.ref 45), some (fI n), some (fI ((nn : Nat) : Int)), some (fI sz), some (fI ((sa : Nat) : Int)), some (fI ((sb : Nat) : Int))]) (st' := [fI b_687]) (h' := h_687) (cl' := 0) (sl' := 0) rfl ?_
          refine fw_if_eq rfl rfl (by omega) (by omega) (fun hc4 => ?_) (fun hc4 => ?_)
          · refine fw_inc (a := ((sb : Nat) : Int)) (loc' := [some (.ref 45), some (fI n), some (fI ((nn : Nat) : Int)), some (fI sz), some (fI ((sa : Nat) : Int)), some (fI (((sb : Nat) : Int) + 1))]) rfl rfl (Nat.le_of_ble_eq_true rfl) rfl ?_
            refine ik_Wk 1 (pc' := 23) (loc' := [some (.ref 45), some (fI n), some (fI ((nn : Nat) : Int)), some (fI sz), some (fI ((sa : Nat) : Int)), some (fI (((sb : Nat) : Int) + 1))]) (st' := []) (h' := h_687) (cl' := 0) (sl' := 0) rfl ?_
            rw [show ((sb : Nat) : Int) + 1 = ((sb + 1 : Nat) : Int) from rfl]
            exact ih (sb + 1) bo'_687 sh'_687 wh'_687 wo'_687 h_687 g_687_45 g_687_46 n46 g_687_47 m_687_47 g_687_48 m_687_48 g_687_49 m_687_49 g_687_50 m_687_50 k_687 fr_687 (by omega) (by omega)
          · refine ik_Wk 1 (pc' := 61) (loc' := [some (.ref 45), some (fI n), some (fI ((nn : Nat) : Int)), some (fI sz), some (fI ((sa : Nat) : Int)), some (fI ((sb : Nat) : Int))]) (st' := [fI 1]) (h' := h_687) (cl' := 0) (sl' := 0) rfl ?_
            exact ik_Wret rfl rfl ⟨_, _, rfl, rfl, rfl, rfl, ⟨bo'_687, sh'_687, wh'_687, wo'_687, 1, rfl, g_687_47, m_687_47, g_687_48, m_687_48, g_687_49, m_687_49, g_687_50, m_687_50, (by omega), fr_687⟩⟩
        · refine fw_inc (a := ((sb : Nat) : Int)) (loc' := [some (.ref 45), some (fI n), some (fI ((nn : Nat) : Int)), some (fI sz), some (fI ((sa : Nat) : Int)), some (fI (((sb : Nat) : Int) + 1))]) rfl rfl (Nat.le_of_ble_eq_true rfl) rfl ?_
          refine ik_Wk 1 (pc' := 23) (loc' := [some (.ref 45), some (fI n), some (fI ((nn : Nat) : Int)), some (fI sz), some (fI ((sa : Nat) : Int)), some (fI (((sb : Nat) : Int) + 1))]) (st' := []) (h' := h_686) (cl' := 0) (sl' := 0) rfl ?_
          rw [show ((sb : Nat) : Int) + 1 = ((sb + 1 : Nat) : Int) from rfl]
          exact ih (sb + 1) b1 s1 t1 u1 h_686 g_686_45 g_686_46 n46 g_686_47 n47 g_686_48 n48 g_686_49 n49 g_686_50 n50 k_686 fr_686 (by omega) (by omega)
      · refine fw_inc (a := ((sb : Nat) : Int)) (loc' := [some (.ref 45), some (fI n), some (fI ((nn : Nat) : Int)), some (fI sz), some (fI ((sa : Nat) : Int)), some (fI (((sb : Nat) : Int) + 1))]) rfl rfl (Nat.le_of_ble_eq_true rfl) rfl ?_
        refine ik_Wk 1 (pc' := 23) (loc' := [some (.ref 45), some (fI n), some (fI ((nn : Nat) : Int)), some (fI sz), some (fI ((sa : Nat) : Int)), some (fI (((sb : Nat) : Int) + 1))]) (st' := []) (h' := h_685) (cl' := 0) (sl' := 0) rfl ?_
        rw [show ((sb : Nat) : Int) + 1 = ((sb + 1 : Nat) : Int) from rfl]
        exact ih (sb + 1) b1 s1 t1 u1 h_685 g_685_45 g_685_46 n46 g_685_47 n47 g_685_48 n48 g_685_49 n49 g_685_50 n50 k_685 fr_685 (by omega) (by omega)

theorem cs_findPairA {h : List ik_E} {n : Int} {fe : List Int} {bo_ : List Int} {sh : List Int} {wh : List Int} {wo : List Int} (q0 : 1 ≤ n ∧ n ≤ 3) (q1 : ∀ i : Int, 0 ≤ i → i < 9 → 0 ≤ fe.getD i.toNat 0 ∧ fe.getD i.toNat 0 ≤ 1000) (nn : Nat) (hnn : nn ≤ 8) (sz : Int) (hs : 1 ≤ sz ∧ sz ≤ 3)  (K : ∀ (w : List ik_E) (sa2 : Nat) (b1 : List Int) (s1 : List Int) (t1 : List Int) (u1 : List Int) (x5 : Option Value) (w45 : cE w 45 (.inr (5, [.ref 46, .ref 47, .ref 48, .ref 49, .ref 50]))) (w46 : cE w 46 (.inl (.int, fA fe))) (nw_46 : fe.length = 9) (w47 : cE w 47 (.inl (.long, fL b1))) (nw_47 : b1.length = 12) (w48 : cE w 48 (.inl (.long, fL s1))) (nw_48 : s1.length = 6) (w49 : cE w 49 (.inl (.long, fL t1))) (nw_49 : t1.length = 2) (w50 : cE w 50 (.inl (.long, fL u1))) (nw_50 : u1.length = 2) (wl : w.length = 94) (F : hfr [47, 48, 49, 50] h w) (w5 : ik_wl 94 x5 = true), ik_G 43 74 [some (.ref 45), some (fI n), some (fI ((nn : Nat) : Int)), some (fI sz), some (fI ((sa2 : Nat) : Int)), x5] [] w (fun rv h' => ∃ (bo' : List Int) (sh' : List Int) (wh' : List Int) (wo' : List Int) (b : Int), rv = [fI b] ∧ cE h' 47 (.inl (.long, fL bo')) ∧ bo'.length = 12 ∧ cE h' 48 (.inl (.long, fL sh')) ∧ sh'.length = 6 ∧ cE h' 49 (.inl (.long, fL wh')) ∧ wh'.length = 2 ∧ cE h' 50 (.inl (.long, fL wo')) ∧ wo'.length = 2 ∧ (0 ≤ b ∧ b ≤ 1) ∧ hfr [47, 48, 49, 50] h h')) : ∀ (k : Nat) (sa : Nat) (b1 : List Int) (s1 : List Int) (t1 : List Int) (u1 : List Int) (x5 : Option Value) (u : List ik_E) (u45 : cE u 45 (.inr (5, [.ref 46, .ref 47, .ref 48, .ref 49, .ref 50]))) (u46 : cE u 46 (.inl (.int, fA fe))) (n46 : fe.length = 9) (u47 : cE u 47 (.inl (.long, fL b1))) (n47 : b1.length = 12) (u48 : cE u 48 (.inl (.long, fL s1))) (n48 : s1.length = 6) (u49 : cE u 49 (.inl (.long, fL t1))) (n49 : t1.length = 2) (u50 : cE u 50 (.inl (.long, fL u1))) (n50 : u1.length = 2) (ul : u.length = 94) (F : hfr [47, 48, 49, 50] h u) (ha : 1 ≤ sa ∧ sa ≤ 8) (w5 : ik_wl 94 x5 = true) (hk : 8 - (sa : Int) < (k : Int)), ik_G 43 14 [some (.ref 45), some (fI n), some (fI ((nn : Nat) : Int)), some (fI sz), some (fI ((sa : Nat) : Int)), x5] [] u (fun rv h' => ∃ (bo' : List Int) (sh' : List Int) (wh' : List Int) (wo' : List Int) (b : Int), rv = [fI b] ∧ cE h' 47 (.inl (.long, fL bo')) ∧ bo'.length = 12 ∧ cE h' 48 (.inl (.long, fL sh')) ∧ sh'.length = 6 ∧ cE h' 49 (.inl (.long, fL wh')) ∧ wh'.length = 2 ∧ cE h' 50 (.inl (.long, fL wo')) ∧ wo'.length = 2 ∧ (0 ≤ b ∧ b ≤ 1) ∧ hfr [47, 48, 49, 50] h h') := by
  intro k
  induction k with
  | zero => intro sa b1 s1 t1 u1 x5 u u45 u46 n46 u47 n47 u48 n48 u49 n49 u50 n50 ul F ha w5 hk; omega
  | succ k ih =>
    intro sa b1 s1 t1 u1 x5 u u45 u46 n46 u47 n47 u48 n48 u49 n49 u50 n50 ul F ha w5 hk
    refine ik_Wk 2 (pc' := 17) (loc' := [some (.ref 45), some (fI n), some (fI ((nn : Nat) : Int)), some (fI sz), some (fI ((sa : Nat) : Int)), x5]) (st' := [fI ((nn : Nat) : Int), fI ((sa : Nat) : Int)]) (h' := u) (cl' := 0) (sl' := 0) rfl ?_
    refine fw_ic_ge rfl rfl (by omega) (by omega) (by omega) (by omega) (fun hc1 => ?_) (fun hc1 => ?_)
    · exact K u sa b1 s1 t1 u1 x5 u45 u46 n46 u47 n47 u48 n48 u49 n49 u50 n50 ul F w5
    · refine ik_Wk 2 (pc' := 23) (loc' := [some (.ref 45), some (fI n), some (fI ((nn : Nat) : Int)), some (fI sz), some (fI ((sa : Nat) : Int)), some (fI 1)]) (st' := []) (h' := u) (cl' := 0) (sl' := 0) rfl ?_
      refine cs_findPairB (n := n) (fe := fe) (bo_ := bo_) (sh := sh) (wh := wh) (wo := wo) q0 q1 nn hnn sz (by omega) sa (by omega)  (fun h_688 sb2_688 b1_688 s1_688 t1_688 u1_688 g_688_45 g_688_46 m_688_46 g_688_47 m_688_47 g_688_48 m_688_48 g_688_49 m_688_49 g_688_50 m_688_50 k_688 fr_688 => ?_) 9 1 b1 s1 t1 u1 u u45 u46 n46 u47 n47 u48 n48 u49 n49 u50 n50 ul F (by omega) (by omega)
      refine fw_inc (a := ((sa : Nat) : Int)) (loc' := [some (.ref 45), some (fI n), some (fI ((nn : Nat) : Int)), some (fI sz), some (fI (((sa : Nat) : Int) + 1)), some (fI ((sb2_688 : Nat) : Int))]) rfl rfl (Nat.le_of_ble_eq_true rfl) rfl ?_
      refine ik_Wk 1 (pc' := 14) (loc' := [some (.ref 45), some (fI n), some (fI ((nn : Nat) : Int)), some (fI sz), some (fI (((sa : Nat) : Int) + 1)), some (fI ((sb2_688 : Nat) : Int))]) (st' := []) (h' := h_688) (cl' := 0) (sl' := 0) rfl ?_
      rw [show ((sa : Nat) : Int) + 1 = ((sa + 1 : Nat) : Int) from rfl]
      exact ih (sa + 1) b1_688 s1_688 t1_688 u1_688 (some (fI ((sb2_688 : Nat) : Int))) h_688 g_688_45 g_688_46 m_688_46 g_688_47 m_688_47 g_688_48 m_688_48 g_688_49 m_688_49 g_688_50 m_688_50 k_688 fr_688 (by omega) rfl (by omega)

theorem cs_findPairS {h : List ik_E} {n : Int} {fe : List Int} {bo_ : List Int} {sh : List Int} {wh : List Int} {wo : List Int} (q0 : 1 ≤ n ∧ n ≤ 3) (q1 : ∀ i : Int, 0 ≤ i → i < 9 → 0 ≤ fe.getD i.toNat 0 ∧ fe.getD i.toNat 0 ≤ 1000) (nn : Nat) (hnn : nn ≤ 8) : ∀ (k : Nat) (sz : Int) (b1 : List Int) (s1 : List Int) (t1 : List Int) (u1 : List Int) (x4 : Option Value) (x5 : Option Value) (u : List ik_E) (u45 : cE u 45 (.inr (5, [.ref 46, .ref 47, .ref 48, .ref 49, .ref 50]))) (u46 : cE u 46 (.inl (.int, fA fe))) (n46 : fe.length = 9) (u47 : cE u 47 (.inl (.long, fL b1))) (n47 : b1.length = 12) (u48 : cE u 48 (.inl (.long, fL s1))) (n48 : s1.length = 6) (u49 : cE u 49 (.inl (.long, fL t1))) (n49 : t1.length = 2) (u50 : cE u 50 (.inl (.long, fL u1))) (n50 : u1.length = 2) (ul : u.length = 94) (F : hfr [47, 48, 49, 50] h u) (hs : 1 ≤ sz ∧ sz ≤ n + 1) (w4 : ik_wl 94 x4 = true) (w5 : ik_wl 94 x5 = true) (hk : n + 1 - sz < (k : Int)), ik_G 43 6 [some (.ref 45), some (fI n), some (fI ((nn : Nat) : Int)), some (fI sz), x4, x5] [] u (fun rv h' => ∃ (bo' : List Int) (sh' : List Int) (wh' : List Int) (wo' : List Int) (b : Int), rv = [fI b] ∧ cE h' 47 (.inl (.long, fL bo')) ∧ bo'.length = 12 ∧ cE h' 48 (.inl (.long, fL sh')) ∧ sh'.length = 6 ∧ cE h' 49 (.inl (.long, fL wh')) ∧ wh'.length = 2 ∧ cE h' 50 (.inl (.long, fL wo')) ∧ wo'.length = 2 ∧ (0 ≤ b ∧ b ≤ 1) ∧ hfr [47, 48, 49, 50] h h') := by
  intro k
  induction k with
  | zero => intro sz b1 s1 t1 u1 x4 x5 u u45 u46 n46 u47 n47 u48 n48 u49 n49 u50 n50 ul F hs w4 w5 hk; omega
  | succ k ih =>
    intro sz b1 s1 t1 u1 x4 x5 u u45 u46 n46 u47 n47 u48 n48 u49 n49 u50 n50 ul F hs w4 w5 hk
    refine ik_Wk 2 (pc' := 8) (loc' := [some (.ref 45), some (fI n), some (fI ((nn : Nat) : Int)), some (fI sz), x4, x5]) (st' := [fI n, fI sz]) (h' := u) (cl' := 0) (sl' := 0) rfl ?_
    refine fw_ic_gt rfl rfl (by omega) (by omega) (by omega) (by omega) (fun hc1 => ?_) (fun hc1 => ?_)
    · refine ik_Wk 1 (pc' := 81) (loc' := [some (.ref 45), some (fI n), some (fI ((nn : Nat) : Int)), some (fI sz), x4, x5]) (st' := [fI 0]) (h' := u) (cl' := 0) (sl' := 0) rfl ?_
      exact ik_Wret rfl rfl ⟨_, _, rfl, rfl, rfl, rfl, ⟨b1, s1, t1, u1, 0, rfl, u47, n47, u48, n48, u49, n49, u50, n50, (by omega), F⟩⟩
    · refine ik_Wk 2 (pc' := 14) (loc' := [some (.ref 45), some (fI n), some (fI ((nn : Nat) : Int)), some (fI sz), some (fI 1), x5]) (st' := []) (h' := u) (cl' := 0) (sl' := 0) rfl ?_
      refine cs_findPairA (n := n) (fe := fe) (bo_ := bo_) (sh := sh) (wh := wh) (wo := wo) q0 q1 nn hnn sz (by omega)  (fun h_689 sa2_689 b1_689 s1_689 t1_689 u1_689 x5_689 g_689_45 g_689_46 m_689_46 g_689_47 m_689_47 g_689_48 m_689_48 g_689_49 m_689_49 g_689_50 m_689_50 k_689 fr_689 w5_689 => ?_) 9 1 b1 s1 t1 u1 x5 u u45 u46 n46 u47 n47 u48 n48 u49 n49 u50 n50 ul F (by omega) w5 (by omega)
      refine fw_inc (a := sz) (loc' := [some (.ref 45), some (fI n), some (fI ((nn : Nat) : Int)), some (fI (sz + 1)), some (fI ((sa2_689 : Nat) : Int)), x5_689]) rfl rfl (Nat.le_of_ble_eq_true rfl) rfl ?_
      refine ik_Wk 1 (pc' := 6) (loc' := [some (.ref 45), some (fI n), some (fI ((nn : Nat) : Int)), some (fI (sz + 1)), some (fI ((sa2_689 : Nat) : Int)), x5_689]) (st' := []) (h' := h_689) (cl' := 0) (sl' := 0) rfl ?_
      exact ih  (sz + 1) b1_689 s1_689 t1_689 u1_689 (some (fI ((sa2_689 : Nat) : Int))) x5_689 h_689 g_689_45 g_689_46 m_689_46 g_689_47 m_689_47 g_689_48 m_689_48 g_689_49 m_689_49 g_689_50 m_689_50 k_689 fr_689 (by omega) rfl w5_689 (by omega)

theorem cs_findPair {h : List ik_E} {n : Int} {fe : List Int} {bo_ : List Int} {sh : List Int} {wh : List Int} {wo : List Int} (q0 : 1 ≤ n ∧ n ≤ 3) (q1 : ∀ i : Int, 0 ≤ i → i < 9 → 0 ≤ fe.getD i.toNat 0 ∧ fe.getD i.toNat 0 ≤ 1000) (h45 : cE h 45 (.inr (5, [.ref 46, .ref 47, .ref 48, .ref 49, .ref 50]))) (h46 : cE h 46 (.inl (.int, fA fe))) (n46 : fe.length = 9) (h47 : cE h 47 (.inl (.long, fL bo_))) (n47 : bo_.length = 12) (h48 : cE h 48 (.inl (.long, fL sh))) (n48 : sh.length = 6) (h49 : cE h 49 (.inl (.long, fL wh))) (n49 : wh.length = 2) (h50 : cE h 50 (.inl (.long, fL wo))) (n50 : wo.length = 2) (hl : h.length = 94) : ik_F 43 [.ref 45, fI n] h (fun rv h' => ∃ (bo' : List Int) (sh' : List Int) (wh' : List Int) (wo' : List Int) (b : Int), rv = [fI b] ∧ cE h' 47 (.inl (.long, fL bo')) ∧ bo'.length = 12 ∧ cE h' 48 (.inl (.long, fL sh')) ∧ sh'.length = 6 ∧ cE h' 49 (.inl (.long, fL wh')) ∧ wh'.length = 2 ∧ cE h' 50 (.inl (.long, fL wo')) ∧ wo'.length = 2 ∧ (0 ≤ b ∧ b ≤ 1) ∧ hfr [47, 48, 49, 50] h h') := by
  refine ik_Wk 2 (pc' := 2) (loc' := [some (.ref 45), some (fI n), none, none, none, none]) (st' := [fI n, fI 1]) (h' := h) (cl' := 0) (sl' := 0) rfl ?_
  refine fx_shl rfl (by omega) (by omega) ?_
  refine ik_Wk 3 (pc' := 6) (loc' := [some (.ref 45), some (fI n), some (fI ((1 <<< n.toNat : Nat) : Int)), some (fI 1), none, none]) (st' := []) (h' := h) (cl' := 0) (sl' := 0) rfl ?_
  exact cs_findPairS (n := n) (fe := fe) (bo_ := bo_) (sh := sh) (wh := wh) (wo := wo) q0 q1 (1 <<< n.toNat) (mj_nn q0.2) (n.toNat + 1) 1 bo_ sh wh wo none none h h45 h46 n46 h47 n47 h48 n48 h49 n49 h50 n50 hl (hfr_refl [47, 48, 49, 50] h) (by omega) rfl rfl (by omega)
end
