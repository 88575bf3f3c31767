noncomputable section
/-! whose cork comes later: race (class), laterBy (reference) (written by wip/fx/u10.py) -/
theorem cr_byThen {h : List ik_E} {r : Nat} {i : Int} {m : Int} {rr : List Int} {c : Nat → Int} (q0 : -1 ≤ i ∧ i ≤ 200) (q1 : 0 ≤ m ∧ m ≤ 30) (q2 : ∀ j : Nat, j ≤ 200 → rr.getD j 0 = c j) (hr : cE h r (.inl (.long, fL rr))) (nr : rr.length = 201) (hl : h.length = 94) : ik_F 166 [.ref r, fI i, fI m] h (fun rv h' => rv = [fJ (mr_by c m i)] ∧ hfr [] h h') := by
  refine ik_Wk 2 (pc' := 2) (loc' := [some (.ref r), some (fI i), some (fI m)]) (st' := [fI m, fI i]) (h' := h) (cl' := 0) (sl' := 0) rfl ?_
  refine fw_ic_ge rfl rfl (by omega) (by omega) (by omega) (by omega) (fun hc1 => ?_) (fun hc1 => ?_)
  · refine ik_Wk 3 (pc' := 12) (loc' := [some (.ref r), some (fI i), some (fI m)]) (st' := [fI m, fI i, .ref r]) (h' := h) (cl' := 0) (sl' := 0) rfl ?_
    refine fw_sub rfl ?_
    refine fx_lal rfl hr (by omega) (by omega) (by omega) ?_
    exact ik_Wret rfl rfl ⟨_, _, rfl, rfl, rfl, rfl, ⟨(by unfold mr_by; rw [if_neg (by omega), q2 _ (by omega)]), (hfr_refl [] h)⟩⟩
  · refine fw_lc (z := 0) rfl (by decide) ?_
    refine ik_Wk 1 (pc' := 14) (loc' := [some (.ref r), some (fI i), some (fI m)]) (st' := [fJ 0]) (h' := h) (cl' := 0) (sl' := 0) rfl ?_
    exact ik_Wret rfl rfl ⟨_, _, rfl, rfl, rfl, rfl, ⟨(by unfold mr_by; rw [if_pos (by omega)]), (hfr_refl [] h)⟩⟩

theorem cr_justThen {h : List ik_E} {r : Nat} {i : Int} {m : Int} {rr : List Int} {c : Nat → Int} (q0 : 0 ≤ i ∧ i ≤ 200) (q1 : 0 ≤ m ∧ m ≤ 30) (q2 : ∀ j : Nat, j ≤ 200 → rr.getD j 0 = c j) (q3 : r < 94) (hr : cE h r (.inl (.long, fL rr))) (nr : rr.length = 201) (hl : h.length = 94) : ik_F 167 [.ref r, fI i, fI m] h (fun rv h' => rv = [fJ (mr_ju c m i)] ∧ hfr [] h h') := by
  refine ik_Wk 3 (pc' := 3) (loc' := [some (.ref r), some (fI i), some (fI m)]) (st' := [fI m, fI i, .ref r]) (h' := h) (cl' := 0) (sl' := 0) rfl ?_
  refine fw_call 166 3 3 [.ref r, fI i, fI m] [] rfl rfl rfl (by decide) rfl rfl (fw_sta hl (fw_ftx rfl wv_n (wl_c (wl_r (by omega)) (wl_c rfl (wl_c rfl wl_n)))) (by decide)) (cr_byThen (r := r) (i := i) (m := m) (rr := rr) (c := c) (by omega) (by omega) q2 hr nr hl) ?_
  rintro _ h_153 ⟨rfl, F_153⟩
  have k_153 := F_153.1.trans hl
  have fr_153 := hfr_c (hfr_refl [] h) F_153 (by decide)
  have g_153_r := (F_153.2 r (by simp <;> omega)).trans hr
  refine ik_Wk 0 (pc' := 6) (loc' := [some (.ref r), some (fI i), some (fI m)]) (st' := [fJ (mr_by c m i)]) (h' := h_153) (cl' := 0) (sl' := 0) rfl ?_
  refine ik_Wk 1 (pc' := 7) (loc' := [some (.ref r), some (fI i), some (fI m)]) (st' := [fI i, fJ (mr_by c m i)]) (h' := h_153) (cl' := 0) (sl' := 0) rfl ?_
  refine fw_if_ne rfl rfl (by omega) (by omega) (fun hc1 => ?_) (fun hc1 => ?_)
  · refine fw_lc (z := 0) rfl (by decide) ?_
    refine ik_Wk 1 (pc' := 22) (loc' := [some (.ref r), some (fI i), some (fI m)]) (st' := [fJ 0, fJ (mr_by c m i)]) (h' := h_153) (cl' := 0) (sl' := 0) rfl ?_
    refine fw_lsub rfl ?_
    exact ik_Wret rfl rfl ⟨_, _, rfl, rfl, rfl, rfl, ⟨(by show _ = [fJ (mr_by c m i - mr_by c m (i - 1))]; rw [show mr_by c m (i - 1) = 0 from if_pos (by omega)]), fr_153⟩⟩
  · refine ik_Wk 3 (pc' := 17) (loc' := [some (.ref r), some (fI i), some (fI m)]) (st' := [fI 1, fI i, .ref r, fJ (mr_by c m i)]) (h' := h_153) (cl' := 0) (sl' := 0) rfl ?_
    refine fw_sub rfl ?_
    refine ik_Wk 1 (pc' := 19) (loc' := [some (.ref r), some (fI i), some (fI m)]) (st' := [fI m, fI (i - 1), .ref r, fJ (mr_by c m i)]) (h' := h_153) (cl' := 0) (sl' := 0) rfl ?_
    refine fw_call 166 3 3 [.ref r, fI (i - 1), fI m] [fJ (mr_by c m i)] rfl rfl rfl (by decide) rfl rfl (fw_sta k_153 (fw_ftx rfl (wv_c rfl wv_n) (wl_c (wl_r (by omega)) (wl_c rfl (wl_c rfl wl_n)))) (by decide)) (cr_byThen (r := r) (i := i - 1) (m := m) (rr := rr) (c := c) (by omega) (by omega) q2 g_153_r nr k_153) ?_
    rintro _ h_154 ⟨rfl, F_154⟩
    have k_154 := F_154.1.trans k_153
    have fr_154 := hfr_c fr_153 F_154 (by decide)
    have g_154_r := (F_154.2 r (by simp <;> omega)).trans g_153_r
    refine ik_Wk 0 (pc' := 22) (loc' := [some (.ref r), some (fI i), some (fI m)]) (st' := [fJ (mr_by c m (i - 1)), fJ (mr_by c m i)]) (h' := h_154) (cl' := 0) (sl' := 0) rfl ?_
    refine fw_lsub rfl ?_
    exact ik_Wret rfl rfl ⟨_, _, rfl, rfl, rfl, rfl, ⟨rfl, fr_154⟩⟩

theorem cr_laterByL {h : List ik_E} {f : Nat → Int} {wh : Int} {ka : Int} {pa : Int} {fa : Int} {kb : Int} {pb : Int} {fb : Int} {r1 : List Int} {r2 : List Int} {c0 : Nat → Int} {c1 : Nat → Int} (q0 : 0 ≤ wh ∧ wh ≤ 2) (q1 : 0 ≤ fa ∧ fa ≤ 30) (q2 : 0 ≤ fb ∧ fb ≤ 30) (q3 : ∀ j : Nat, j ≤ 200 → r1.getD j 0 = c0 j) (q4 : ∀ j : Nat, j ≤ 200 → r2.getD j 0 = c1 j) (q5 : mr_ok c0) (q6 : mr_ok c1)  : ∀ (k : Nat) (i : Int) (sm : Int) (x5 : Option Value) (x7 : Option Value) (x9 : Option Value) (u : List ik_E) (u66 : cE u 66 (.inr (10, [fI (f 0), .ref 67, .ref 68, .ref 69, fI (f 4), .ref 70, .ref 71, fI (f 7), fI (f 8), .ref 72, fI (f 10), fI (f 11), fI (f 12), fJ (f 13), fI (f 14), fI (f 15), fI (f 16), fI (f 17), .ref 73, .ref 74, .ref 75, .ref 76, .ref 77, .ref 78, fI (f 24), .ref 79, .ref 80, .ref 81, .ref 82, .ref 83, .ref 84, .ref 85, fJ (f 32), fJ (f 33), .ref 86, .ref 87, fI (f 36), .ref 88, .ref 89, .ref 90, .ref 91, .ref 92, .ref 93]))) (u70 : cE u 70 (.inl (.int, fA [ka, pa, fa, kb, pb, fb]))) (u81 : cE u 81 (.inl (.long, fL r1))) (n81 : r1.length = 201) (u82 : cE u 82 (.inl (.long, fL r2))) (n82 : r2.length = 201) (ul : u.length = 94) (F : hfr [] h u) (hi : 0 ≤ i ∧ i ≤ 201) (hs : sm = mr_S (if wh = 0 then mr_t0 c0 fa c1 fb else if wh = 1 then mr_t0 c1 fb c0 fa else mr_t2 c0 fa c1 fb) i.toNat) (w5 : ik_wl 94 x5 = true) (w7 : ik_wl 94 x7 = true) (w9 : ik_wl 94 x9 = true) (hk : 201 - i < (k : Int)), ik_G 168 5 [some (.ref 66), some (fI wh), some (fJ sm), none, some (fI i), x5, none, x7, none, x9, none] [] u (fun rv h' => rv = [fI (mr_w c0 fa c1 fb wh)] ∧ hfr [] h h') := by
  intro k
  induction k with
  | zero => intro i sm x5 x7 x9 u u66 u70 u81 n81 u82 n82 ul F hi hs w5 w7 w9 hk; omega
  | succ k ih =>
    intro i sm x5 x7 x9 u u66 u70 u81 n81 u82 n82 ul F hi hs w5 w7 w9 hk
    have ya := mr_by_b q5 fa i
    have yb := mr_by_b q6 fb i
    have ja : mr_ju c0 fa i = mr_by c0 fa i - mr_by c0 fa (i - 1) := rfl
    have jb : mr_ju c1 fb i = mr_by c1 fb i - mr_by c1 fb (i - 1) := rfl
    have ya1 := mr_by_b q5 fa (i - 1)
    have yb1 := mr_by_b q6 fb (i - 1)
    have zs : 0 ≤ mr_S (if wh = 0 then mr_t0 c0 fa c1 fb else if wh = 1 then mr_t0 c1 fb c0 fa else mr_t2 c0 fa c1 fb) i.toNat ∧ mr_S (if wh = 0 then mr_t0 c0 fa c1 fb else if wh = 1 then mr_t0 c1 fb c0 fa else mr_t2 c0 fa c1 fb) i.toNat ≤ 1000000000 := by
      split
      · exact mr_S_b0 q5 q6 fa (by omega) _
      · split
        · exact mr_S_b0 q6 q5 fb (by omega) _
        · exact mr_S_b2 q5 q6 fa (by omega) _
    refine ik_Wk 1 (pc' := 7) (loc' := [some (.ref 66), some (fI wh), some (fJ sm), none, some (fI i), x5, none, x7, none, x9, none]) (st' := [fI i]) (h' := u) (cl' := 0) (sl' := 0) rfl ?_
    refine fw_si rfl (by decide) ?_
    refine fw_ic_gt rfl rfl (by omega) (by omega) (by omega) (by omega) (fun hc1 => ?_) (fun hc1 => ?_)
    · refine ik_Wk 1 (pc' := 129) (loc' := [some (.ref 66), some (fI wh), some (fJ sm), none, some (fI i), x5, none, x7, none, x9, none]) (st' := [fJ sm]) (h' := u) (cl' := 0) (sl' := 0) rfl ?_
      refine fw_l2 1000 rfl rfl (by decide) ?_
      refine fx_ldiv rfl (by omega) (by omega) (by omega) (by omega) ?_
      refine fx_l2i rfl ?_
      have ei : i.toNat = 201 := by omega
      rw [ei] at hs
      have ew : mr_w c0 fa c1 fb wh = sm / 1000 := by
        unfold mr_w mr_F0 mr_F2
        rw [hs]
        (repeat' split) <;> first | rfl | omega
      rw [ew]
      exact ik_Wret rfl rfl ⟨_, _, rfl, rfl, rfl, rfl, ⟨rfl, F⟩⟩
    · refine ik_Wk 1 (pc' := 14) (loc' := [some (.ref 66), some (fI wh), some (fJ sm), none, some (fI i), x5, none, x7, none, x9, none]) (st' := [.ref 66]) (h' := u) (cl' := 0) (sl' := 0) rfl ?_
      refine fw_gf rfl rfl u66 rfl ?_
      refine ik_Wk 2 (pc' := 20) (loc' := [some (.ref 66), some (fI wh), some (fJ sm), none, some (fI i), x5, none, x7, none, x9, none]) (st' := [.ref 66, fI i, .ref 81]) (h' := u) (cl' := 0) (sl' := 0) rfl ?_
      refine fw_gf rfl rfl u66 rfl ?_
      refine ik_Wk 1 (pc' := 24) (loc' := [some (.ref 66), some (fI wh), some (fJ sm), none, some (fI i), x5, none, x7, none, x9, none]) (st' := [fI 2, .ref 70, fI i, .ref 81]) (h' := u) (cl' := 0) (sl' := 0) rfl ?_
      refine fw_ial (z := 2) rfl u70 (by decide) (Nat.le_of_ble_eq_true rfl) (by decide) ?_
      refine ik_Wk 0 (pc' := 25) (loc' := [some (.ref 66), some (fI wh), some (fJ sm), none, some (fI i), x5, none, x7, none, x9, none]) (st' := [fI fa, fI i, .ref 81]) (h' := u) (cl' := 0) (sl' := 0) rfl ?_
      refine fw_call 167 3 3 [.ref 81, fI i, fI fa] [] rfl rfl rfl (by decide) rfl rfl (fw_sta ul (fw_ftx rfl wv_n (wl_c rfl (wl_c rfl (wl_c rfl (wl_c rfl (wl_c rfl (wl_c w5 (wl_c rfl (wl_c w7 (wl_c rfl (wl_c w9 (wl_c rfl wl_n)))))))))))) (by decide)) (cr_justThen (r := 81) (i := i) (m := fa) (rr := r1) (c := c0) (by omega) (by omega) q3 (by omega) u81 n81 ul) ?_
      rintro _ h_155 ⟨rfl, F_155⟩
      have k_155 := F_155.1.trans ul
      have fr_155 := hfr_c F F_155 (by decide)
      have g_155_66 := (F_155.2 66 (by decide +kernel)).trans u66
      have g_155_70 := (F_155.2 70 (by decide +kernel)).trans u70
      have g_155_81 := (F_155.2 81 (by decide +kernel)).trans u81
      have g_155_82 := (F_155.2 82 (by decide +kernel)).trans u82
      refine ik_Wk 0 (pc' := 28) (loc' := [some (.ref 66), some (fI wh), some (fJ sm), none, some (fI i), x5, none, x7, none, x9, none]) (st' := [fJ (mr_ju c0 fa i)]) (h' := h_155) (cl' := 0) (sl' := 0) rfl ?_
      refine ik_Wk 2 (pc' := 31) (loc' := [some (.ref 66), some (fI wh), some (fJ sm), none, some (fI i), some (fJ (mr_ju c0 fa i)), none, x7, none, x9, none]) (st' := [.ref 66]) (h' := h_155) (cl' := 0) (sl' := 0) rfl ?_
      refine fw_gf rfl rfl g_155_66 rfl ?_
      refine ik_Wk 2 (pc' := 37) (loc' := [some (.ref 66), some (fI wh), some (fJ sm), none, some (fI i), some (fJ (mr_ju c0 fa i)), none, x7, none, x9, none]) (st' := [.ref 66, fI i, .ref 82]) (h' := h_155) (cl' := 0) (sl' := 0) rfl ?_
      refine fw_gf rfl rfl g_155_66 rfl ?_
      refine ik_Wk 1 (pc' := 41) (loc' := [some (.ref 66), some (fI wh), some (fJ sm), none, some (fI i), some (fJ (mr_ju c0 fa i)), none, x7, none, x9, none]) (st' := [fI 5, .ref 70, fI i, .ref 82]) (h' := h_155) (cl' := 0) (sl' := 0) rfl ?_
      refine fw_ial (z := 5) rfl g_155_70 (by decide) (Nat.le_of_ble_eq_true rfl) (by decide) ?_
      refine ik_Wk 0 (pc' := 42) (loc' := [some (.ref 66), some (fI wh), some (fJ sm), none, some (fI i), some (fJ (mr_ju c0 fa i)), none, x7, none, x9, none]) (st' := [fI fb, fI i, .ref 82]) (h' := h_155) (cl' := 0) (sl' := 0) rfl ?_
      refine fw_call 167 3 3 [.ref 82, fI i, fI fb] [] rfl rfl rfl (by decide) rfl rfl (fw_sta k_155 (fw_ftx rfl wv_n (wl_c rfl (wl_c rfl (wl_c rfl (wl_c rfl (wl_c rfl (wl_c rfl (wl_c rfl (wl_c w7 (wl_c rfl (wl_c w9 (wl_c rfl wl_n)))))))))))) (by decide)) (cr_justThen (r := 82) (i := i) (m := fb) (rr := r2) (c := c1) (by omega) (by omega) q4 (by omega) g_155_82 n82 k_155) ?_
      rintro _ h_156 ⟨rfl, F_156⟩
      have k_156 := F_156.1.trans k_155
      have fr_156 := hfr_c fr_155 F_156 (by decide)
      have g_156_66 := (F_156.2 66 (by decide +kernel)).trans g_155_66
      have g_156_70 := (F_156.2 70 (by decide +kernel)).trans g_155_70
      have g_156_81 := (F_156.2 81 (by decide +kernel)).trans g_155_81
      have g_156_82 := (F_156.2 82 (by decide +kernel)).trans g_155_82
      refine ik_Wk 0 (pc' := 45) (loc' := [some (.ref 66), some (fI wh), some (fJ sm), none, some (fI i), some (fJ (mr_ju c0 fa i)), none, x7, none, x9, none]) (st' := [fJ (mr_ju c1 fb i)]) (h' := h_156) (cl' := 0) (sl' := 0) rfl ?_
      refine ik_Wk 2 (pc' := 48) (loc' := [some (.ref 66), some (fI wh), some (fJ sm), none, some (fI i), some (fJ (mr_ju c0 fa i)), none, some (fJ (mr_ju c1 fb i)), none, x9, none]) (st' := [fI wh]) (h' := h_156) (cl' := 0) (sl' := 0) rfl ?_
      refine fw_if_ne rfl rfl (by omega) (by omega) (fun hc2 => ?_) (fun hc2 => ?_)
      · refine ik_Wk 1 (pc' := 53) (loc' := [some (.ref 66), some (fI wh), some (fJ sm), none, some (fI i), some (fJ (mr_ju c0 fa i)), none, some (fJ (mr_ju c1 fb i)), none, x9, none]) (st' := [fJ (mr_ju c1 fb i)]) (h' := h_156) (cl' := 0) (sl' := 0) rfl ?_
        refine fw_l2 1000000000 rfl rfl (by decide) ?_
        refine ik_Wk 1 (pc' := 57) (loc' := [some (.ref 66), some (fI wh), some (fJ sm), none, some (fI i), some (fJ (mr_ju c0 fa i)), none, some (fJ (mr_ju c1 fb i)), none, x9, none]) (st' := [.ref 66, fJ 1000000000, fJ (mr_ju c1 fb i)]) (h' := h_156) (cl' := 0) (sl' := 0) rfl ?_
        refine fw_gf rfl rfl g_156_66 rfl ?_
        refine ik_Wk 2 (pc' := 63) (loc' := [some (.ref 66), some (fI wh), some (fJ sm), none, some (fI i), some (fJ (mr_ju c0 fa i)), none, some (fJ (mr_ju c1 fb i)), none, x9, none]) (st' := [.ref 66, fI i, .ref 81, fJ 1000000000, fJ (mr_ju c1 fb i)]) (h' := h_156) (cl' := 0) (sl' := 0) rfl ?_
        refine fw_gf rfl rfl g_156_66 rfl ?_
        refine ik_Wk 1 (pc' := 67) (loc' := [some (.ref 66), some (fI wh), some (fJ sm), none, some (fI i), some (fJ (mr_ju c0 fa i)), none, some (fJ (mr_ju c1 fb i)), none, x9, none]) (st' := [fI 2, .ref 70, fI i, .ref 81, fJ 1000000000, fJ (mr_ju c1 fb i)]) (h' := h_156) (cl' := 0) (sl' := 0) rfl ?_
        refine fw_ial (z := 2) rfl g_156_70 (by decide) (Nat.le_of_ble_eq_true rfl) (by decide) ?_
        refine ik_Wk 0 (pc' := 68) (loc' := [some (.ref 66), some (fI wh), some (fJ sm), none, some (fI i), some (fJ (mr_ju c0 fa i)), none, some (fJ (mr_ju c1 fb i)), none, x9, none]) (st' := [fI fa, fI i, .ref 81, fJ 1000000000, fJ (mr_ju c1 fb i)]) (h' := h_156) (cl' := 0) (sl' := 0) rfl ?_
        refine fw_call 166 3 3 [.ref 81, fI i, fI fa] [fJ 1000000000, fJ (mr_ju c1 fb i)] rfl rfl rfl (by decide) rfl rfl (fw_sta k_156 (fw_ftx rfl (wv_c rfl (wv_c rfl wv_n)) (wl_c rfl (wl_c rfl (wl_c rfl (wl_c rfl (wl_c rfl (wl_c rfl (wl_c rfl (wl_c rfl (wl_c rfl (wl_c w9 (wl_c rfl wl_n)))))))))))) (by decide)) (cr_byThen (r := 81) (i := i) (m := fa) (rr := r1) (c := c0) (by omega) (by omega) q3 g_156_81 n81 k_156) ?_
        rintro _ h_157 ⟨rfl, F_157⟩
        have k_157 := F_157.1.trans k_156
        have fr_157 := hfr_c fr_156 F_157 (by decide)
        have g_157_66 := (F_157.2 66 (by decide +kernel)).trans g_156_66
        have g_157_70 := (F_157.2 70 (by decide +kernel)).trans g_156_70
        have g_157_81 := (F_157.2 81 (by decide +kernel)).trans g_156_81
        have g_157_82 := (F_157.2 82 (by decide +kernel)).trans g_156_82
        refine ik_Wk 0 (pc' := 71) (loc' := [some (.ref 66), some (fI wh), some (fJ sm), none, some (fI i), some (fJ (mr_ju c0 fa i)), none, some (fJ (mr_ju c1 fb i)), none, x9, none]) (st' := [fJ (mr_by c0 fa i), fJ 1000000000, fJ (mr_ju c1 fb i)]) (h' := h_157) (cl' := 0) (sl' := 0) rfl ?_
        refine fw_lsub rfl ?_
        refine fw_lmul rfl ?_
        refine ik_Wk 4 (pc' := 116) (loc' := [some (.ref 66), some (fI wh), some (fJ sm), none, some (fI i), some (fJ (mr_ju c0 fa i)), none, some (fJ (mr_ju c1 fb i)), none, some (fJ ((mr_ju c1 fb i) * (1000000000 - (mr_by c0 fa i)))), none]) (st' := [fJ ((mr_ju c1 fb i) * (1000000000 - (mr_by c0 fa i))), fJ sm]) (h' := h_157) (cl' := 0) (sl' := 0) rfl ?_
        refine fw_l2 1000000000 rfl rfl (by decide) ?_
        have hm3 := mr_mul_b (a := (mr_ju c1 fb i)) (b := (1000000000 - (mr_by c0 fa i))) (by omega) (by omega) (by omega) (by omega)
        refine fx_ldiv rfl (by omega) (by omega) (by omega) (by omega) ?_
        refine fw_ladd rfl ?_
        refine ik_Wk 1 (pc' := 122) (loc' := [some (.ref 66), some (fI wh), some (fJ (sm + (((mr_ju c1 fb i) * (1000000000 - (mr_by c0 fa i))) / 1000000000))), none, some (fI i), some (fJ (mr_ju c0 fa i)), none, some (fJ (mr_ju c1 fb i)), none, some (fJ ((mr_ju c1 fb i) * (1000000000 - (mr_by c0 fa i)))), none]) (st' := []) (h' := h_157) (cl' := 0) (sl' := 0) rfl ?_
        refine fw_inc (a := i) (loc' := [some (.ref 66), some (fI wh), some (fJ (sm + (((mr_ju c1 fb i) * (1000000000 - (mr_by c0 fa i))) / 1000000000))), none, some (fI (i + 1)), some (fJ (mr_ju c0 fa i)), none, some (fJ (mr_ju c1 fb i)), none, some (fJ ((mr_ju c1 fb i) * (1000000000 - (mr_by c0 fa i)))), none]) rfl rfl (Nat.le_of_ble_eq_true rfl) rfl ?_
        refine ik_Wk 1 (pc' := 5) (loc' := [some (.ref 66), some (fI wh), some (fJ (sm + (((mr_ju c1 fb i) * (1000000000 - (mr_by c0 fa i))) / 1000000000))), none, some (fI (i + 1)), some (fJ (mr_ju c0 fa i)), none, some (fJ (mr_ju c1 fb i)), none, some (fJ ((mr_ju c1 fb i) * (1000000000 - (mr_by c0 fa i)))), none]) (st' := []) (h' := h_157) (cl' := 0) (sl' := 0) rfl ?_
        have et : (if wh = 0 then mr_t0 c0 fa c1 fb else if wh = 1 then mr_t0 c1 fb c0 fa else mr_t2 c0 fa c1 fb) i = mr_t0 c0 fa c1 fb i := by
          rw [if_pos (by omega)]
        exact ih  (i + 1) (sm + (((mr_ju c1 fb i) * (1000000000 - (mr_by c0 fa i))) / 1000000000)) (some (fJ (mr_ju c0 fa i))) (some (fJ (mr_ju c1 fb i))) (some (fJ ((mr_ju c1 fb i) * (1000000000 - (mr_by c0 fa i))))) h_157 g_157_66 g_157_70 g_157_81 n81 g_157_82 n82 k_157 fr_157 (by omega) (by rw [mr_S_s (by omega), et, ← hs]; rfl) rfl rfl rfl (by omega)
      · refine ik_Wk 2 (pc' := 78) (loc' := [some (.ref 66), some (fI wh), some (fJ sm), none, some (fI i), some (fJ (mr_ju c0 fa i)), none, some (fJ (mr_ju c1 fb i)), none, x9, none]) (st' := [fI 1, fI wh]) (h' := h_156) (cl' := 0) (sl' := 0) rfl ?_
        refine fw_ic_ne rfl rfl (by omega) (by omega) (by omega) (by omega) (fun hc4 => ?_) (fun hc4 => ?_)
        · refine ik_Wk 1 (pc' := 83) (loc' := [some (.ref 66), some (fI wh), some (fJ sm), none, some (fI i), some (fJ (mr_ju c0 fa i)), none, some (fJ (mr_ju c1 fb i)), none, x9, none]) (st' := [fJ (mr_ju c0 fa i)]) (h' := h_156) (cl' := 0) (sl' := 0) rfl ?_
          refine fw_l2 1000000000 rfl rfl (by decide) ?_
          refine ik_Wk 1 (pc' := 87) (loc' := [some (.ref 66), some (fI wh), some (fJ sm), none, some (fI i), some (fJ (mr_ju c0 fa i)), none, some (fJ (mr_ju c1 fb i)), none, x9, none]) (st' := [.ref 66, fJ 1000000000, fJ (mr_ju c0 fa i)]) (h' := h_156) (cl' := 0) (sl' := 0) rfl ?_
          refine fw_gf rfl rfl g_156_66 rfl ?_
          refine ik_Wk 2 (pc' := 93) (loc' := [some (.ref 66), some (fI wh), some (fJ sm), none, some (fI i), some (fJ (mr_ju c0 fa i)), none, some (fJ (mr_ju c1 fb i)), none, x9, none]) (st' := [.ref 66, fI i, .ref 82, fJ 1000000000, fJ (mr_ju c0 fa i)]) (h' := h_156) (cl' := 0) (sl' := 0) rfl ?_
          refine fw_gf rfl rfl g_156_66 rfl ?_
          refine ik_Wk 1 (pc' := 97) (loc' := [some (.ref 66), some (fI wh), some (fJ sm), none, some (fI i), some (fJ (mr_ju c0 fa i)), none, some (fJ (mr_ju c1 fb i)), none, x9, none]) (st' := [fI 5, .ref 70, fI i, .ref 82, fJ 1000000000, fJ (mr_ju c0 fa i)]) (h' := h_156) (cl' := 0) (sl' := 0) rfl ?_
          refine fw_ial (z := 5) rfl g_156_70 (by decide) (Nat.le_of_ble_eq_true rfl) (by decide) ?_
          refine ik_Wk 0 (pc' := 98) (loc' := [some (.ref 66), some (fI wh), some (fJ sm), none, some (fI i), some (fJ (mr_ju c0 fa i)), none, some (fJ (mr_ju c1 fb i)), none, x9, none]) (st' := [fI fb, fI i, .ref 82, fJ 1000000000, fJ (mr_ju c0 fa i)]) (h' := h_156) (cl' := 0) (sl' := 0) rfl ?_
          refine fw_call 166 3 3 [.ref 82, fI i, fI fb] [fJ 1000000000, fJ (mr_ju c0 fa i)] rfl rfl rfl (by decide) rfl rfl (fw_sta k_156 (fw_ftx rfl (wv_c rfl (wv_c rfl wv_n)) (wl_c rfl (wl_c rfl (wl_c rfl (wl_c rfl (wl_c rfl (wl_c rfl (wl_c rfl (wl_c rfl (wl_c rfl (wl_c w9 (wl_c rfl wl_n)))))))))))) (by decide)) (cr_byThen (r := 82) (i := i) (m := fb) (rr := r2) (c := c1) (by omega) (by omega) q4 g_156_82 n82 k_156) ?_
          rintro _ h_158 ⟨rfl, F_158⟩
          have k_158 := F_158.1.trans k_156
          have fr_158 := hfr_c fr_156 F_158 (by decide)
          have g_158_66 := (F_158.2 66 (by decide +kernel)).trans g_156_66
          have g_158_70 := (F_158.2 70 (by decide +kernel)).trans g_156_70
          have g_158_81 := (F_158.2 81 (by decide +kernel)).trans g_156_81
          have g_158_82 := (F_158.2 82 (by decide +kernel)).trans g_156_82
          refine ik_Wk 0 (pc' := 101) (loc' := [some (.ref 66), some (fI wh), some (fJ sm), none, some (fI i), some (fJ (mr_ju c0 fa i)), none, some (fJ (mr_ju c1 fb i)), none, x9, none]) (st' := [fJ (mr_by c1 fb i), fJ 1000000000, fJ (mr_ju c0 fa i)]) (h' := h_158) (cl' := 0) (sl' := 0) rfl ?_
          refine fw_lsub rfl ?_
          refine fw_lmul rfl ?_
          refine ik_Wk 4 (pc' := 116) (loc' := [some (.ref 66), some (fI wh), some (fJ sm), none, some (fI i), some (fJ (mr_ju c0 fa i)), none, some (fJ (mr_ju c1 fb i)), none, some (fJ ((mr_ju c0 fa i) * (1000000000 - (mr_by c1 fb i)))), none]) (st' := [fJ ((mr_ju c0 fa i) * (1000000000 - (mr_by c1 fb i))), fJ sm]) (h' := h_158) (cl' := 0) (sl' := 0) rfl ?_
          refine fw_l2 1000000000 rfl rfl (by decide) ?_
          have hm5 := mr_mul_b (a := (mr_ju c0 fa i)) (b := (1000000000 - (mr_by c1 fb i))) (by omega) (by omega) (by omega) (by omega)
          refine fx_ldiv rfl (by omega) (by omega) (by omega) (by omega) ?_
          refine fw_ladd rfl ?_
          refine ik_Wk 1 (pc' := 122) (loc' := [some (.ref 66), some (fI wh), some (fJ (sm + (((mr_ju c0 fa i) * (1000000000 - (mr_by c1 fb i))) / 1000000000))), none, some (fI i), some (fJ (mr_ju c0 fa i)), none, some (fJ (mr_ju c1 fb i)), none, some (fJ ((mr_ju c0 fa i) * (1000000000 - (mr_by c1 fb i)))), none]) (st' := []) (h' := h_158) (cl' := 0) (sl' := 0) rfl ?_
          refine fw_inc (a := i) (loc' := [some (.ref 66), some (fI wh), some (fJ (sm + (((mr_ju c0 fa i) * (1000000000 - (mr_by c1 fb i))) / 1000000000))), none, some (fI (i + 1)), some (fJ (mr_ju c0 fa i)), none, some (fJ (mr_ju c1 fb i)), none, some (fJ ((mr_ju c0 fa i) * (1000000000 - (mr_by c1 fb i)))), none]) rfl rfl (Nat.le_of_ble_eq_true rfl) rfl ?_
          refine ik_Wk 1 (pc' := 5) (loc' := [some (.ref 66), some (fI wh), some (fJ (sm + (((mr_ju c0 fa i) * (1000000000 - (mr_by c1 fb i))) / 1000000000))), none, some (fI (i + 1)), some (fJ (mr_ju c0 fa i)), none, some (fJ (mr_ju c1 fb i)), none, some (fJ ((mr_ju c0 fa i) * (1000000000 - (mr_by c1 fb i)))), none]) (st' := []) (h' := h_158) (cl' := 0) (sl' := 0) rfl ?_
          have et : (if wh = 0 then mr_t0 c0 fa c1 fb else if wh = 1 then mr_t0 c1 fb c0 fa else mr_t2 c0 fa c1 fb) i = mr_t0 c1 fb c0 fa i := by
            rw [if_neg (by omega), if_pos (by omega)]
          exact ih  (i + 1) (sm + (((mr_ju c0 fa i) * (1000000000 - (mr_by c1 fb i))) / 1000000000)) (some (fJ (mr_ju c0 fa i))) (some (fJ (mr_ju c1 fb i))) (some (fJ ((mr_ju c0 fa i) * (1000000000 - (mr_by c1 fb i))))) h_158 g_158_66 g_158_70 g_158_81 n81 g_158_82 n82 k_158 fr_158 (by omega) (by rw [mr_S_s (by omega), et, ← hs]; rfl) rfl rfl rfl (by omega)
        · refine ik_Wk 2 (pc' := 110) (loc' := [some (.ref 66), some (fI wh), some (fJ sm), none, some (fI i), some (fJ (mr_ju c0 fa i)), none, some (fJ (mr_ju c1 fb i)), none, x9, none]) (st' := [fJ (mr_ju c1 fb i), fJ (mr_ju c0 fa i)]) (h' := h_156) (cl' := 0) (sl' := 0) rfl ?_
          refine fw_lmul rfl ?_
          refine ik_Wk 3 (pc' := 116) (loc' := [some (.ref 66), some (fI wh), some (fJ sm), none, some (fI i), some (fJ (mr_ju c0 fa i)), none, some (fJ (mr_ju c1 fb i)), none, some (fJ ((mr_ju c0 fa i) * (mr_ju c1 fb i))), none]) (st' := [fJ ((mr_ju c0 fa i) * (mr_ju c1 fb i)), fJ sm]) (h' := h_156) (cl' := 0) (sl' := 0) rfl ?_
          refine fw_l2 1000000000 rfl rfl (by decide) ?_
          have hm6 := mr_mul_b (a := (mr_ju c0 fa i)) (b := (mr_ju c1 fb i)) (by omega) (by omega) (by omega) (by omega)
          refine fx_ldiv rfl (by omega) (by omega) (by omega) (by omega) ?_
          refine fw_ladd rfl ?_
          refine ik_Wk 1 (pc' := 122) (loc' := [some (.ref 66), some (fI wh), some (fJ (sm + (((mr_ju c0 fa i) * (mr_ju c1 fb i)) / 1000000000))), none, some (fI i), some (fJ (mr_ju c0 fa i)), none, some (fJ (mr_ju c1 fb i)), none, some (fJ ((mr_ju c0 fa i) * (mr_ju c1 fb i))), none]) (st' := []) (h' := h_156) (cl' := 0) (sl' := 0) rfl ?_
          refine fw_inc (a := i) (loc' := [some (.ref 66), some (fI wh), some (fJ (sm + (((mr_ju c0 fa i) * (mr_ju c1 fb i)) / 1000000000))), none, some (fI (i + 1)), some (fJ (mr_ju c0 fa i)), none, some (fJ (mr_ju c1 fb i)), none, some (fJ ((mr_ju c0 fa i) * (mr_ju c1 fb i))), none]) rfl rfl (Nat.le_of_ble_eq_true rfl) rfl ?_
          refine ik_Wk 1 (pc' := 5) (loc' := [some (.ref 66), some (fI wh), some (fJ (sm + (((mr_ju c0 fa i) * (mr_ju c1 fb i)) / 1000000000))), none, some (fI (i + 1)), some (fJ (mr_ju c0 fa i)), none, some (fJ (mr_ju c1 fb i)), none, some (fJ ((mr_ju c0 fa i) * (mr_ju c1 fb i))), none]) (st' := []) (h' := h_156) (cl' := 0) (sl' := 0) rfl ?_
          have et : (if wh = 0 then mr_t0 c0 fa c1 fb else if wh = 1 then mr_t0 c1 fb c0 fa else mr_t2 c0 fa c1 fb) i = mr_t2 c0 fa c1 fb i := by
            rw [if_neg (by omega), if_neg (by omega)]
          exact ih  (i + 1) (sm + (((mr_ju c0 fa i) * (mr_ju c1 fb i)) / 1000000000)) (some (fJ (mr_ju c0 fa i))) (some (fJ (mr_ju c1 fb i))) (some (fJ ((mr_ju c0 fa i) * (mr_ju c1 fb i)))) h_156 g_156_66 g_156_70 g_156_81 n81 g_156_82 n82 k_156 fr_156 (by omega) (by rw [mr_S_s (by omega), et, ← hs]; rfl) rfl rfl rfl (by omega)

theorem cr_laterBy {h : List ik_E} {f : Nat → Int} {wh : Int} {ka : Int} {pa : Int} {fa : Int} {kb : Int} {pb : Int} {fb : Int} {r1 : List Int} {r2 : List Int} {c0 : Nat → Int} {c1 : Nat → Int} (q0 : 0 ≤ wh ∧ wh ≤ 2) (q1 : 0 ≤ fa ∧ fa ≤ 30) (q2 : 0 ≤ fb ∧ fb ≤ 30) (q3 : ∀ j : Nat, j ≤ 200 → r1.getD j 0 = c0 j) (q4 : ∀ j : Nat, j ≤ 200 → r2.getD j 0 = c1 j) (q5 : mr_ok c0) (q6 : mr_ok c1) (h66 : cE h 66 (.inr (10, [fI (f 0), .ref 67, .ref 68, .ref 69, fI (f 4), .ref 70, .ref 71, fI (f 7), fI (f 8), .ref 72, fI (f 10), fI (f 11), fI (f 12), fJ (f 13), fI (f 14), fI (f 15), fI (f 16), fI (f 17), .ref 73, .ref 74, .ref 75, .ref 76, .ref 77, .ref 78, fI (f 24), .ref 79, .ref 80, .ref 81, .ref 82, .ref 83, .ref 84, .ref 85, fJ (f 32), fJ (f 33), .ref 86, .ref 87, fI (f 36), .ref 88, .ref 89, .ref 90, .ref 91, .ref 92, .ref 93]))) (h70 : cE h 70 (.inl (.int, fA [ka, pa, fa, kb, pb, fb]))) (h81 : cE h 81 (.inl (.long, fL r1))) (n81 : r1.length = 201) (h82 : cE h 82 (.inl (.long, fL r2))) (n82 : r2.length = 201) (hl : h.length = 94) : ik_F 168 [.ref 66, fI wh] h (fun rv h' => rv = [fI (mr_w c0 fa c1 fb wh)] ∧ hfr [] h h') := by
  refine fw_lc (z := 0) rfl (by decide) ?_
  refine ik_Wk 3 (pc' := 5) (loc' := [some (.ref 66), some (fI wh), some (fJ 0), none, some (fI 0), none, none, none, none, none, none]) (st' := []) (h' := h) (cl' := 0) (sl' := 0) rfl ?_
  exact cr_laterByL (f := f) (wh := wh) (ka := ka) (pa := pa) (fa := fa) (kb := kb) (pb := pb) (fb := fb) (r1 := r1) (r2 := r2) (c0 := c0) (c1 := c1) q0 q1 q2 q3 q4 q5 q6  202 0 0 none none none h h66 h70 h81 n81 h82 n82 hl (hfr_refl [] h) (by omega) rfl rfl rfl rfl (by omega)

theorem cr_suitRows {h : List ik_E} {pl : Int} {f : Nat → Int} {s : Nat} {cn : List Int} {go : List Int} {ch : List Int} {gt : List Int} {gd : List Int} {xs : List Int} {ys : List Int} {ka : Int} {pa : Int} {fa : Int} {kb : Int} {pb : Int} {fb : Int} {r1 : List Int} {r2 : List Int} (q0 : 1 ≤ pl ∧ pl ≤ 12) (q1 : s < 4096) (q2 : ∀ x : Int, 0 ≤ x → x < pl - 1 → 0 ≤ cn.getD x.toNat 0 ∧ cn.getD x.toNat 0 ≤ 4) (q3 : ∀ x : Int, 0 ≤ x → x < pl - 1 → 1 ≤ cn.getD x.toNat 0 ∧ ∀ j : Int, 4 * x ≤ j → j < 4 * x + cn.getD x.toNat 0 → 0 ≤ ch.getD j.toNat 0 ∧ ch.getD j.toNat 0 ≤ 100) (q4 : ∀ x : Int, 0 ≤ x → x < pl - 1 → mx_ok pl (mx_w cn go ch s x)) (q5 : 0 ≤ ka ∧ ka ≤ 2) (q6 : 0 ≤ kb ∧ kb ≤ 2) (q7 : 0 ≤ pa ∧ pa < pl) (q8 : 0 ≤ pb ∧ pb < pl) (h66 : cE h 66 (.inr (10, [fI pl, .ref 67, .ref 68, .ref 69, fI ((s : Nat) : Int), .ref 70, .ref 71, fI (f 7), fI (f 8), .ref 72, fI (f 10), fI (f 11), fI (f 12), fJ (f 13), fI (f 14), fI (f 15), fI (f 16), fI (f 17), .ref 73, .ref 74, .ref 75, .ref 76, .ref 77, .ref 78, fI (f 24), .ref 79, .ref 80, .ref 81, .ref 82, .ref 83, .ref 84, .ref 85, fJ (f 32), fJ (f 33), .ref 86, .ref 87, fI (f 36), .ref 88, .ref 89, .ref 90, .ref 91, .ref 92, .ref 93]))) (h67 : cE h 67 (.inl (.int, fA cn))) (n67 : cn.length = 12) (h68 : cE h 68 (.inl (.int, fA go))) (n68 : go.length = 48) (h69 : cE h 69 (.inl (.int, fA ch))) (n69 : ch.length = 48) (h77 : cE h 77 (.inl (.int, fA gt))) (n77 : gt.length = 5) (h78 : cE h 78 (.inl (.int, fA gd))) (n78 : gd.length = 5) (h79 : cE h 79 (.inl (.long, fL xs))) (n79 : xs.length = 12) (h80 : cE h 80 (.inl (.long, fL ys))) (n80 : ys.length = 12) (h70 : cE h 70 (.inl (.int, fA [ka, pa, fa, kb, pb, fb]))) (h81 : cE h 81 (.inl (.long, fL r1))) (n81 : r1.length = 201) (h82 : cE h 82 (.inl (.long, fL r2))) (n82 : r2.length = 201) (hl : h.length = 94) : ik_F 165 [.ref 66] h (fun rv h' => ∃ (w' : Int) (gt' : List Int) (gd' : List Int) (xs' : List Int) (ys' : List Int) (r1' : List Int) (r2' : List Int), rv = [] ∧ cE h' 66 (.inr (10, [fI pl, .ref 67, .ref 68, .ref 69, fI ((s : Nat) : Int), .ref 70, .ref 71, fI (f 7), fI (f 8), .ref 72, fI (f 10), fI (f 11), fI (f 12), fJ (f 13), fI (f 14), fI (f 15), fI (f 16), fI (f 17), .ref 73, .ref 74, .ref 75, .ref 76, .ref 77, .ref 78, fI w', .ref 79, .ref 80, .ref 81, .ref 82, .ref 83, .ref 84, .ref 85, fJ (f 32), fJ (f 33), .ref 86, .ref 87, fI (f 36), .ref 88, .ref 89, .ref 90, .ref 91, .ref 92, .ref 93])) ∧ cE h' 77 (.inl (.int, fA gt')) ∧ gt'.length = 5 ∧ cE h' 78 (.inl (.int, fA gd')) ∧ gd'.length = 5 ∧ cE h' 79 (.inl (.long, fL xs')) ∧ xs'.length = 12 ∧ cE h' 80 (.inl (.long, fL ys')) ∧ ys'.length = 12 ∧ cE h' 81 (.inl (.long, fL r1')) ∧ r1'.length = 201 ∧ cE h' 82 (.inl (.long, fL r2')) ∧ r2'.length = 201 ∧ (∀ j : Nat, j ≤ 200 → r1'.getD j 0 = (mf_cm (fun x => mx_w cn go ch s x) (pl - 1) ka pa) j) ∧ (∀ j : Nat, j ≤ 200 → r2'.getD j 0 = (mf_cm (fun x => mx_w cn go ch s x) (pl - 1) kb pb) j) ∧ hfr [66, 77, 78, 79, 80, 81, 82] h h') := by
  refine ik_Wk 2 (pc' := 2) (loc' := [some (.ref 66)]) (st' := [.ref 66, .ref 66]) (h' := h) (cl' := 0) (sl' := 0) rfl ?_
  refine fw_gf rfl rfl h66 rfl ?_
  refine ik_Wk 1 (pc' := 6) (loc' := [some (.ref 66)]) (st' := [.ref 66, .ref 81, .ref 66]) (h' := h) (cl' := 0) (sl' := 0) rfl ?_
  refine fw_gf rfl rfl h66 rfl ?_
  refine ik_Wk 1 (pc' := 10) (loc' := [some (.ref 66)]) (st' := [fI 0, .ref 70, .ref 81, .ref 66]) (h' := h) (cl' := 0) (sl' := 0) rfl ?_
  refine fw_ial (z := 0) rfl h70 (by decide) (Nat.le_of_ble_eq_true rfl) (by decide) ?_
  refine ik_Wk 0 (pc' := 11) (loc' := [some (.ref 66)]) (st' := [fI ka, .ref 81, .ref 66]) (h' := h) (cl' := 0) (sl' := 0) rfl ?_
  refine ik_Wk 1 (pc' := 12) (loc' := [some (.ref 66)]) (st' := [.ref 66, fI ka, .ref 81, .ref 66]) (h' := h) (cl' := 0) (sl' := 0) rfl ?_
  refine fw_gf rfl rfl h66 rfl ?_
  refine ik_Wk 1 (pc' := 16) (loc' := [some (.ref 66)]) (st' := [fI 1, .ref 70, fI ka, .ref 81, .ref 66]) (h' := h) (cl' := 0) (sl' := 0) rfl ?_
  refine fw_ial (z := 1) rfl h70 (by decide) (Nat.le_of_ble_eq_true rfl) (by decide) ?_
  refine ik_Wk 0 (pc' := 17) (loc' := [some (.ref 66)]) (st' := [fI pa, fI ka, .ref 81, .ref 66]) (h' := h) (cl' := 0) (sl' := 0) rfl ?_
  refine fw_call 157 4 0 [.ref 66, .ref 81, fI ka, fI pa] [] rfl rfl rfl (by decide) rfl rfl (fw_rec hl rfl h66 rfl (by decide)) (cr_comesRow (pl := pl) (f := fun j => ([0, 0, 0, 0, 0, 0, 0, f 7, f 8, 0, f 10, f 11, f 12, f 13, f 14, f 15, f 16, f 17, 0, 0, 0, 0, 0, 0, f 24, 0, 0, 0, 0, 0, 0, 0, f 32, f 33, 0, 0, f 36, 0, 0, 0, 0, 0, 0] : List Int).getD j 0) (s := s) (cn := cn) (go := go) (ch := ch) (gt := gt) (gd := gd) (xs := xs) (ys := ys) (kd := ka) (qp := pa) (r := 81) (rr := r1) (by omega) (by omega) q2 q3 q4 (by omega) (by omega) (by omega) h66 h67 n67 h68 n68 h69 n69 h77 n77 h78 n78 h79 n79 h80 n80 h81 n81 hl) ?_
  rintro _ h_159 ⟨w'_159, gt'_159, gd'_159, xs'_159, ys'_159, rr'_159, rfl, e_159_66, e_159_77, m_159_77, e_159_78, m_159_78, e_159_79, m_159_79, e_159_80, m_159_80, e_159_r, m_159_r, p_159_0, F_159⟩
  have k_159 := F_159.1.trans hl
  have fr_159 := hfr_c (hfr_refl [66, 77, 78, 79, 80, 81, 82] h) F_159 (by decide)
  have g_159_67 := (F_159.2 67 (by decide +kernel)).trans h67
  have g_159_68 := (F_159.2 68 (by decide +kernel)).trans h68
  have g_159_69 := (F_159.2 69 (by decide +kernel)).trans h69
  have g_159_70 := (F_159.2 70 (by decide +kernel)).trans h70
  have g_159_82 := (F_159.2 82 (by decide +kernel)).trans h82
  have g_159_66 : cE h_159 66 (.inr (10, [fI pl, .ref 67, .ref 68, .ref 69, fI ((s : Nat) : Int), .ref 70, .ref 71, fI (f 7), fI (f 8), .ref 72, fI (f 10), fI (f 11), fI (f 12), fJ (f 13), fI (f 14), fI (f 15), fI (f 16), fI (f 17), .ref 73, .ref 74, .ref 75, .ref 76, .ref 77, .ref 78, fI w'_159, .ref 79, .ref 80, .ref 81, .ref 82, .ref 83, .ref 84, .ref 85, fJ (f 32), fJ (f 33), .ref 86, .ref 87, fI (f 36), .ref 88, .ref 89, .ref 90, .ref 91, .ref 92, .ref 93])) := e_159_66
  have g_159_77 : cE h_159 77 (.inl (.int, fA gt'_159)) := e_159_77
  have g_159_78 : cE h_159 78 (.inl (.int, fA gd'_159)) := e_159_78
  have g_159_79 : cE h_159 79 (.inl (.long, fL xs'_159)) := e_159_79
  have g_159_80 : cE h_159 80 (.inl (.long, fL ys'_159)) := e_159_80
  have g_159_81 : cE h_159 81 (.inl (.long, fL rr'_159)) := e_159_r
  refine ik_Wk 0 (pc' := 20) (loc' := [some (.ref 66)]) (st' := []) (h' := h_159) (cl' := 0) (sl' := 0) rfl ?_
  refine ik_Wk 2 (pc' := 22) (loc' := [some (.ref 66)]) (st' := [.ref 66, .ref 66]) (h' := h_159) (cl' := 0) (sl' := 0) rfl ?_
  refine fw_gf rfl rfl g_159_66 rfl ?_
  refine ik_Wk 1 (pc' := 26) (loc' := [some (.ref 66)]) (st' := [.ref 66, .ref 82, .ref 66]) (h' := h_159) (cl' := 0) (sl' := 0) rfl ?_
  refine fw_gf rfl rfl g_159_66 rfl ?_
  refine ik_Wk 1 (pc' := 30) (loc' := [some (.ref 66)]) (st' := [fI 3, .ref 70, .ref 82, .ref 66]) (h' := h_159) (cl' := 0) (sl' := 0) rfl ?_
  refine fw_ial (z := 3) rfl g_159_70 (by decide) (Nat.le_of_ble_eq_true rfl) (by decide) ?_
  refine ik_Wk 0 (pc' := 31) (loc' := [some (.ref 66)]) (st' := [fI kb, .ref 82, .ref 66]) (h' := h_159) (cl' := 0) (sl' := 0) rfl ?_
  refine ik_Wk 1 (pc' := 32) (loc' := [some (.ref 66)]) (st' := [.ref 66, fI kb, .ref 82, .ref 66]) (h' := h_159) (cl' := 0) (sl' := 0) rfl ?_
  refine fw_gf rfl rfl g_159_66 rfl ?_
  refine ik_Wk 1 (pc' := 36) (loc' := [some (.ref 66)]) (st' := [fI 4, .ref 70, fI kb, .ref 82, .ref 66]) (h' := h_159) (cl' := 0) (sl' := 0) rfl ?_
  refine fw_ial (z := 4) rfl g_159_70 (by decide) (Nat.le_of_ble_eq_true rfl) (by decide) ?_
  refine ik_Wk 0 (pc' := 37) (loc' := [some (.ref 66)]) (st' := [fI pb, fI kb, .ref 82, .ref 66]) (h' := h_159) (cl' := 0) (sl' := 0) rfl ?_
  refine fw_call 157 4 0 [.ref 66, .ref 82, fI kb, fI pb] [] rfl rfl rfl (by decide) rfl rfl (fw_rec k_159 rfl g_159_66 rfl (by decide)) (cr_comesRow (pl := pl) (f := fun j => ([0, 0, 0, 0, 0, 0, 0, (f 7), (f 8), 0, (f 10), (f 11), (f 12), (f 13), (f 14), (f 15), (f 16), (f 17), 0, 0, 0, 0, 0, 0, w'_159, 0, 0, 0, 0, 0, 0, 0, (f 32), (f 33), 0, 0, (f 36), 0, 0, 0, 0, 0, 0] : List Int).getD j 0) (s := s) (cn := cn) (go := go) (ch := ch) (gt := gt'_159) (gd := gd'_159) (xs := xs'_159) (ys := ys'_159) (kd := kb) (qp := pb) (r := 82) (rr := r2) (by omega) (by omega) q2 q3 q4 (by omega) (by omega) (by omega) g_159_66 g_159_67 n67 g_159_68 n68 g_159_69 n69 g_159_77 m_159_77 g_159_78 m_159_78 g_159_79 m_159_79 g_159_80 m_159_80 g_159_82 n82 k_159) ?_
  rintro _ h_160 ⟨w'_160, gt'_160, gd'_160, xs'_160, ys'_160, rr'_160, rfl, e_160_66, e_160_77, m_160_77, e_160_78, m_160_78, e_160_79, m_160_79, e_160_80, m_160_80, e_160_r, m_160_r, p_160_0, F_160⟩
  have k_160 := F_160.1.trans k_159
  have fr_160 := hfr_c fr_159 F_160 (by decide)
  have g_160_67 := (F_160.2 67 (by decide +kernel)).trans g_159_67
  have g_160_68 := (F_160.2 68 (by decide +kernel)).trans g_159_68
  have g_160_69 := (F_160.2 69 (by decide +kernel)).trans g_159_69
  have g_160_70 := (F_160.2 70 (by decide +kernel)).trans g_159_70
  have g_160_81 := (F_160.2 81 (by decide +kernel)).trans g_159_81
  have g_160_66 : cE h_160 66 (.inr (10, [fI pl, .ref 67, .ref 68, .ref 69, fI ((s : Nat) : Int), .ref 70, .ref 71, fI (f 7), fI (f 8), .ref 72, fI (f 10), fI (f 11), fI (f 12), fJ (f 13), fI (f 14), fI (f 15), fI (f 16), fI (f 17), .ref 73, .ref 74, .ref 75, .ref 76, .ref 77, .ref 78, fI w'_160, .ref 79, .ref 80, .ref 81, .ref 82, .ref 83, .ref 84, .ref 85, fJ (f 32), fJ (f 33), .ref 86, .ref 87, fI (f 36), .ref 88, .ref 89, .ref 90, .ref 91, .ref 92, .ref 93])) := e_160_66
  have g_160_77 : cE h_160 77 (.inl (.int, fA gt'_160)) := e_160_77
  have g_160_78 : cE h_160 78 (.inl (.int, fA gd'_160)) := e_160_78
  have g_160_79 : cE h_160 79 (.inl (.long, fL xs'_160)) := e_160_79
  have g_160_80 : cE h_160 80 (.inl (.long, fL ys'_160)) := e_160_80
  have g_160_82 : cE h_160 82 (.inl (.long, fL rr'_160)) := e_160_r
  refine ik_Wk 0 (pc' := 40) (loc' := [some (.ref 66)]) (st' := []) (h' := h_160) (cl' := 0) (sl' := 0) rfl ?_
  exact ik_Wret rfl rfl ⟨_, _, rfl, rfl, rfl, rfl, ⟨w'_160, gt'_160, gd'_160, xs'_160, ys'_160, rr'_159, rr'_160, rfl, g_160_66, g_160_77, m_160_77, g_160_78, m_160_78, g_160_79, m_160_79, g_160_80, m_160_80, g_160_81, m_159_r, g_160_82, m_160_r, p_159_0, p_160_0, fr_160⟩⟩

theorem cr_laterOf {h : List ik_E} {pl : Int} {f : Nat → Int} {s : Nat} {cn : List Int} {go : List Int} {ch : List Int} {gt : List Int} {gd : List Int} {xs : List Int} {ys : List Int} {ka : Int} {pa : Int} {fa : Int} {kb : Int} {pb : Int} {fb : Int} {r1 : List Int} {r2 : List Int} {wh : Int} (q0 : 1 ≤ pl ∧ pl ≤ 12) (q1 : s < 4096) (q2 : ∀ x : Int, 0 ≤ x → x < pl - 1 → 0 ≤ cn.getD x.toNat 0 ∧ cn.getD x.toNat 0 ≤ 4) (q3 : ∀ x : Int, 0 ≤ x → x < pl - 1 → 1 ≤ cn.getD x.toNat 0 ∧ ∀ j : Int, 4 * x ≤ j → j < 4 * x + cn.getD x.toNat 0 → 0 ≤ ch.getD j.toNat 0 ∧ ch.getD j.toNat 0 ≤ 100) (q4 : ∀ x : Int, 0 ≤ x → x < pl - 1 → mx_ok pl (mx_w cn go ch s x)) (q5 : 0 ≤ ka ∧ ka ≤ 2) (q6 : 0 ≤ kb ∧ kb ≤ 2) (q7 : 0 ≤ pa ∧ pa < pl - 1) (q8 : 0 ≤ pb ∧ pb < pl - 1) (q9 : 0 ≤ fa ∧ fa ≤ 30) (q10 : 0 ≤ fb ∧ fb ≤ 30) (q11 : 0 ≤ wh ∧ wh ≤ 2) (h66 : cE h 66 (.inr (10, [fI pl, .ref 67, .ref 68, .ref 69, fI ((s : Nat) : Int), .ref 70, .ref 71, fI (f 7), fI (f 8), .ref 72, fI (f 10), fI (f 11), fI (f 12), fJ (f 13), fI (f 14), fI (f 15), fI (f 16), fI (f 17), .ref 73, .ref 74, .ref 75, .ref 76, .ref 77, .ref 78, fI (f 24), .ref 79, .ref 80, .ref 81, .ref 82, .ref 83, .ref 84, .ref 85, fJ (f 32), fJ (f 33), .ref 86, .ref 87, fI (f 36), .ref 88, .ref 89, .ref 90, .ref 91, .ref 92, .ref 93]))) (h67 : cE h 67 (.inl (.int, fA cn))) (n67 : cn.length = 12) (h68 : cE h 68 (.inl (.int, fA go))) (n68 : go.length = 48) (h69 : cE h 69 (.inl (.int, fA ch))) (n69 : ch.length = 48) (h77 : cE h 77 (.inl (.int, fA gt))) (n77 : gt.length = 5) (h78 : cE h 78 (.inl (.int, fA gd))) (n78 : gd.length = 5) (h79 : cE h 79 (.inl (.long, fL xs))) (n79 : xs.length = 12) (h80 : cE h 80 (.inl (.long, fL ys))) (n80 : ys.length = 12) (h70 : cE h 70 (.inl (.int, fA [ka, pa, fa, kb, pb, fb]))) (h81 : cE h 81 (.inl (.long, fL r1))) (n81 : r1.length = 201) (h82 : cE h 82 (.inl (.long, fL r2))) (n82 : r2.length = 201) (hl : h.length = 94) : ik_F 169 [.ref 66, fI wh] h (fun rv h' => ∃ (w' : Int) (gt' : List Int) (gd' : List Int) (xs' : List Int) (ys' : List Int) (r1' : List Int) (r2' : List Int), rv = [fI (mr_w (mf_cm (fun x => mx_w cn go ch s x) (pl - 1) ka pa) fa (mf_cm (fun x => mx_w cn go ch s x) (pl - 1) kb pb) fb wh)] ∧ cE h' 66 (.inr (10, [fI pl, .ref 67, .ref 68, .ref 69, fI ((s : Nat) : Int), .ref 70, .ref 71, fI (f 7), fI (f 8), .ref 72, fI (f 10), fI (f 11), fI (f 12), fJ (f 13), fI (f 14), fI (f 15), fI (f 16), fI (f 17), .ref 73, .ref 74, .ref 75, .ref 76, .ref 77, .ref 78, fI w', .ref 79, .ref 80, .ref 81, .ref 82, .ref 83, .ref 84, .ref 85, fJ (f 32), fJ (f 33), .ref 86, .ref 87, fI (f 36), .ref 88, .ref 89, .ref 90, .ref 91, .ref 92, .ref 93])) ∧ cE h' 77 (.inl (.int, fA gt')) ∧ gt'.length = 5 ∧ cE h' 78 (.inl (.int, fA gd')) ∧ gd'.length = 5 ∧ cE h' 79 (.inl (.long, fL xs')) ∧ xs'.length = 12 ∧ cE h' 80 (.inl (.long, fL ys')) ∧ ys'.length = 12 ∧ cE h' 81 (.inl (.long, fL r1')) ∧ r1'.length = 201 ∧ cE h' 82 (.inl (.long, fL r2')) ∧ r2'.length = 201 ∧ hfr [66, 77, 78, 79, 80, 81, 82] h h') := by
  refine ik_Wk 1 (pc' := 1) (loc' := [some (.ref 66), some (fI wh)]) (st' := [.ref 66]) (h' := h) (cl' := 0) (sl' := 0) rfl ?_
  refine fw_call 165 1 0 [.ref 66] [] rfl rfl rfl (by decide) rfl rfl (fw_rec hl rfl h66 rfl (by decide)) (cr_suitRows (pl := pl) (f := fun j => ([0, 0, 0, 0, 0, 0, 0, f 7, f 8, 0, f 10, f 11, f 12, f 13, f 14, f 15, f 16, f 17, 0, 0, 0, 0, 0, 0, f 24, 0, 0, 0, 0, 0, 0, 0, f 32, f 33, 0, 0, f 36, 0, 0, 0, 0, 0, 0] : List Int).getD j 0) (s := s) (cn := cn) (go := go) (ch := ch) (gt := gt) (gd := gd) (xs := xs) (ys := ys) (ka := ka) (pa := pa) (fa := fa) (kb := kb) (pb := pb) (fb := fb) (r1 := r1) (r2 := r2) (by omega) (by omega) q2 q3 q4 (by omega) (by omega) (by omega) (by omega) h66 h67 n67 h68 n68 h69 n69 h77 n77 h78 n78 h79 n79 h80 n80 h70 h81 n81 h82 n82 hl) ?_
  rintro _ h_161 ⟨w'_161, gt'_161, gd'_161, xs'_161, ys'_161, r1'_161, r2'_161, rfl, e_161_66, e_161_77, m_161_77, e_161_78, m_161_78, e_161_79, m_161_79, e_161_80, m_161_80, e_161_81, m_161_81, e_161_82, m_161_82, p_161_0, p_161_1, F_161⟩
  have k_161 := F_161.1.trans hl
  have fr_161 := hfr_c (hfr_refl [66, 77, 78, 79, 80, 81, 82] h) F_161 (by decide)
  have g_161_67 := (F_161.2 67 (by decide +kernel)).trans h67
  have g_161_68 := (F_161.2 68 (by decide +kernel)).trans h68
  have g_161_69 := (F_161.2 69 (by decide +kernel)).trans h69
  have g_161_70 := (F_161.2 70 (by decide +kernel)).trans h70
  have g_161_66 : cE h_161 66 (.inr (10, [fI pl, .ref 67, .ref 68, .ref 69, fI ((s : Nat) : Int), .ref 70, .ref 71, fI (f 7), fI (f 8), .ref 72, fI (f 10), fI (f 11), fI (f 12), fJ (f 13), fI (f 14), fI (f 15), fI (f 16), fI (f 17), .ref 73, .ref 74, .ref 75, .ref 76, .ref 77, .ref 78, fI w'_161, .ref 79, .ref 80, .ref 81, .ref 82, .ref 83, .ref 84, .ref 85, fJ (f 32), fJ (f 33), .ref 86, .ref 87, fI (f 36), .ref 88, .ref 89, .ref 90, .ref 91, .ref 92, .ref 93])) := e_161_66
  have g_161_77 : cE h_161 77 (.inl (.int, fA gt'_161)) := e_161_77
  have g_161_78 : cE h_161 78 (.inl (.int, fA gd'_161)) := e_161_78
  have g_161_79 : cE h_161 79 (.inl (.long, fL xs'_161)) := e_161_79
  have g_161_80 : cE h_161 80 (.inl (.long, fL ys'_161)) := e_161_80
  have g_161_81 : cE h_161 81 (.inl (.long, fL r1'_161)) := e_161_81
  have g_161_82 : cE h_161 82 (.inl (.long, fL r2'_161)) := e_161_82
  refine ik_Wk 0 (pc' := 4) (loc' := [some (.ref 66), some (fI wh)]) (st' := []) (h' := h_161) (cl' := 0) (sl' := 0) rfl ?_
  refine ik_Wk 2 (pc' := 6) (loc' := [some (.ref 66), some (fI wh)]) (st' := [fI wh, .ref 66]) (h' := h_161) (cl' := 0) (sl' := 0) rfl ?_
  refine fw_call 168 2 0 [.ref 66, fI wh] [] rfl rfl rfl (by decide) rfl rfl (fw_rec k_161 rfl g_161_66 rfl (by decide)) (cr_laterBy (f := fun j => ([pl, 0, 0, 0, ((s : Nat) : Int), 0, 0, (f 7), (f 8), 0, (f 10), (f 11), (f 12), (f 13), (f 14), (f 15), (f 16), (f 17), 0, 0, 0, 0, 0, 0, w'_161, 0, 0, 0, 0, 0, 0, 0, (f 32), (f 33), 0, 0, (f 36), 0, 0, 0, 0, 0, 0] : List Int).getD j 0) (wh := wh) (ka := ka) (pa := pa) (fa := fa) (kb := kb) (pb := pb) (fb := fb) (r1 := r1'_161) (r2 := r2'_161) (c0 := (mf_cm (fun x => mx_w cn go ch s x) (pl - 1) ka pa)) (c1 := (mf_cm (fun x => mx_w cn go ch s x) (pl - 1) kb pb)) (by omega) (by omega) (by omega) p_161_0 p_161_1 (mr_ok_cm (W := (fun x => mx_w cn go ch s x)) q4 q7) (mr_ok_cm (W := (fun x => mx_w cn go ch s x)) q4 q8) g_161_66 g_161_70 g_161_81 m_161_81 g_161_82 m_161_82 k_161) ?_
  rintro _ h_162 ⟨rfl, F_162⟩
  have k_162 := F_162.1.trans k_161
  have fr_162 := hfr_c fr_161 F_162 (by decide)
  have g_162_66 := (F_162.2 66 (by decide +kernel)).trans g_161_66
  have g_162_67 := (F_162.2 67 (by decide +kernel)).trans g_161_67
  have g_162_68 := (F_162.2 68 (by decide +kernel)).trans g_161_68
  have g_162_69 := (F_162.2 69 (by decide +kernel)).trans g_161_69
  have g_162_77 := (F_162.2 77 (by decide +kernel)).trans g_161_77
  have g_162_78 := (F_162.2 78 (by decide +kernel)).trans g_161_78
  have g_162_79 := (F_162.2 79 (by decide +kernel)).trans g_161_79
  have g_162_80 := (F_162.2 80 (by decide +kernel)).trans g_161_80
  have g_162_70 := (F_162.2 70 (by decide +kernel)).trans g_161_70
  have g_162_81 := (F_162.2 81 (by decide +kernel)).trans g_161_81
  have g_162_82 := (F_162.2 82 (by decide +kernel)).trans g_161_82
  refine ik_Wk 0 (pc' := 9) (loc' := [some (.ref 66), some (fI wh)]) (st' := [fI (mr_w (mf_cm (fun x => mx_w cn go ch s x) (pl - 1) ka pa) fa (mf_cm (fun x => mx_w cn go ch s x) (pl - 1) kb pb) fb wh)]) (h' := h_162) (cl' := 0) (sl' := 0) rfl ?_
  exact ik_Wret rfl rfl ⟨_, _, rfl, rfl, rfl, rfl, ⟨w'_161, gt'_161, gd'_161, xs'_161, ys'_161, r1'_161, r2'_161, rfl, g_162_66, g_162_77, m_161_77, g_162_78, m_161_78, g_162_79, m_161_79, g_162_80, m_161_80, g_162_81, m_161_81, g_162_82, m_161_82, fr_162⟩⟩

theorem cs_raceL {h : List ik_E} {C : Nat} {E : Nat} {pl : Int} {lo : Int} {s : Nat} {ka : Int} {pa : Int} {ma : Int} {kb : Int} {pb : Int} {mb : Int} {ua : Int} {ub : Int} {lim : Int} {bo : Int} {la : Int} {lb : Int} {wg : List Int} {wc : List Int} {we : List Int} {W : Int → List (Int × Int)} (q0 : 20 < C ∧ C < 42 ∧ 20 < E ∧ E < 42 ∧ (C + 4 ≤ E ∨ E + 4 ≤ C)) (q1 : 2 ≤ pl ∧ pl ≤ 12) (q2 : 0 ≤ ka ∧ ka ≤ 2 ∧ 0 ≤ kb ∧ kb ≤ 2) (q3 : 0 ≤ pa ∧ pa < pl - 1) (q4 : 0 ≤ pb ∧ pb < pl - 1) (q5 : 0 ≤ ma ∧ ma ≤ 30 ∧ 0 ≤ mb ∧ mb ≤ 30) (q6 : 0 ≤ lim ∧ lim ≤ 1000000) (q7 : ∀ x : Int, 0 ≤ x → x < pl - 1 → mx_wy wg wc we x (W x)) (q8 : ∀ x : Int, 0 ≤ x → x < pl - 1 → mx_ok pl (W x))  : ∀ (k : Nat) (i : Int) (l0 : Int) (l1 : Int) (l2 : Int) (ya : Int) (yb : Int) (u0 : Int) (u1 : Int) (x9 : Option Value) (x11 : Option Value) (x13 : Option Value) (x15 : Option Value) (x17 : Option Value) (u : List ik_E) (u7 : cE u 7 (.inr (0, [fI pl, fI ((s : Nat) : Int), fI lo, .ref 8, .ref 9, .ref 10, .ref 11, .ref 12, .ref 13]))) (u11 : cE u 11 (.inl (.int, fA wg))) (n11 : wg.length = 60) (u12 : cE u 12 (.inl (.int, fA wc))) (n12 : wc.length = 60) (u13 : cE u 13 (.inl (.int, fA we))) (n13 : we.length = 12) (u17 : cE u 17 (.inr (8, [.ref 7, .ref 15, .ref 18, .ref 19, fJ l2, .ref 20]))) (u19 : cE u 19 (.inl (.long, fL [l0, l1]))) (uC : mf_cv u C W pl ka pa u0) (uE : mf_cv u E W pl kb pb u1) (ul : u.length = 94) (F : hfr [17, 19, C, C + 1, C + 2, C + 3, E, E + 1, E + 2, E + 3] h u) (hi : 1 ≤ i ∧ i ≤ 201) (hya : ya = mr_by (mf_cm W (pl - 1) ka pa) ma (i - 1)) (hyb : yb = mr_by (mf_cm W (pl - 1) kb pb) mb (i - 1)) (h0 : l0 = mr_S (mr_t0 (mf_cm W (pl - 1) ka pa) ma (mf_cm W (pl - 1) kb pb) mb) i.toNat) (h1 : l1 = mr_S (mr_t0 (mf_cm W (pl - 1) kb pb) mb (mf_cm W (pl - 1) ka pa) ma) i.toNat) (h2 : l2 = mr_S (mr_t2 (mf_cm W (pl - 1) ka pa) ma (mf_cm W (pl - 1) kb pb) mb) i.toNat) (w9 : ik_wl 94 x9 = true) (w11 : ik_wl 94 x11 = true) (w13 : ik_wl 94 x13 = true) (w15 : ik_wl 94 x15 = true) (w17 : ik_wl 94 x17 = true) (hk : 201 - i < (k : Int)), ik_G 80 28 [some (.ref 17), some (.ref C), some (fI ma), some (.ref E), some (fI mb), some (fI lim), some (fI ya), some (fI yb), some (fI i), x9, none, x11, none, x13, none, x15, none, x17, none] [] u (fun rv h' => ∃ (l0 : Int) (l1 : Int) (l2 : Int) (ua' : Int) (ub' : Int), rv = [] ∧ cE h' 17 (.inr (8, [.ref 7, .ref 15, .ref 18, .ref 19, fJ l2, .ref 20])) ∧ cE h' 19 (.inl (.long, fL [l0, l1])) ∧ mf_cv h' C W pl ka pa ua' ∧ mf_cv h' E W pl kb pb ub' ∧ (0 ≤ l0 ∧ l0 ≤ 1000000000 ∧ 0 ≤ l1 ∧ l1 ≤ 1000000000 ∧ 0 ≤ l2 ∧ l2 ≤ 1000000000) ∧ ((l0 = mr_F0 (mf_cm W (pl - 1) ka pa) ma (mf_cm W (pl - 1) kb pb) mb ∧ l1 = mr_F0 (mf_cm W (pl - 1) kb pb) mb (mf_cm W (pl - 1) ka pa) ma ∧ l2 = mr_F2 (mf_cm W (pl - 1) ka pa) ma (mf_cm W (pl - 1) kb pb) mb) ∨ ((lim < l0 / 1000 - l1 / 1000 ∨ lim < l1 / 1000 - l0 / 1000) ∧ (lim < mr_F0 (mf_cm W (pl - 1) ka pa) ma (mf_cm W (pl - 1) kb pb) mb / 1000 - mr_F0 (mf_cm W (pl - 1) kb pb) mb (mf_cm W (pl - 1) ka pa) ma / 1000 ∨ lim < mr_F0 (mf_cm W (pl - 1) kb pb) mb (mf_cm W (pl - 1) ka pa) ma / 1000 - mr_F0 (mf_cm W (pl - 1) ka pa) ma (mf_cm W (pl - 1) kb pb) mb / 1000))) ∧ hfr [17, 19, C, C + 1, C + 2, C + 3, E, E + 1, E + 2, E + 3] h h') := by
  intro k
  induction k with
  | zero => intro i l0 l1 l2 ya yb u0 u1 x9 x11 x13 x15 x17 u u7 u11 n11 u12 n12 u13 n13 u17 u19 uC uE ul F hi hya hyb h0 h1 h2 w9 w11 w13 w15 w17 hk; omega
  | succ k ih =>
    intro i l0 l1 l2 ya yb u0 u1 x9 x11 x13 x15 x17 u u7 u11 n11 u12 n12 u13 n13 u17 u19 uC uE ul F hi hya hyb h0 h1 h2 w9 w11 w13 w15 w17 hk
    have k0 := mr_ok_cm (k := ka) q8 q3
    have k1 := mr_ok_cm (k := kb) q8 q4
    have za := mr_by_b k0 ma i
    have zb := mr_by_b k1 mb i
    have za1 := mr_by_b k0 ma (i - 1)
    have zb1 := mr_by_b k1 mb (i - 1)
    have s0 := mr_S_b0 k0 k1 ma (show 0 ≤ mb by omega) i.toNat
    have s1 := mr_S_b0 k1 k0 mb (show 0 ≤ ma by omega) i.toNat
    have s2 := mr_S_b2 k0 k1 ma (show 0 ≤ mb by omega) i.toNat
    refine ik_Wk 1 (pc' := 30) (loc' := [some (.ref 17), some (.ref C), some (fI ma), some (.ref E), some (fI mb), some (fI lim), some (fI ya), some (fI yb), some (fI i), x9, none, x11, none, x13, none, x15, none, x17, none]) (st' := [fI i]) (h' := u) (cl' := 0) (sl' := 0) rfl ?_
    refine fw_si rfl (by decide) ?_
    refine fw_ic_gt rfl rfl (by omega) (by omega) (by omega) (by omega) (fun hc1 => ?_) (fun hc1 => ?_)
    · have ei : i.toNat = 201 := by omega
      rw [ei] at h0 h1 h2 s0 s1 s2
      exact ik_Wret rfl rfl ⟨_, _, rfl, rfl, rfl, rfl, ⟨l0, l1, l2, u0, u1, rfl, u17, u19, uC, uE, (by omega), (Or.inl ⟨h0, h1, h2⟩), F⟩⟩
    · refine ik_Wk 3 (pc' := 40) (loc' := [some (.ref 17), some (.ref C), some (fI ma), some (.ref E), some (fI mb), some (fI lim), some (fI ya), some (fI yb), some (fI i), x9, none, x11, none, x13, none, x15, none, x17, none]) (st' := [fI ma, fI i, .ref C]) (h' := u) (cl' := 0) (sl' := 0) rfl ?_
      refine fw_sub rfl ?_
      refine fw_call 31 2 0 [.ref C, fI (i - ma)] [] rfl rfl rfl (by decide) rfl rfl (fw_rec ul (fw_ftx rfl wv_n (wl_c rfl (wl_c (wl_r (by omega)) (wl_c rfl (wl_c (wl_r (by omega)) (wl_c rfl (wl_c rfl (wl_c rfl (wl_c rfl (wl_c rfl (wl_c w9 (wl_c rfl (wl_c w11 (wl_c rfl (wl_c w13 (wl_c rfl (wl_c w15 (wl_c rfl (wl_c w17 (wl_c rfl wl_n)))))))))))))))))))) (mf_cv_o uC).choose_spec rfl (by decide)) (cs_come (C := C) (pl := pl) (lo := lo) (s := s) (t := i - ma) (kd := ka) (qp := pa) (ut := u0) (wg := wg) (wc := wc) (we := we) (W := W) (by omega) (by omega) (by omega) (by omega) q7 q8 (by omega) u7 u11 n11 u12 n12 u13 n13 uC ul) ?_
      rintro _ h_163 ⟨u'_163, rfl, e_163_C, p_163_0, F_163⟩
      have k_163 := F_163.1.trans ul
      have fr_163 := hfr_c F F_163 (by intro b_ hb; simp at hb ⊢; omega)
      have g_163_7 := (F_163.2 7 (by simp <;> omega)).trans u7
      have g_163_11 := (F_163.2 11 (by simp <;> omega)).trans u11
      have g_163_12 := (F_163.2 12 (by simp <;> omega)).trans u12
      have g_163_13 := (F_163.2 13 (by simp <;> omega)).trans u13
      have g_163_17 := (F_163.2 17 (by simp <;> omega)).trans u17
      have g_163_19 := (F_163.2 19 (by simp <;> omega)).trans u19
      have g_163_E := mf_cv_f uE (F_163.2 E (by simp <;> omega)) (F_163.2 (E + 1) (by simp <;> omega)) (F_163.2 (E + 2) (by simp <;> omega)) (F_163.2 (E + 3) (by simp <;> omega))
      have g_163_C : mf_cv h_163 C W pl ka pa u'_163 := e_163_C
      refine ik_Wk 0 (pc' := 44) (loc' := [some (.ref 17), some (.ref C), some (fI ma), some (.ref E), some (fI mb), some (fI lim), some (fI ya), some (fI yb), some (fI i), x9, none, x11, none, x13, none, x15, none, x17, none]) (st' := [fI (mf_ct W pl ka pa (i - ma))]) (h' := h_163) (cl' := 0) (sl' := 0) rfl ?_
      have ea : mf_ct W pl ka pa (i - ma) = mr_by (mf_cm W (pl - 1) ka pa) ma i := mr_ct (by omega) (by omega)
      refine ik_Wk 1 (pc' := 46) (loc' := [some (.ref 17), some (.ref C), some (fI ma), some (.ref E), some (fI mb), some (fI lim), some (fI ya), some (fI yb), some (fI i), x9, none, x11, none, x13, none, x15, none, x17, none]) (st' := [fI ya, fI (mf_ct W pl ka pa (i - ma))]) (h' := h_163) (cl' := 0) (sl' := 0) rfl ?_
      refine fw_sub rfl ?_
      refine fw_i2l rfl (by omega) (by omega) ?_
      refine ik_Wk 4 (pc' := 55) (loc' := [some (.ref 17), some (.ref C), some (fI ma), some (.ref E), some (fI mb), some (fI lim), some (fI ya), some (fI yb), some (fI i), some (fJ ((mf_ct W pl ka pa (i - ma)) - ya)), none, x11, none, x13, none, x15, none, x17, none]) (st' := [fI mb, fI i, .ref E]) (h' := h_163) (cl' := 0) (sl' := 0) rfl ?_
      refine fw_sub rfl ?_
      refine fw_call 31 2 0 [.ref E, fI (i - mb)] [] rfl rfl rfl (by decide) rfl rfl (fw_rec k_163 (fw_ftx rfl wv_n (wl_c rfl (wl_c (wl_r (by omega)) (wl_c rfl (wl_c (wl_r (by omega)) (wl_c rfl (wl_c rfl (wl_c rfl (wl_c rfl (wl_c rfl (wl_c rfl (wl_c rfl (wl_c w11 (wl_c rfl (wl_c w13 (wl_c rfl (wl_c w15 (wl_c rfl (wl_c w17 (wl_c rfl wl_n)))))))))))))))))))) (mf_cv_o g_163_E).choose_spec rfl (by decide)) (cs_come (C := E) (pl := pl) (lo := lo) (s := s) (t := i - mb) (kd := kb) (qp := pb) (ut := u1) (wg := wg) (wc := wc) (we := we) (W := W) (by omega) (by omega) (by omega) (by omega) q7 q8 (by omega) g_163_7 g_163_11 n11 g_163_12 n12 g_163_13 n13 g_163_E k_163) ?_
      rintro _ h_164 ⟨u'_164, rfl, e_164_C, p_164_0, F_164⟩
      have k_164 := F_164.1.trans k_163
      have fr_164 := hfr_c fr_163 F_164 (by intro b_ hb; simp at hb ⊢; omega)
      have g_164_7 := (F_164.2 7 (by simp <;> omega)).trans g_163_7
      have g_164_11 := (F_164.2 11 (by simp <;> omega)).trans g_163_11
      have g_164_12 := (F_164.2 12 (by simp <;> omega)).trans g_163_12
      have g_164_13 := (F_164.2 13 (by simp <;> omega)).trans g_163_13
      have g_164_17 := (F_164.2 17 (by simp <;> omega)).trans g_163_17
      have g_164_19 := (F_164.2 19 (by simp <;> omega)).trans g_163_19
      have g_164_C := mf_cv_f g_163_C (F_164.2 C (by simp <;> omega)) (F_164.2 (C + 1) (by simp <;> omega)) (F_164.2 (C + 2) (by simp <;> omega)) (F_164.2 (C + 3) (by simp <;> omega))
      have g_164_E : mf_cv h_164 E W pl kb pb u'_164 := e_164_C
      refine ik_Wk 0 (pc' := 59) (loc' := [some (.ref 17), some (.ref C), some (fI ma), some (.ref E), some (fI mb), some (fI lim), some (fI ya), some (fI yb), some (fI i), some (fJ ((mf_ct W pl ka pa (i - ma)) - ya)), none, x11, none, x13, none, x15, none, x17, none]) (st' := [fI (mf_ct W pl kb pb (i - mb))]) (h' := h_164) (cl' := 0) (sl' := 0) rfl ?_
      have eb : mf_ct W pl kb pb (i - mb) = mr_by (mf_cm W (pl - 1) kb pb) mb i := mr_ct (by omega) (by omega)
      refine ik_Wk 1 (pc' := 61) (loc' := [some (.ref 17), some (.ref C), some (fI ma), some (.ref E), some (fI mb), some (fI lim), some (fI ya), some (fI yb), some (fI i), some (fJ ((mf_ct W pl ka pa (i - ma)) - ya)), none, x11, none, x13, none, x15, none, x17, none]) (st' := [fI yb, fI (mf_ct W pl kb pb (i - mb))]) (h' := h_164) (cl' := 0) (sl' := 0) rfl ?_
      refine fw_sub rfl ?_
      refine fw_i2l rfl (by omega) (by omega) ?_
      refine ik_Wk 3 (pc' := 69) (loc' := [some (.ref 17), some (.ref C), some (fI ma), some (.ref E), some (fI mb), some (fI lim), some (fI ya), some (fI yb), some (fI i), some (fJ ((mf_ct W pl ka pa (i - ma)) - ya)), none, some (fJ ((mf_ct W pl kb pb (i - mb)) - yb)), none, x13, none, x15, none, x17, none]) (st' := [fJ ((mf_ct W pl ka pa (i - ma)) - ya), fI ya]) (h' := h_164) (cl' := 0) (sl' := 0) rfl ?_
      refine fx_l2i rfl ?_
      refine fw_add rfl ?_
      refine ik_Wk 3 (pc' := 77) (loc' := [some (.ref 17), some (.ref C), some (fI ma), some (.ref E), some (fI mb), some (fI lim), some (fI (ya + ((mf_ct W pl ka pa (i - ma)) - ya))), some (fI yb), some (fI i), some (fJ ((mf_ct W pl ka pa (i - ma)) - ya)), none, some (fJ ((mf_ct W pl kb pb (i - mb)) - yb)), none, x13, none, x15, none, x17, none]) (st' := [fJ ((mf_ct W pl kb pb (i - mb)) - yb), fI yb]) (h' := h_164) (cl' := 0) (sl' := 0) rfl ?_
      refine fx_l2i rfl ?_
      refine fw_add rfl ?_
      refine ik_Wk 1 (pc' := 81) (loc' := [some (.ref 17), some (.ref C), some (fI ma), some (.ref E), some (fI mb), some (fI lim), some (fI (ya + ((mf_ct W pl ka pa (i - ma)) - ya))), some (fI (yb + ((mf_ct W pl kb pb (i - mb)) - yb))), some (fI i), some (fJ ((mf_ct W pl ka pa (i - ma)) - ya)), none, some (fJ ((mf_ct W pl kb pb (i - mb)) - yb)), none, x13, none, x15, none, x17, none]) (st' := []) (h' := h_164) (cl' := 0) (sl' := 0) rfl ?_
      refine fw_l2 1000000000 rfl rfl (by decide) ?_
      refine ik_Wk 1 (pc' := 86) (loc' := [some (.ref 17), some (.ref C), some (fI ma), some (.ref E), some (fI mb), some (fI lim), some (fI (ya + ((mf_ct W pl ka pa (i - ma)) - ya))), some (fI (yb + ((mf_ct W pl kb pb (i - mb)) - yb))), some (fI i), some (fJ ((mf_ct W pl ka pa (i - ma)) - ya)), none, some (fJ ((mf_ct W pl kb pb (i - mb)) - yb)), none, x13, none, x15, none, x17, none]) (st' := [fI (ya + ((mf_ct W pl ka pa (i - ma)) - ya)), fJ 1000000000]) (h' := h_164) (cl' := 0) (sl' := 0) rfl ?_
      refine fw_i2l rfl (by omega) (by omega) ?_
      refine fw_lsub rfl ?_
      refine ik_Wk 1 (pc' := 90) (loc' := [some (.ref 17), some (.ref C), some (fI ma), some (.ref E), some (fI mb), some (fI lim), some (fI (ya + ((mf_ct W pl ka pa (i - ma)) - ya))), some (fI (yb + ((mf_ct W pl kb pb (i - mb)) - yb))), some (fI i), some (fJ ((mf_ct W pl ka pa (i - ma)) - ya)), none, some (fJ ((mf_ct W pl kb pb (i - mb)) - yb)), none, some (fJ (1000000000 - (ya + ((mf_ct W pl ka pa (i - ma)) - ya)))), none, x15, none, x17, none]) (st' := []) (h' := h_164) (cl' := 0) (sl' := 0) rfl ?_
      refine fw_l2 1000000000 rfl rfl (by decide) ?_
      refine ik_Wk 1 (pc' := 95) (loc' := [some (.ref 17), some (.ref C), some (fI ma), some (.ref E), some (fI mb), some (fI lim), some (fI (ya + ((mf_ct W pl ka pa (i - ma)) - ya))), some (fI (yb + ((mf_ct W pl kb pb (i - mb)) - yb))), some (fI i), some (fJ ((mf_ct W pl ka pa (i - ma)) - ya)), none, some (fJ ((mf_ct W pl kb pb (i - mb)) - yb)), none, some (fJ (1000000000 - (ya + ((mf_ct W pl ka pa (i - ma)) - ya)))), none, x15, none, x17, none]) (st' := [fI (yb + ((mf_ct W pl kb pb (i - mb)) - yb)), fJ 1000000000]) (h' := h_164) (cl' := 0) (sl' := 0) rfl ?_
      refine fw_i2l rfl (by omega) (by omega) ?_
      refine fw_lsub rfl ?_
      refine ik_Wk 2 (pc' := 100) (loc' := [some (.ref 17), some (.ref C), some (fI ma), some (.ref E), some (fI mb), some (fI lim), some (fI (ya + ((mf_ct W pl ka pa (i - ma)) - ya))), some (fI (yb + ((mf_ct W pl kb pb (i - mb)) - yb))), some (fI i), some (fJ ((mf_ct W pl ka pa (i - ma)) - ya)), none, some (fJ ((mf_ct W pl kb pb (i - mb)) - yb)), none, some (fJ (1000000000 - (ya + ((mf_ct W pl ka pa (i - ma)) - ya)))), none, some (fJ (1000000000 - (yb + ((mf_ct W pl kb pb (i - mb)) - yb)))), none, x17, none]) (st' := [.ref 17]) (h' := h_164) (cl' := 0) (sl' := 0) rfl ?_
      refine fw_gf rfl rfl g_164_17 rfl ?_
      refine ik_Wk 2 (pc' := 105) (loc' := [some (.ref 17), some (.ref C), some (fI ma), some (.ref E), some (fI mb), some (fI lim), some (fI (ya + ((mf_ct W pl ka pa (i - ma)) - ya))), some (fI (yb + ((mf_ct W pl kb pb (i - mb)) - yb))), some (fI i), some (fJ ((mf_ct W pl ka pa (i - ma)) - ya)), none, some (fJ ((mf_ct W pl kb pb (i - mb)) - yb)), none, some (fJ (1000000000 - (ya + ((mf_ct W pl ka pa (i - ma)) - ya)))), none, some (fJ (1000000000 - (yb + ((mf_ct W pl kb pb (i - mb)) - yb)))), none, x17, none]) (st' := [fI 0, .ref 19, fI 0, .ref 19]) (h' := h_164) (cl' := 0) (sl' := 0) rfl ?_
      refine fx_lal (z := 0) rfl g_164_19 (by decide) (Nat.le_of_ble_eq_true rfl) (by decide) ?_
      refine ik_Wk 0 (pc' := 106) (loc' := [some (.ref 17), some (.ref C), some (fI ma), some (.ref E), some (fI mb), some (fI lim), some (fI (ya + ((mf_ct W pl ka pa (i - ma)) - ya))), some (fI (yb + ((mf_ct W pl kb pb (i - mb)) - yb))), some (fI i), some (fJ ((mf_ct W pl ka pa (i - ma)) - ya)), none, some (fJ ((mf_ct W pl kb pb (i - mb)) - yb)), none, some (fJ (1000000000 - (ya + ((mf_ct W pl ka pa (i - ma)) - ya)))), none, some (fJ (1000000000 - (yb + ((mf_ct W pl kb pb (i - mb)) - yb)))), none, x17, none]) (st' := [fJ l0, fI 0, .ref 19]) (h' := h_164) (cl' := 0) (sl' := 0) rfl ?_
      refine ik_Wk 2 (pc' := 110) (loc' := [some (.ref 17), some (.ref C), some (fI ma), some (.ref E), some (fI mb), some (fI lim), some (fI (ya + ((mf_ct W pl ka pa (i - ma)) - ya))), some (fI (yb + ((mf_ct W pl kb pb (i - mb)) - yb))), some (fI i), some (fJ ((mf_ct W pl ka pa (i - ma)) - ya)), none, some (fJ ((mf_ct W pl kb pb (i - mb)) - yb)), none, some (fJ (1000000000 - (ya + ((mf_ct W pl ka pa (i - ma)) - ya)))), none, some (fJ (1000000000 - (yb + ((mf_ct W pl kb pb (i - mb)) - yb)))), none, x17, none]) (st' := [fJ (1000000000 - (ya + ((mf_ct W pl ka pa (i - ma)) - ya))), fJ ((mf_ct W pl kb pb (i - mb)) - yb), fJ l0, fI 0, .ref 19]) (h' := h_164) (cl' := 0) (sl' := 0) rfl ?_
      refine fw_lmul rfl ?_
      refine fw_l2 1000000000 rfl rfl (by decide) ?_
      have hm2 := mr_mul_b (a := ((mf_ct W pl kb pb (i - mb)) - yb)) (b := (1000000000 - (ya + ((mf_ct W pl ka pa (i - ma)) - ya)))) (by omega) (by omega) (by omega) (by omega)
      refine fx_ldiv rfl (by omega) (by omega) (by omega) (by omega) ?_
      refine fw_ladd rfl ?_
      refine fx_las (z := 0) rfl g_164_19 (by decide) (Nat.le_of_ble_eq_true rfl) (by decide) ?_
      intro h_165 e_165 f_165 l_165
      have k_165 := l_165.trans k_164
      have fr_165 := hfr_w fr_164 f_165 l_165 (by simp <;> omega)
      have g_165_7 := (f_165 7 (by decide)).trans g_164_7
      have g_165_11 := (f_165 11 (by decide)).trans g_164_11
      have g_165_12 := (f_165 12 (by decide)).trans g_164_12
      have g_165_13 := (f_165 13 (by decide)).trans g_164_13
      have g_165_17 := (f_165 17 (by decide)).trans g_164_17
      have g_165_C := mf_cv_f g_164_C (f_165 C (by omega)) (f_165 (C + 1) (by omega)) (f_165 (C + 2) (by omega)) (f_165 (C + 3) (by omega))
      have g_165_E := mf_cv_f g_164_E (f_165 E (by omega)) (f_165 (E + 1) (by omega)) (f_165 (E + 2) (by omega)) (f_165 (E + 3) (by omega))
      have g_165_19 : cE h_165 19 (.inl (.long, fL [l0 + ((((mf_ct W pl kb pb (i - mb)) - yb) * (1000000000 - (ya + ((mf_ct W pl ka pa (i - ma)) - ya)))) / 1000000000), l1])) := e_165
      refine ik_Wk 1 (pc' := 118) (loc' := [some (.ref 17), some (.ref C), some (fI ma), some (.ref E), some (fI mb), some (fI lim), some (fI (ya + ((mf_ct W pl ka pa (i - ma)) - ya))), some (fI (yb + ((mf_ct W pl kb pb (i - mb)) - yb))), some (fI i), some (fJ ((mf_ct W pl ka pa (i - ma)) - ya)), none, some (fJ ((mf_ct W pl kb pb (i - mb)) - yb)), none, some (fJ (1000000000 - (ya + ((mf_ct W pl ka pa (i - ma)) - ya)))), none, some (fJ (1000000000 - (yb + ((mf_ct W pl kb pb (i - mb)) - yb)))), none, x17, none]) (st' := [.ref 17]) (h' := h_165) (cl' := 0) (sl' := 0) rfl ?_
      refine fw_gf rfl rfl g_165_17 rfl ?_
      refine ik_Wk 2 (pc' := 123) (loc' := [some (.ref 17), some (.ref C), some (fI ma), some (.ref E), some (fI mb), some (fI lim), some (fI (ya + ((mf_ct W pl ka pa (i - ma)) - ya))), some (fI (yb + ((mf_ct W pl kb pb (i - mb)) - yb))), some (fI i), some (fJ ((mf_ct W pl ka pa (i - ma)) - ya)), none, some (fJ ((mf_ct W pl kb pb (i - mb)) - yb)), none, some (fJ (1000000000 - (ya + ((mf_ct W pl ka pa (i - ma)) - ya)))), none, some (fJ (1000000000 - (yb + ((mf_ct W pl kb pb (i - mb)) - yb)))), none, x17, none]) (st' := [fI 1, .ref 19, fI 1, .ref 19]) (h' := h_165) (cl' := 0) (sl' := 0) rfl ?_
      refine fx_lal (z := 1) rfl g_165_19 (by decide) (Nat.le_of_ble_eq_true rfl) (by decide) ?_
      refine ik_Wk 0 (pc' := 124) (loc' := [some (.ref 17), some (.ref C), some (fI ma), some (.ref E), some (fI mb), some (fI lim), some (fI (ya + ((mf_ct W pl ka pa (i - ma)) - ya))), some (fI (yb + ((mf_ct W pl kb pb (i - mb)) - yb))), some (fI i), some (fJ ((mf_ct W pl ka pa (i - ma)) - ya)), none, some (fJ ((mf_ct W pl kb pb (i - mb)) - yb)), none, some (fJ (1000000000 - (ya + ((mf_ct W pl ka pa (i - ma)) - ya)))), none, some (fJ (1000000000 - (yb + ((mf_ct W pl kb pb (i - mb)) - yb)))), none, x17, none]) (st' := [fJ l1, fI 1, .ref 19]) (h' := h_165) (cl' := 0) (sl' := 0) rfl ?_
      refine ik_Wk 2 (pc' := 128) (loc' := [some (.ref 17), some (.ref C), some (fI ma), some (.ref E), some (fI mb), some (fI lim), some (fI (ya + ((mf_ct W pl ka pa (i - ma)) - ya))), some (fI (yb + ((mf_ct W pl kb pb (i - mb)) - yb))), some (fI i), some (fJ ((mf_ct W pl ka pa (i - ma)) - ya)), none, some (fJ ((mf_ct W pl kb pb (i - mb)) - yb)), none, some (fJ (1000000000 - (ya + ((mf_ct W pl ka pa (i - ma)) - ya)))), none, some (fJ (1000000000 - (yb + ((mf_ct W pl kb pb (i - mb)) - yb)))), none, x17, none]) (st' := [fJ (1000000000 - (yb + ((mf_ct W pl kb pb (i - mb)) - yb))), fJ ((mf_ct W pl ka pa (i - ma)) - ya), fJ l1, fI 1, .ref 19]) (h' := h_165) (cl' := 0) (sl' := 0) rfl ?_
      refine fw_lmul rfl ?_
      refine fw_l2 1000000000 rfl rfl (by decide) ?_
      have hm3 := mr_mul_b (a := ((mf_ct W pl ka pa (i - ma)) - ya)) (b := (1000000000 - (yb + ((mf_ct W pl kb pb (i - mb)) - yb)))) (by omega) (by omega) (by omega) (by omega)
      refine fx_ldiv rfl (by omega) (by omega) (by omega) (by omega) ?_
      refine fw_ladd rfl ?_
      refine fx_las (z := 1) rfl g_165_19 (by decide) (Nat.le_of_ble_eq_true rfl) (by decide) ?_
      intro h_166 e_166 f_166 l_166
      have k_166 := l_166.trans k_165
      have fr_166 := hfr_w fr_165 f_166 l_166 (by simp <;> omega)
      have g_166_7 := (f_166 7 (by decide)).trans g_165_7
      have g_166_11 := (f_166 11 (by decide)).trans g_165_11
      have g_166_12 := (f_166 12 (by decide)).trans g_165_12
      have g_166_13 := (f_166 13 (by decide)).trans g_165_13
      have g_166_17 := (f_166 17 (by decide)).trans g_165_17
      have g_166_C := mf_cv_f g_165_C (f_166 C (by omega)) (f_166 (C + 1) (by omega)) (f_166 (C + 2) (by omega)) (f_166 (C + 3) (by omega))
      have g_166_E := mf_cv_f g_165_E (f_166 E (by omega)) (f_166 (E + 1) (by omega)) (f_166 (E + 2) (by omega)) (f_166 (E + 3) (by omega))
      have g_166_19 : cE h_166 19 (.inl (.long, fL [l0 + ((((mf_ct W pl kb pb (i - mb)) - yb) * (1000000000 - (ya + ((mf_ct W pl ka pa (i - ma)) - ya)))) / 1000000000), l1 + ((((mf_ct W pl ka pa (i - ma)) - ya) * (1000000000 - (yb + ((mf_ct W pl kb pb (i - mb)) - yb)))) / 1000000000)])) := e_166
      refine ik_Wk 2 (pc' := 137) (loc' := [some (.ref 17), some (.ref C), some (fI ma), some (.ref E), some (fI mb), some (fI lim), some (fI (ya + ((mf_ct W pl ka pa (i - ma)) - ya))), some (fI (yb + ((mf_ct W pl kb pb (i - mb)) - yb))), some (fI i), some (fJ ((mf_ct W pl ka pa (i - ma)) - ya)), none, some (fJ ((mf_ct W pl kb pb (i - mb)) - yb)), none, some (fJ (1000000000 - (ya + ((mf_ct W pl ka pa (i - ma)) - ya)))), none, some (fJ (1000000000 - (yb + ((mf_ct W pl kb pb (i - mb)) - yb)))), none, x17, none]) (st' := [.ref 17, .ref 17]) (h' := h_166) (cl' := 0) (sl' := 0) rfl ?_
      refine fw_gf rfl rfl g_166_17 rfl ?_
      refine ik_Wk 2 (pc' := 144) (loc' := [some (.ref 17), some (.ref C), some (fI ma), some (.ref E), some (fI mb), some (fI lim), some (fI (ya + ((mf_ct W pl ka pa (i - ma)) - ya))), some (fI (yb + ((mf_ct W pl kb pb (i - mb)) - yb))), some (fI i), some (fJ ((mf_ct W pl ka pa (i - ma)) - ya)), none, some (fJ ((mf_ct W pl kb pb (i - mb)) - yb)), none, some (fJ (1000000000 - (ya + ((mf_ct W pl ka pa (i - ma)) - ya)))), none, some (fJ (1000000000 - (yb + ((mf_ct W pl kb pb (i - mb)) - yb)))), none, x17, none]) (st' := [fJ ((mf_ct W pl kb pb (i - mb)) - yb), fJ ((mf_ct W pl ka pa (i - ma)) - ya), fJ l2, .ref 17]) (h' := h_166) (cl' := 0) (sl' := 0) rfl ?_
      refine fw_lmul rfl ?_
      refine fw_l2 1000000000 rfl rfl (by decide) ?_
      have hm4 := mr_mul_b (a := ((mf_ct W pl ka pa (i - ma)) - ya)) (b := ((mf_ct W pl kb pb (i - mb)) - yb)) (by omega) (by omega) (by omega) (by omega)
      refine fx_ldiv rfl (by omega) (by omega) (by omega) (by omega) ?_
      refine fw_ladd rfl ?_
      refine fx_pf rfl rfl g_166_17 (Nat.le_of_ble_eq_true rfl) rfl rfl ?_
      intro h_167 e_167 f_167 l_167
      have k_167 := l_167.trans k_166
      have fr_167 := hfr_w fr_166 f_167 l_167 (by simp <;> omega)
      have g_167_7 := (f_167 7 (by decide)).trans g_166_7
      have g_167_11 := (f_167 11 (by decide)).trans g_166_11
      have g_167_12 := (f_167 12 (by decide)).trans g_166_12
      have g_167_13 := (f_167 13 (by decide)).trans g_166_13
      have g_167_19 := (f_167 19 (by decide)).trans g_166_19
      have g_167_C := mf_cv_f g_166_C (f_167 C (by omega)) (f_167 (C + 1) (by omega)) (f_167 (C + 2) (by omega)) (f_167 (C + 3) (by omega))
      have g_167_E := mf_cv_f g_166_E (f_167 E (by omega)) (f_167 (E + 1) (by omega)) (f_167 (E + 2) (by omega)) (f_167 (E + 3) (by omega))
      have g_167_17 : cE h_167 17 (.inr (8, [.ref 7, .ref 15, .ref 18, .ref 19, fJ (l2 + ((((mf_ct W pl ka pa (i - ma)) - ya) * ((mf_ct W pl kb pb (i - mb)) - yb)) / 1000000000)), .ref 20])) := e_167
      refine ik_Wk 2 (pc' := 157) (loc' := [some (.ref 17), some (.ref C), some (fI ma), some (.ref E), some (fI mb), some (fI lim), some (fI (ya + ((mf_ct W pl ka pa (i - ma)) - ya))), some (fI (yb + ((mf_ct W pl kb pb (i - mb)) - yb))), some (fI i), some (fJ ((mf_ct W pl ka pa (i - ma)) - ya)), none, some (fJ ((mf_ct W pl kb pb (i - mb)) - yb)), none, some (fJ (1000000000 - (ya + ((mf_ct W pl ka pa (i - ma)) - ya)))), none, some (fJ (1000000000 - (yb + ((mf_ct W pl kb pb (i - mb)) - yb)))), none, x17, none]) (st' := [fJ (1000000000 - (yb + ((mf_ct W pl kb pb (i - mb)) - yb))), fJ (1000000000 - (ya + ((mf_ct W pl ka pa (i - ma)) - ya)))]) (h' := h_167) (cl' := 0) (sl' := 0) rfl ?_
      refine fw_lmul rfl ?_
      refine fw_l2 1000000000 rfl rfl (by decide) ?_
      have hm5 := mr_mul_b (a := (1000000000 - (ya + ((mf_ct W pl ka pa (i - ma)) - ya)))) (b := (1000000000 - (yb + ((mf_ct W pl kb pb (i - mb)) - yb)))) (by omega) (by omega) (by omega) (by omega)
      refine fx_ldiv rfl (by omega) (by omega) (by omega) (by omega) ?_
      refine ik_Wk 2 (pc' := 166) (loc' := [some (.ref 17), some (.ref C), some (fI ma), some (.ref E), some (fI mb), some (fI lim), some (fI (ya + ((mf_ct W pl ka pa (i - ma)) - ya))), some (fI (yb + ((mf_ct W pl kb pb (i - mb)) - yb))), some (fI i), some (fJ ((mf_ct W pl ka pa (i - ma)) - ya)), none, some (fJ ((mf_ct W pl kb pb (i - mb)) - yb)), none, some (fJ (1000000000 - (ya + ((mf_ct W pl ka pa (i - ma)) - ya)))), none, some (fJ (1000000000 - (yb + ((mf_ct W pl kb pb (i - mb)) - yb)))), none, some (fJ (((1000000000 - (ya + ((mf_ct W pl ka pa (i - ma)) - ya))) * (1000000000 - (yb + ((mf_ct W pl kb pb (i - mb)) - yb)))) / 1000000000)), none]) (st' := [fJ (((1000000000 - (ya + ((mf_ct W pl ka pa (i - ma)) - ya))) * (1000000000 - (yb + ((mf_ct W pl kb pb (i - mb)) - yb)))) / 1000000000)]) (h' := h_167) (cl' := 0) (sl' := 0) rfl ?_
      refine fw_lc (z := 0) rfl (by decide) ?_
      have t0 : l0 + ((((mf_ct W pl kb pb (i - mb)) - yb) * (1000000000 - (ya + ((mf_ct W pl ka pa (i - ma)) - ya)))) / 1000000000) = mr_S (mr_t0 (mf_cm W (pl - 1) ka pa) ma (mf_cm W (pl - 1) kb pb) mb) (i + 1).toNat := by
        rw [mr_S_s (by omega), ← h0]
        show _ = l0 + (mr_by (mf_cm W (pl - 1) kb pb) mb i - mr_by (mf_cm W (pl - 1) kb pb) mb (i - 1)) * (1000000000 - mr_by (mf_cm W (pl - 1) ka pa) ma i) / 1000000000
        rw [← eb, ← ea, ← hyb]
        exact congrArg (fun z => l0 + (mf_ct W pl kb pb (i - mb) - yb) * z / 1000000000) (by omega)
      have t1 : l1 + ((((mf_ct W pl ka pa (i - ma)) - ya) * (1000000000 - (yb + ((mf_ct W pl kb pb (i - mb)) - yb)))) / 1000000000) = mr_S (mr_t0 (mf_cm W (pl - 1) kb pb) mb (mf_cm W (pl - 1) ka pa) ma) (i + 1).toNat := by
        rw [mr_S_s (by omega), ← h1]
        show _ = l1 + (mr_by (mf_cm W (pl - 1) ka pa) ma i - mr_by (mf_cm W (pl - 1) ka pa) ma (i - 1)) * (1000000000 - mr_by (mf_cm W (pl - 1) kb pb) mb i) / 1000000000
        rw [← eb, ← ea, ← hya]
        exact congrArg (fun z => l1 + (mf_ct W pl ka pa (i - ma) - ya) * z / 1000000000) (by omega)
      have t2 : l2 + ((((mf_ct W pl ka pa (i - ma)) - ya) * ((mf_ct W pl kb pb (i - mb)) - yb)) / 1000000000) = mr_S (mr_t2 (mf_cm W (pl - 1) ka pa) ma (mf_cm W (pl - 1) kb pb) mb) (i + 1).toNat := by
        rw [mr_S_s (by omega), ← h2]
        show _ = l2 + (mr_by (mf_cm W (pl - 1) ka pa) ma i - mr_by (mf_cm W (pl - 1) ka pa) ma (i - 1)) * (mr_by (mf_cm W (pl - 1) kb pb) mb i - mr_by (mf_cm W (pl - 1) kb pb) mb (i - 1)) / 1000000000
        rw [← eb, ← ea, ← hya, ← hyb]
      have tr : ((1000000000 - (ya + ((mf_ct W pl ka pa (i - ma)) - ya))) * (1000000000 - (yb + ((mf_ct W pl kb pb (i - mb)) - yb)))) / 1000000000 = (1000000000 - mr_by (mf_cm W (pl - 1) ka pa) ma i) * (1000000000 - mr_by (mf_cm W (pl - 1) kb pb) mb i) / 1000000000 := by
        rw [← ea, ← eb, show ya + (mf_ct W pl ka pa (i - ma) - ya) = mf_ct W pl ka pa (i - ma) by omega, show yb + (mf_ct W pl kb pb (i - mb) - yb) = mf_ct W pl kb pb (i - mb) by omega]
      have r0 := mr_rest0 k0 k1 (m0 := ma) (m1 := mb) (u := i) (by omega)
      have r1 := mr_rest0 k1 k0 (m0 := mb) (m1 := ma) (u := i) (by omega)
      have r2 := mr_rest2 k0 k1 (m0 := ma) (m1 := mb) (u := i) (by omega)
      rw [Int.mul_comm (1000000000 - mr_by (mf_cm W (pl - 1) kb pb) mb i)] at r1
      have sb0 := mr_S_b0 k0 k1 ma (show 0 ≤ mb by omega) (i + 1).toNat
      have sb1 := mr_S_b0 k1 k0 mb (show 0 ≤ ma by omega) (i + 1).toNat
      have sb2 := mr_S_b2 k0 k1 ma (show 0 ≤ mb by omega) (i + 1).toNat
      refine fw_lcmp_eq rfl rfl rfl (by omega) (by omega) (by omega) (by omega) (fun hc6 => ?_) (fun hc6 => ?_)
      · exact ik_Wret rfl rfl ⟨_, _, rfl, rfl, rfl, rfl, ⟨(l0 + ((((mf_ct W pl kb pb (i - mb)) - yb) * (1000000000 - (ya + ((mf_ct W pl ka pa (i - ma)) - ya)))) / 1000000000)), (l1 + ((((mf_ct W pl ka pa (i - ma)) - ya) * (1000000000 - (yb + ((mf_ct W pl kb pb (i - mb)) - yb)))) / 1000000000)), (l2 + ((((mf_ct W pl ka pa (i - ma)) - ya) * ((mf_ct W pl kb pb (i - mb)) - yb)) / 1000000000)), u'_163, u'_164, rfl, g_167_17, g_167_19, g_167_C, g_167_E, (by omega), (by omega), fr_167⟩⟩
      · refine ik_Wk 2 (pc' := 174) (loc' := [some (.ref 17), some (.ref C), some (fI ma), some (.ref E), some (fI mb), some (fI lim), some (fI (ya + ((mf_ct W pl ka pa (i - ma)) - ya))), some (fI (yb + ((mf_ct W pl kb pb (i - mb)) - yb))), some (fI i), some (fJ ((mf_ct W pl ka pa (i - ma)) - ya)), none, some (fJ ((mf_ct W pl kb pb (i - mb)) - yb)), none, some (fJ (1000000000 - (ya + ((mf_ct W pl ka pa (i - ma)) - ya)))), none, some (fJ (1000000000 - (yb + ((mf_ct W pl kb pb (i - mb)) - yb)))), none, some (fJ (((1000000000 - (ya + ((mf_ct W pl ka pa (i - ma)) - ya))) * (1000000000 - (yb + ((mf_ct W pl kb pb (i - mb)) - yb)))) / 1000000000)), none]) (st' := [fJ (((1000000000 - (ya + ((mf_ct W pl ka pa (i - ma)) - ya))) * (1000000000 - (yb + ((mf_ct W pl kb pb (i - mb)) - yb)))) / 1000000000), .ref 17]) (h' := h_167) (cl' := 0) (sl' := 0) rfl ?_
        refine ik_Wc 81 2 0 [.ref 17, fJ (((1000000000 - (ya + ((mf_ct W pl ka pa (i - ma)) - ya))) * (1000000000 - (yb + ((mf_ct W pl kb pb (i - mb)) - yb)))) / 1000000000)] [] rfl rfl rfl (by decide) rfl rfl (fw_rec k_167 (fw_ftx rfl wv_n (wl_c rfl (wl_c (wl_r (by omega)) (wl_c rfl (wl_c (wl_r (by omega)) (wl_c rfl (wl_c rfl (wl_c rfl (wl_c rfl (wl_c rfl (wl_c rfl (wl_c rfl (wl_c rfl (wl_c rfl (wl_c rfl (wl_c rfl (wl_c rfl (wl_c rfl (wl_c rfl (wl_c rfl wl_n)))))))))))))))))))) g_167_17 rfl (by decide)) ?_
        refine ik_Wk 0 (pc' := 0) (loc' := [some (.ref 17), some (fJ (((1000000000 - (ya + ((mf_ct W pl ka pa (i - ma)) - ya))) * (1000000000 - (yb + ((mf_ct W pl kb pb (i - mb)) - yb)))) / 1000000000)), none]) (st' := []) (h' := h_167) (cl' := 0) (sl' := 0) rfl ?_
        refine ik_Wk 1 (pc' := 1) (loc' := [some (.ref 17), some (fJ (((1000000000 - (ya + ((mf_ct W pl ka pa (i - ma)) - ya))) * (1000000000 - (yb + ((mf_ct W pl kb pb (i - mb)) - yb)))) / 1000000000)), none]) (st' := [.ref 17]) (h' := h_167) (cl' := 0) (sl' := 0) rfl ?_
        refine fw_gf rfl rfl g_167_17 rfl ?_
        refine ik_Wk 1 (pc' := 5) (loc' := [some (.ref 17), some (fJ (((1000000000 - (ya + ((mf_ct W pl ka pa (i - ma)) - ya))) * (1000000000 - (yb + ((mf_ct W pl kb pb (i - mb)) - yb)))) / 1000000000)), none]) (st' := [fI 0, .ref 19]) (h' := h_167) (cl' := 0) (sl' := 0) rfl ?_
        refine fx_lal (z := 0) rfl g_167_19 (by decide) (Nat.le_of_ble_eq_true rfl) (by decide) ?_
        refine ik_Wk 0 (pc' := 6) (loc' := [some (.ref 17), some (fJ (((1000000000 - (ya + ((mf_ct W pl ka pa (i - ma)) - ya))) * (1000000000 - (yb + ((mf_ct W pl kb pb (i - mb)) - yb)))) / 1000000000)), none]) (st' := [fJ (l0 + ((((mf_ct W pl kb pb (i - mb)) - yb) * (1000000000 - (ya + ((mf_ct W pl ka pa (i - ma)) - ya)))) / 1000000000))]) (h' := h_167) (cl' := 0) (sl' := 0) rfl ?_
        refine fw_l2 1000 rfl rfl (by decide) ?_
        refine fx_ldiv rfl (by omega) (by omega) (by omega) (by omega) ?_
        refine ik_Wk 1 (pc' := 11) (loc' := [some (.ref 17), some (fJ (((1000000000 - (ya + ((mf_ct W pl ka pa (i - ma)) - ya))) * (1000000000 - (yb + ((mf_ct W pl kb pb (i - mb)) - yb)))) / 1000000000)), none]) (st' := [.ref 17, fJ ((l0 + ((((mf_ct W pl kb pb (i - mb)) - yb) * (1000000000 - (ya + ((mf_ct W pl ka pa (i - ma)) - ya)))) / 1000000000)) / 1000)]) (h' := h_167) (cl' := 0) (sl' := 0) rfl ?_
        refine fw_gf rfl rfl g_167_17 rfl ?_
        refine ik_Wk 1 (pc' := 15) (loc' := [some (.ref 17), some (fJ (((1000000000 - (ya + ((mf_ct W pl ka pa (i - ma)) - ya))) * (1000000000 - (yb + ((mf_ct W pl kb pb (i - mb)) - yb)))) / 1000000000)), none]) (st' := [fI 1, .ref 19, fJ ((l0 + ((((mf_ct W pl kb pb (i - mb)) - yb) * (1000000000 - (ya + ((mf_ct W pl ka pa (i - ma)) - ya)))) / 1000000000)) / 1000)]) (h' := h_167) (cl' := 0) (sl' := 0) rfl ?_
        refine fx_lal (z := 1) rfl g_167_19 (by decide) (Nat.le_of_ble_eq_true rfl) (by decide) ?_
        refine ik_Wk 0 (pc' := 16) (loc' := [some (.ref 17), some (fJ (((1000000000 - (ya + ((mf_ct W pl ka pa (i - ma)) - ya))) * (1000000000 - (yb + ((mf_ct W pl kb pb (i - mb)) - yb)))) / 1000000000)), none]) (st' := [fJ (l1 + ((((mf_ct W pl ka pa (i - ma)) - ya) * (1000000000 - (yb + ((mf_ct W pl kb pb (i - mb)) - yb)))) / 1000000000)), fJ ((l0 + ((((mf_ct W pl kb pb (i - mb)) - yb) * (1000000000 - (ya + ((mf_ct W pl ka pa (i - ma)) - ya)))) / 1000000000)) / 1000)]) (h' := h_167) (cl' := 0) (sl' := 0) rfl ?_
        refine ik_Wk 1 (pc' := 17) (loc' := [some (.ref 17), some (fJ (((1000000000 - (ya + ((mf_ct W pl ka pa (i - ma)) - ya))) * (1000000000 - (yb + ((mf_ct W pl kb pb (i - mb)) - yb)))) / 1000000000)), none]) (st' := [fJ (((1000000000 - (ya + ((mf_ct W pl ka pa (i - ma)) - ya))) * (1000000000 - (yb + ((mf_ct W pl kb pb (i - mb)) - yb)))) / 1000000000), fJ (l1 + ((((mf_ct W pl ka pa (i - ma)) - ya) * (1000000000 - (yb + ((mf_ct W pl kb pb (i - mb)) - yb)))) / 1000000000)), fJ ((l0 + ((((mf_ct W pl kb pb (i - mb)) - yb) * (1000000000 - (ya + ((mf_ct W pl ka pa (i - ma)) - ya)))) / 1000000000)) / 1000)]) (h' := h_167) (cl' := 0) (sl' := 0) rfl ?_
        refine fw_ladd rfl ?_
        refine fw_l2 1000 rfl rfl (by decide) ?_
        refine fx_ldiv rfl (by omega) (by omega) (by omega) (by omega) ?_
        refine fw_lsub rfl ?_
        refine ik_Wk 1 (pc' := 24) (loc' := [some (.ref 17), some (fJ (((1000000000 - (ya + ((mf_ct W pl ka pa (i - ma)) - ya))) * (1000000000 - (yb + ((mf_ct W pl kb pb (i - mb)) - yb)))) / 1000000000)), none]) (st' := [.ref 17, fJ (((l0 + ((((mf_ct W pl kb pb (i - mb)) - yb) * (1000000000 - (ya + ((mf_ct W pl ka pa (i - ma)) - ya)))) / 1000000000)) / 1000) - (((l1 + ((((mf_ct W pl ka pa (i - ma)) - ya) * (1000000000 - (yb + ((mf_ct W pl kb pb (i - mb)) - yb)))) / 1000000000)) + (((1000000000 - (ya + ((mf_ct W pl ka pa (i - ma)) - ya))) * (1000000000 - (yb + ((mf_ct W pl kb pb (i - mb)) - yb)))) / 1000000000)) / 1000))]) (h' := h_167) (cl' := 0) (sl' := 0) rfl ?_
        refine fw_gf rfl rfl g_167_17 rfl ?_
        refine ik_Wk 1 (pc' := 28) (loc' := [some (.ref 17), some (fJ (((1000000000 - (ya + ((mf_ct W pl ka pa (i - ma)) - ya))) * (1000000000 - (yb + ((mf_ct W pl kb pb (i - mb)) - yb)))) / 1000000000)), none]) (st' := [fI 1, .ref 19, fJ (((l0 + ((((mf_ct W pl kb pb (i - mb)) - yb) * (1000000000 - (ya + ((mf_ct W pl ka pa (i - ma)) - ya)))) / 1000000000)) / 1000) - (((l1 + ((((mf_ct W pl ka pa (i - ma)) - ya) * (1000000000 - (yb + ((mf_ct W pl kb pb (i - mb)) - yb)))) / 1000000000)) + (((1000000000 - (ya + ((mf_ct W pl ka pa (i - ma)) - ya))) * (1000000000 - (yb + ((mf_ct W pl kb pb (i - mb)) - yb)))) / 1000000000)) / 1000))]) (h' := h_167) (cl' := 0) (sl' := 0) rfl ?_
        refine fx_lal (z := 1) rfl g_167_19 (by decide) (Nat.le_of_ble_eq_true rfl) (by decide) ?_
        refine ik_Wk 0 (pc' := 29) (loc' := [some (.ref 17), some (fJ (((1000000000 - (ya + ((mf_ct W pl ka pa (i - ma)) - ya))) * (1000000000 - (yb + ((mf_ct W pl kb pb (i - mb)) - yb)))) / 1000000000)), none]) (st' := [fJ (l1 + ((((mf_ct W pl ka pa (i - ma)) - ya) * (1000000000 - (yb + ((mf_ct W pl kb pb (i - mb)) - yb)))) / 1000000000)), fJ (((l0 + ((((mf_ct W pl kb pb (i - mb)) - yb) * (1000000000 - (ya + ((mf_ct W pl ka pa (i - ma)) - ya)))) / 1000000000)) / 1000) - (((l1 + ((((mf_ct W pl ka pa (i - ma)) - ya) * (1000000000 - (yb + ((mf_ct W pl kb pb (i - mb)) - yb)))) / 1000000000)) + (((1000000000 - (ya + ((mf_ct W pl ka pa (i - ma)) - ya))) * (1000000000 - (yb + ((mf_ct W pl kb pb (i - mb)) - yb)))) / 1000000000)) / 1000))]) (h' := h_167) (cl' := 0) (sl' := 0) rfl ?_
        refine fw_l2 1000 rfl rfl (by decide) ?_
        refine fx_ldiv rfl (by omega) (by omega) (by omega) (by omega) ?_
        refine ik_Wk 1 (pc' := 34) (loc' := [some (.ref 17), some (fJ (((1000000000 - (ya + ((mf_ct W pl ka pa (i - ma)) - ya))) * (1000000000 - (yb + ((mf_ct W pl kb pb (i - mb)) - yb)))) / 1000000000)), none]) (st' := [.ref 17, fJ ((l1 + ((((mf_ct W pl ka pa (i - ma)) - ya) * (1000000000 - (yb + ((mf_ct W pl kb pb (i - mb)) - yb)))) / 1000000000)) / 1000), fJ (((l0 + ((((mf_ct W pl kb pb (i - mb)) - yb) * (1000000000 - (ya + ((mf_ct W pl ka pa (i - ma)) - ya)))) / 1000000000)) / 1000) - (((l1 + ((((mf_ct W pl ka pa (i - ma)) - ya) * (1000000000 - (yb + ((mf_ct W pl kb pb (i - mb)) - yb)))) / 1000000000)) + (((1000000000 - (ya + ((mf_ct W pl ka pa (i - ma)) - ya))) * (1000000000 - (yb + ((mf_ct W pl kb pb (i - mb)) - yb)))) / 1000000000)) / 1000))]) (h' := h_167) (cl' := 0) (sl' := 0) rfl ?_
        refine fw_gf rfl rfl g_167_17 rfl ?_
        refine ik_Wk 1 (pc' := 38) (loc' := [some (.ref 17), some (fJ (((1000000000 - (ya + ((mf_ct W pl ka pa (i - ma)) - ya))) * (1000000000 - (yb + ((mf_ct W pl kb pb (i - mb)) - yb)))) / 1000000000)), none]) (st' := [fI 0, .ref 19, fJ ((l1 + ((((mf_ct W pl ka pa (i - ma)) - ya) * (1000000000 - (yb + ((mf_ct W pl kb pb (i - mb)) - yb)))) / 1000000000)) / 1000), fJ (((l0 + ((((mf_ct W pl kb pb (i - mb)) - yb) * (1000000000 - (ya + ((mf_ct W pl ka pa (i - ma)) - ya)))) / 1000000000)) / 1000) - (((l1 + ((((mf_ct W pl ka pa (i - ma)) - ya) * (1000000000 - (yb + ((mf_ct W pl kb pb (i - mb)) - yb)))) / 1000000000)) + (((1000000000 - (ya + ((mf_ct W pl ka pa (i - ma)) - ya))) * (1000000000 - (yb + ((mf_ct W pl kb pb (i - mb)) - yb)))) / 1000000000)) / 1000))]) (h' := h_167) (cl' := 0) (sl' := 0) rfl ?_
        refine fx_lal (z := 0) rfl g_167_19 (by decide) (Nat.le_of_ble_eq_true rfl) (by decide) ?_
        refine ik_Wk 0 (pc' := 39) (loc' := [some (.ref 17), some (fJ (((1000000000 - (ya + ((mf_ct W pl ka pa (i - ma)) - ya))) * (1000000000 - (yb + ((mf_ct W pl kb pb (i - mb)) - yb)))) / 1000000000)), none]) (st' := [fJ (l0 + ((((mf_ct W pl kb pb (i - mb)) - yb) * (1000000000 - (ya + ((mf_ct W pl ka pa (i - ma)) - ya)))) / 1000000000)), fJ ((l1 + ((((mf_ct W pl ka pa (i - ma)) - ya) * (1000000000 - (yb + ((mf_ct W pl kb pb (i - mb)) - yb)))) / 1000000000)) / 1000), fJ (((l0 + ((((mf_ct W pl kb pb (i - mb)) - yb) * (1000000000 - (ya + ((mf_ct W pl ka pa (i - ma)) - ya)))) / 1000000000)) / 1000) - (((l1 + ((((mf_ct W pl ka pa (i - ma)) - ya) * (1000000000 - (yb + ((mf_ct W pl kb pb (i - mb)) - yb)))) / 1000000000)) + (((1000000000 - (ya + ((mf_ct W pl ka pa (i - ma)) - ya))) * (1000000000 - (yb + ((mf_ct W pl kb pb (i - mb)) - yb)))) / 1000000000)) / 1000))]) (h' := h_167) (cl' := 0) (sl' := 0) rfl ?_
        refine ik_Wk 1 (pc' := 40) (loc' := [some (.ref 17), some (fJ (((1000000000 - (ya + ((mf_ct W pl ka pa (i - ma)) - ya))) * (1000000000 - (yb + ((mf_ct W pl kb pb (i - mb)) - yb)))) / 1000000000)), none]) (st' := [fJ (((1000000000 - (ya + ((mf_ct W pl ka pa (i - ma)) - ya))) * (1000000000 - (yb + ((mf_ct W pl kb pb (i - mb)) - yb)))) / 1000000000), fJ (l0 + ((((mf_ct W pl kb pb (i - mb)) - yb) * (1000000000 - (ya + ((mf_ct W pl ka pa (i - ma)) - ya)))) / 1000000000)), fJ ((l1 + ((((mf_ct W pl ka pa (i - ma)) - ya) * (1000000000 - (yb + ((mf_ct W pl kb pb (i - mb)) - yb)))) / 1000000000)) / 1000), fJ (((l0 + ((((mf_ct W pl kb pb (i - mb)) - yb) * (1000000000 - (ya + ((mf_ct W pl ka pa (i - ma)) - ya)))) / 1000000000)) / 1000) - (((l1 + ((((mf_ct W pl ka pa (i - ma)) - ya) * (1000000000 - (yb + ((mf_ct W pl kb pb (i - mb)) - yb)))) / 1000000000)) + (((1000000000 - (ya + ((mf_ct W pl ka pa (i - ma)) - ya))) * (1000000000 - (yb + ((mf_ct W pl kb pb (i - mb)) - yb)))) / 1000000000)) / 1000))]) (h' := h_167) (cl' := 0) (sl' := 0) rfl ?_
        refine fw_ladd rfl ?_
        refine fw_l2 1000 rfl rfl (by decide) ?_
        refine fx_ldiv rfl (by omega) (by omega) (by omega) (by omega) ?_
        refine fw_lsub rfl ?_
        refine fx_mx rfl rfl rfl ⟨Nat.le_of_ble_eq_true rfl, Nat.le_of_ble_eq_true rfl, Nat.le_of_ble_eq_true rfl⟩ (by omega) (by omega) (by omega) (by omega) ?_
        intro mm7 qmm7
        refine ik_Wret rfl rfl ⟨_, _, rfl, rfl, ?_⟩
        refine ik_Wk 0 (pc' := 177) (loc' := [some (.ref 17), some (.ref C), some (fI ma), some (.ref E), some (fI mb), some (fI lim), some (fI (ya + ((mf_ct W pl ka pa (i - ma)) - ya))), some (fI (yb + ((mf_ct W pl kb pb (i - mb)) - yb))), some (fI i), some (fJ ((mf_ct W pl ka pa (i - ma)) - ya)), none, some (fJ ((mf_ct W pl kb pb (i - mb)) - yb)), none, some (fJ (1000000000 - (ya + ((mf_ct W pl ka pa (i - ma)) - ya)))), none, some (fJ (1000000000 - (yb + ((mf_ct W pl kb pb (i - mb)) - yb)))), none, some (fJ (((1000000000 - (ya + ((mf_ct W pl ka pa (i - ma)) - ya))) * (1000000000 - (yb + ((mf_ct W pl kb pb (i - mb)) - yb)))) / 1000000000)), none]) (st' := [fJ mm7]) (h' := h_167) (cl' := 0) (sl' := 0) rfl ?_
        refine ik_Wk 1 (pc' := 179) (loc' := [some (.ref 17), some (.ref C), some (fI ma), some (.ref E), some (fI mb), some (fI lim), some (fI (ya + ((mf_ct W pl ka pa (i - ma)) - ya))), some (fI (yb + ((mf_ct W pl kb pb (i - mb)) - yb))), some (fI i), some (fJ ((mf_ct W pl ka pa (i - ma)) - ya)), none, some (fJ ((mf_ct W pl kb pb (i - mb)) - yb)), none, some (fJ (1000000000 - (ya + ((mf_ct W pl ka pa (i - ma)) - ya)))), none, some (fJ (1000000000 - (yb + ((mf_ct W pl kb pb (i - mb)) - yb)))), none, some (fJ (((1000000000 - (ya + ((mf_ct W pl ka pa (i - ma)) - ya))) * (1000000000 - (yb + ((mf_ct W pl kb pb (i - mb)) - yb)))) / 1000000000)), none]) (st' := [fI lim, fJ mm7]) (h' := h_167) (cl' := 0) (sl' := 0) rfl ?_
        refine fw_i2l rfl (by omega) (by omega) ?_
        refine fw_lcmp_le rfl rfl rfl (by omega) (by omega) (by omega) (by omega) (fun hc8 => ?_) (fun hc8 => ?_)
        · refine fw_inc (a := i) (loc' := [some (.ref 17), some (.ref C), some (fI ma), some (.ref E), some (fI mb), some (fI lim), some (fI (ya + ((mf_ct W pl ka pa (i - ma)) - ya))), some (fI (yb + ((mf_ct W pl kb pb (i - mb)) - yb))), some (fI (i + 1)), some (fJ ((mf_ct W pl ka pa (i - ma)) - ya)), none, some (fJ ((mf_ct W pl kb pb (i - mb)) - yb)), none, some (fJ (1000000000 - (ya + ((mf_ct W pl ka pa (i - ma)) - ya)))), none, some (fJ (1000000000 - (yb + ((mf_ct W pl kb pb (i - mb)) - yb)))), none, some (fJ (((1000000000 - (ya + ((mf_ct W pl ka pa (i - ma)) - ya))) * (1000000000 - (yb + ((mf_ct W pl kb pb (i - mb)) - yb)))) / 1000000000)), none]) rfl rfl (Nat.le_of_ble_eq_true rfl) rfl ?_
          refine ik_Wk 1 (pc' := 28) (loc' := [some (.ref 17), some (.ref C), some (fI ma), some (.ref E), some (fI mb), some (fI lim), some (fI (ya + ((mf_ct W pl ka pa (i - ma)) - ya))), some (fI (yb + ((mf_ct W pl kb pb (i - mb)) - yb))), some (fI (i + 1)), some (fJ ((mf_ct W pl ka pa (i - ma)) - ya)), none, some (fJ ((mf_ct W pl kb pb (i - mb)) - yb)), none, some (fJ (1000000000 - (ya + ((mf_ct W pl ka pa (i - ma)) - ya)))), none, some (fJ (1000000000 - (yb + ((mf_ct W pl kb pb (i - mb)) - yb)))), none, some (fJ (((1000000000 - (ya + ((mf_ct W pl ka pa (i - ma)) - ya))) * (1000000000 - (yb + ((mf_ct W pl kb pb (i - mb)) - yb)))) / 1000000000)), none]) (st' := []) (h' := h_167) (cl' := 0) (sl' := 0) rfl ?_
          exact ih  (i + 1) (l0 + ((((mf_ct W pl kb pb (i - mb)) - yb) * (1000000000 - (ya + ((mf_ct W pl ka pa (i - ma)) - ya)))) / 1000000000)) (l1 + ((((mf_ct W pl ka pa (i - ma)) - ya) * (1000000000 - (yb + ((mf_ct W pl kb pb (i - mb)) - yb)))) / 1000000000)) (l2 + ((((mf_ct W pl ka pa (i - ma)) - ya) * ((mf_ct W pl kb pb (i - mb)) - yb)) / 1000000000)) (ya + ((mf_ct W pl ka pa (i - ma)) - ya)) (yb + ((mf_ct W pl kb pb (i - mb)) - yb)) u'_163 u'_164 (some (fJ ((mf_ct W pl ka pa (i - ma)) - ya))) (some (fJ ((mf_ct W pl kb pb (i - mb)) - yb))) (some (fJ (1000000000 - (ya + ((mf_ct W pl ka pa (i - ma)) - ya))))) (some (fJ (1000000000 - (yb + ((mf_ct W pl kb pb (i - mb)) - yb))))) (some (fJ (((1000000000 - (ya + ((mf_ct W pl ka pa (i - ma)) - ya))) * (1000000000 - (yb + ((mf_ct W pl kb pb (i - mb)) - yb)))) / 1000000000))) h_167 g_167_7 g_167_11 n11 g_167_12 n12 g_167_13 n13 g_167_17 g_167_19 g_167_C g_167_E k_167 fr_167 (by omega) (by rw [show i + 1 - 1 = i by omega]; omega) (by rw [show i + 1 - 1 = i by omega]; omega) t0 t1 t2 rfl rfl rfl rfl rfl (by omega)
        · refine ik_Wk 1 (pc' := 193) (loc' := [some (.ref 17), some (.ref C), some (fI ma), some (.ref E), some (fI mb), some (fI lim), some (fI (ya + ((mf_ct W pl ka pa (i - ma)) - ya))), some (fI (yb + ((mf_ct W pl kb pb (i - mb)) - yb))), some (fI i), some (fJ ((mf_ct W pl ka pa (i - ma)) - ya)), none, some (fJ ((mf_ct W pl kb pb (i - mb)) - yb)), none, some (fJ (1000000000 - (ya + ((mf_ct W pl ka pa (i - ma)) - ya)))), none, some (fJ (1000000000 - (yb + ((mf_ct W pl kb pb (i - mb)) - yb)))), none, some (fJ (((1000000000 - (ya + ((mf_ct W pl ka pa (i - ma)) - ya))) * (1000000000 - (yb + ((mf_ct W pl kb pb (i - mb)) - yb)))) / 1000000000)), none]) (st' := []) (h' := h_167) (cl' := 0) (sl' := 0) rfl ?_
          exact ik_Wret rfl rfl ⟨_, _, rfl, rfl, rfl, rfl, ⟨(l0 + ((((mf_ct W pl kb pb (i - mb)) - yb) * (1000000000 - (ya + ((mf_ct W pl ka pa (i - ma)) - ya)))) / 1000000000)), (l1 + ((((mf_ct W pl ka pa (i - ma)) - ya) * (1000000000 - (yb + ((mf_ct W pl kb pb (i - mb)) - yb)))) / 1000000000)), (l2 + ((((mf_ct W pl ka pa (i - ma)) - ya) * ((mf_ct W pl kb pb (i - mb)) - yb)) / 1000000000)), u'_163, u'_164, rfl, g_167_17, g_167_19, g_167_C, g_167_E, (by omega), (by omega), fr_167⟩⟩

theorem cs_race {h : List ik_E} {C : Nat} {E : Nat} {pl : Int} {lo : Int} {s : Nat} {ka : Int} {pa : Int} {ma : Int} {kb : Int} {pb : Int} {mb : Int} {ua : Int} {ub : Int} {lim : Int} {bo : Int} {la : Int} {lb : Int} {wg : List Int} {wc : List Int} {we : List Int} {W : Int → List (Int × Int)} (q0 : 20 < C ∧ C < 42 ∧ 20 < E ∧ E < 42 ∧ (C + 4 ≤ E ∨ E + 4 ≤ C)) (q1 : 2 ≤ pl ∧ pl ≤ 12) (q2 : 0 ≤ ka ∧ ka ≤ 2 ∧ 0 ≤ kb ∧ kb ≤ 2) (q3 : 0 ≤ pa ∧ pa < pl - 1) (q4 : 0 ≤ pb ∧ pb < pl - 1) (q5 : 0 ≤ ma ∧ ma ≤ 30 ∧ 0 ≤ mb ∧ mb ≤ 30) (q6 : 0 ≤ lim ∧ lim ≤ 1000000) (q7 : ∀ x : Int, 0 ≤ x → x < pl - 1 → mx_wy wg wc we x (W x)) (q8 : ∀ x : Int, 0 ≤ x → x < pl - 1 → mx_ok pl (W x)) (h7 : cE h 7 (.inr (0, [fI pl, fI ((s : Nat) : Int), fI lo, .ref 8, .ref 9, .ref 10, .ref 11, .ref 12, .ref 13]))) (h11 : cE h 11 (.inl (.int, fA wg))) (n11 : wg.length = 60) (h12 : cE h 12 (.inl (.int, fA wc))) (n12 : wc.length = 60) (h13 : cE h 13 (.inl (.int, fA we))) (n13 : we.length = 12) (h17 : cE h 17 (.inr (8, [.ref 7, .ref 15, .ref 18, .ref 19, fJ bo, .ref 20]))) (h19 : cE h 19 (.inl (.long, fL [la, lb]))) (hC : mf_cv h C W pl ka pa ua) (hE : mf_cv h E W pl kb pb ub) (hl : h.length = 94) : ik_F 80 [.ref 17, .ref C, fI ma, .ref E, fI mb, fI lim] h (fun rv h' => ∃ (l0 : Int) (l1 : Int) (l2 : Int) (ua' : Int) (ub' : Int), rv = [] ∧ cE h' 17 (.inr (8, [.ref 7, .ref 15, .ref 18, .ref 19, fJ l2, .ref 20])) ∧ cE h' 19 (.inl (.long, fL [l0, l1])) ∧ mf_cv h' C W pl ka pa ua' ∧ mf_cv h' E W pl kb pb ub' ∧ (0 ≤ l0 ∧ l0 ≤ 1000000000 ∧ 0 ≤ l1 ∧ l1 ≤ 1000000000 ∧ 0 ≤ l2 ∧ l2 ≤ 1000000000) ∧ ((l0 = mr_F0 (mf_cm W (pl - 1) ka pa) ma (mf_cm W (pl - 1) kb pb) mb ∧ l1 = mr_F0 (mf_cm W (pl - 1) kb pb) mb (mf_cm W (pl - 1) ka pa) ma ∧ l2 = mr_F2 (mf_cm W (pl - 1) ka pa) ma (mf_cm W (pl - 1) kb pb) mb) ∨ ((lim < l0 / 1000 - l1 / 1000 ∨ lim < l1 / 1000 - l0 / 1000) ∧ (lim < mr_F0 (mf_cm W (pl - 1) ka pa) ma (mf_cm W (pl - 1) kb pb) mb / 1000 - mr_F0 (mf_cm W (pl - 1) kb pb) mb (mf_cm W (pl - 1) ka pa) ma / 1000 ∨ lim < mr_F0 (mf_cm W (pl - 1) kb pb) mb (mf_cm W (pl - 1) ka pa) ma / 1000 - mr_F0 (mf_cm W (pl - 1) ka pa) ma (mf_cm W (pl - 1) kb pb) mb / 1000))) ∧ hfr [17, 19, C, C + 1, C + 2, C + 3, E, E + 1, E + 2, E + 3] h h') := by
  refine ik_Wk 1 (pc' := 1) (loc' := [some (.ref 17), some (.ref C), some (fI ma), some (.ref E), some (fI mb), some (fI lim), none, none, none, none, none, none, none, none, none, none, none, none, none]) (st' := [.ref 17]) (h' := h) (cl' := 0) (sl' := 0) rfl ?_
  refine fw_gf rfl rfl h17 rfl ?_
  refine ik_Wk 1 (pc' := 5) (loc' := [some (.ref 17), some (.ref C), some (fI ma), some (.ref E), some (fI mb), some (fI lim), none, none, none, none, none, none, none, none, none, none, none, none, none]) (st' := [fI 0, .ref 19]) (h' := h) (cl' := 0) (sl' := 0) rfl ?_
  refine fw_lc (z := 0) rfl (by decide) ?_
  refine fx_las (z := 0) rfl h19 (by decide) (Nat.le_of_ble_eq_true rfl) (by decide) ?_
  intro h_168 e_168 f_168 l_168
  have k_168 := l_168.trans hl
  have fr_168 := hfr_w (hfr_refl [17, 19, C, C + 1, C + 2, C + 3, E, E + 1, E + 2, E + 3] h) f_168 l_168 (by simp <;> omega)
  have g_168_7 := (f_168 7 (by decide)).trans h7
  have g_168_11 := (f_168 11 (by decide)).trans h11
  have g_168_12 := (f_168 12 (by decide)).trans h12
  have g_168_13 := (f_168 13 (by decide)).trans h13
  have g_168_17 := (f_168 17 (by decide)).trans h17
  have g_168_C := mf_cv_f hC (f_168 C (by omega)) (f_168 (C + 1) (by omega)) (f_168 (C + 2) (by omega)) (f_168 (C + 3) (by omega))
  have g_168_E := mf_cv_f hE (f_168 E (by omega)) (f_168 (E + 1) (by omega)) (f_168 (E + 2) (by omega)) (f_168 (E + 3) (by omega))
  have g_168_19 : cE h_168 19 (.inl (.long, fL [0, lb])) := e_168
  refine ik_Wk 1 (pc' := 8) (loc' := [some (.ref 17), some (.ref C), some (fI ma), some (.ref E), some (fI mb), some (fI lim), none, none, none, none, none, none, none, none, none, none, none, none, none]) (st' := [.ref 17]) (h' := h_168) (cl' := 0) (sl' := 0) rfl ?_
  refine fw_gf rfl rfl g_168_17 rfl ?_
  refine ik_Wk 1 (pc' := 12) (loc' := [some (.ref 17), some (.ref C), some (fI ma), some (.ref E), some (fI mb), some (fI lim), none, none, none, none, none, none, none, none, none, none, none, none, none]) (st' := [fI 1, .ref 19]) (h' := h_168) (cl' := 0) (sl' := 0) rfl ?_
  refine fw_lc (z := 0) rfl (by decide) ?_
  refine fx_las (z := 1) rfl g_168_19 (by decide) (Nat.le_of_ble_eq_true rfl) (by decide) ?_
  intro h_169 e_169 f_169 l_169
  have k_169 := l_169.trans k_168
  have fr_169 := hfr_w fr_168 f_169 l_169 (by simp <;> omega)
  have g_169_7 := (f_169 7 (by decide)).trans g_168_7
  have g_169_11 := (f_169 11 (by decide)).trans g_168_11
  have g_169_12 := (f_169 12 (by decide)).trans g_168_12
  have g_169_13 := (f_169 13 (by decide)).trans g_168_13
  have g_169_17 := (f_169 17 (by decide)).trans g_168_17
  have g_169_C := mf_cv_f g_168_C (f_169 C (by omega)) (f_169 (C + 1) (by omega)) (f_169 (C + 2) (by omega)) (f_169 (C + 3) (by omega))
  have g_169_E := mf_cv_f g_168_E (f_169 E (by omega)) (f_169 (E + 1) (by omega)) (f_169 (E + 2) (by omega)) (f_169 (E + 3) (by omega))
  have g_169_19 : cE h_169 19 (.inl (.long, fL [0, 0])) := e_169
  refine ik_Wk 1 (pc' := 15) (loc' := [some (.ref 17), some (.ref C), some (fI ma), some (.ref E), some (fI mb), some (fI lim), none, none, none, none, none, none, none, none, none, none, none, none, none]) (st' := [.ref 17]) (h' := h_169) (cl' := 0) (sl' := 0) rfl ?_
  refine fw_lc (z := 0) rfl (by decide) ?_
  refine fx_pf rfl rfl g_169_17 (Nat.le_of_ble_eq_true rfl) rfl rfl ?_
  intro h_170 e_170 f_170 l_170
  have k_170 := l_170.trans k_169
  have fr_170 := hfr_w fr_169 f_170 l_170 (by simp <;> omega)
  have g_170_7 := (f_170 7 (by decide)).trans g_169_7
  have g_170_11 := (f_170 11 (by decide)).trans g_169_11
  have g_170_12 := (f_170 12 (by decide)).trans g_169_12
  have g_170_13 := (f_170 13 (by decide)).trans g_169_13
  have g_170_19 := (f_170 19 (by decide)).trans g_169_19
  have g_170_C := mf_cv_f g_169_C (f_170 C (by omega)) (f_170 (C + 1) (by omega)) (f_170 (C + 2) (by omega)) (f_170 (C + 3) (by omega))
  have g_170_E := mf_cv_f g_169_E (f_170 E (by omega)) (f_170 (E + 1) (by omega)) (f_170 (E + 2) (by omega)) (f_170 (E + 3) (by omega))
  have g_170_17 : cE h_170 17 (.inr (8, [.ref 7, .ref 15, .ref 18, .ref 19, fJ 0, .ref 20])) := e_170
  refine ik_Wk 6 (pc' := 28) (loc' := [some (.ref 17), some (.ref C), some (fI ma), some (.ref E), some (fI mb), some (fI lim), some (fI 0), some (fI 0), some (fI 1), none, none, none, none, none, none, none, none, none, none]) (st' := []) (h' := h_170) (cl' := 0) (sl' := 0) rfl ?_
  have k0 := mr_ok_cm (k := ka) q8 q3
  have k1 := mr_ok_cm (k := kb) q8 q4
  exact cs_raceL (C := C) (E := E) (pl := pl) (lo := lo) (s := s) (ka := ka) (pa := pa) (ma := ma) (kb := kb) (pb := pb) (mb := mb) (ua := ua) (ub := ub) (lim := lim) (bo := bo) (la := la) (lb := lb) (wg := wg) (wc := wc) (we := we) (W := W) q0 q1 q2 q3 q4 q5 q6 q7 q8  202 1 0 0 0 0 0 ua ub none none none none none h_170 g_170_7 g_170_11 n11 g_170_12 n12 g_170_13 n13 g_170_17 g_170_19 g_170_C g_170_E k_170 fr_170 (by omega) (mr_by_0 k0 (by omega) (by omega)).symm (mr_by_0 k1 (by omega) (by omega)).symm (mr_t0_0 k1 ma (by omega)).symm (mr_t0_0 k0 mb (by omega)).symm (mr_t2_0 k1 ma (by omega)).symm rfl rfl rfl rfl rfl (by omega)

end