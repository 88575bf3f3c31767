/-! 38zg.race -/
noncomputable section
/-! whose cork comes later: race (class), laterBy (reference) (written by wip/fx/u10.py) -/
theorem cr_byThen {h : List ik_E} {r : Nat} {i : Int} {m : Int} {rr : List Int} {c : Nat → Int} (q0 : -1 ≤ i ∧ i ≤ 200) (q1 : 0 ≤ m ∧ m ≤ 30) (q2 : ∀ j : Nat, j ≤ 200 → rr.getD j 0 = c j) (hr : cE h r (.inl (.long, fL rr))) (nr : rr.length = (201 : Nat)) (hl : h.length = (94 : Nat)) : ik_F 166 [.ref r, fI i, fI m] h (fun rv h_q => rv = [fJ (mr_by c m i)] ∧ hfr [] h h_q) := by
  refine ik_Wk 2 (pc_q := 2) (loc_q := [some (.ref r), some (fI i), some (fI m)]) (st_q := [fI m, fI i]) (h_q := h) (cl_q := 0) (sl_q := 0) rfl ?_
  refine fw_ic_ge rfl rfl (by omega) (by omega) (by omega) (by omega) (fun hc1 => ?_) (fun hc1 => ?_)
  · refine ik_Wk 3 (pc_q := 12) (loc_q := [some (.ref r), some (fI i), some (fI m)]) (st_q := [fI m, fI i, .ref r]) (h_q := h) (cl_q := 0) (sl_q := 0) rfl ?_
    refine fw_sub rfl ?_
    refine fx_lal rfl hr (by omega) (by omega) (by omega) ?_
    exact ik_Wret rfl rfl ⟨_, _, rfl, rfl, rfl, rfl, ⟨(by unfold mr_by; rw [if_neg (by omega), q2 _ (by omega)]), (hfr_refl [] h)⟩⟩
  · refine fw_lc (z := 0) rfl (by decide +kernel) ?_
    refine ik_Wk 1 (pc_q := 14) (loc_q := [some (.ref r), some (fI i), some (fI m)]) (st_q := [fJ 0]) (h_q := h) (cl_q := 0) (sl_q := 0) rfl ?_
    exact ik_Wret rfl rfl ⟨_, _, rfl, rfl, rfl, rfl, ⟨(by unfold mr_by; rw [if_pos (by omega)]), (hfr_refl [] h)⟩⟩

theorem cr_justThen {h : List ik_E} {r : Nat} {i : Int} {m : Int} {rr : List Int} {c : Nat → Int} (q0 : 0 ≤ i ∧ i ≤ 200) (q1 : 0 ≤ m ∧ m ≤ 30) (q2 : ∀ j : Nat, j ≤ 200 → rr.getD j 0 = c j) (q3 : r < 94) (hr : cE h r (.inl (.long, fL rr))) (nr : rr.length = (201 : Nat)) (hl : h.length = (94 : Nat)) : ik_F 167 [.ref r, fI i, fI m] h (fun rv h_q => rv = [fJ (mr_ju c m i)] ∧ hfr [] h h_q) := by
  refine ik_Wk 3 (pc_q := 3) (loc_q := [some (.ref r), some (fI i), some (fI m)]) (st_q := [fI m, fI i, .ref r]) (h_q := h) (cl_q := 0) (sl_q := 0) rfl ?_
  refine fw_call 166 3 3 [.ref r, fI i, fI m] [] rfl rfl rfl (Nat.le_of_ble_eq_true rfl) rfl rfl (fw_sta hl (fw_ftx rfl wv_n (wl_c (wl_r (by omega)) (wl_c rfl (wl_c rfl wl_n)))) (by decide +kernel)) (cr_byThen (r := r) (i := i) (m := m) (rr := rr) (c := c) (by omega) (by omega) q2 hr nr hl) ?_
  rintro _ h_153 ⟨rfl, F_153⟩
  have k_153 : cL h_153 := F_153.1.trans hl
  have fr_153 := hfr_cb (hfr_refl [] h) F_153 rfl
  have g_153_r := (F_153.2 r (by simp <;> omega)).trans hr
  refine ik_Wk 0 (pc_q := 6) (loc_q := [some (.ref r), some (fI i), some (fI m)]) (st_q := [fJ (mr_by c m i)]) (h_q := h_153) (cl_q := 0) (sl_q := 0) rfl ?_
  refine ik_Wk 1 (pc_q := 7) (loc_q := [some (.ref r), some (fI i), some (fI m)]) (st_q := [fI i, fJ (mr_by c m i)]) (h_q := h_153) (cl_q := 0) (sl_q := 0) rfl ?_
  refine fw_if_ne rfl rfl (by omega) (by omega) (fun hc1 => ?_) (fun hc1 => ?_)
  · refine fw_lc (z := 0) rfl (by decide +kernel) ?_
    refine ik_Wk 1 (pc_q := 22) (loc_q := [some (.ref r), some (fI i), some (fI m)]) (st_q := [fJ 0, fJ (mr_by c m i)]) (h_q := h_153) (cl_q := 0) (sl_q := 0) rfl ?_
    refine fw_lsub rfl ?_
    exact ik_Wret rfl rfl ⟨_, _, rfl, rfl, rfl, rfl, ⟨(by show _ = [fJ (mr_by c m i - mr_by c m (i - 1))]; rw [show mr_by c m (i - 1) = 0 from if_pos (by omega)]), fr_153⟩⟩
  · refine ik_Wk 3 (pc_q := 17) (loc_q := [some (.ref r), some (fI i), some (fI m)]) (st_q := [fI 1, fI i, .ref r, fJ (mr_by c m i)]) (h_q := h_153) (cl_q := 0) (sl_q := 0) rfl ?_
    refine fw_sub rfl ?_
    refine ik_Wk 1 (pc_q := 19) (loc_q := [some (.ref r), some (fI i), some (fI m)]) (st_q := [fI m, fI (i - 1), .ref r, fJ (mr_by c m i)]) (h_q := h_153) (cl_q := 0) (sl_q := 0) rfl ?_
    refine fw_call 166 3 3 [.ref r, fI (i - 1), fI m] [fJ (mr_by c m i)] rfl rfl rfl (Nat.le_of_ble_eq_true rfl) rfl rfl (fw_sta k_153 (fw_ftx rfl (wv_c rfl wv_n) (wl_c (wl_r (by omega)) (wl_c rfl (wl_c rfl wl_n)))) (by decide +kernel)) (cr_byThen (r := r) (i := i - 1) (m := m) (rr := rr) (c := c) (by omega) (by omega) q2 g_153_r nr k_153) ?_
    rintro _ h_154 ⟨rfl, F_154⟩
    have k_154 : cL h_154 := F_154.1.trans k_153
    have fr_154 := hfr_cb fr_153 F_154 rfl
    have g_154_r := (F_154.2 r (by simp <;> omega)).trans g_153_r
    refine ik_Wk 0 (pc_q := 22) (loc_q := [some (.ref r), some (fI i), some (fI m)]) (st_q := [fJ (mr_by c m (i - 1)), fJ (mr_by c m i)]) (h_q := h_154) (cl_q := 0) (sl_q := 0) rfl ?_
    refine fw_lsub rfl ?_
    exact ik_Wret rfl rfl ⟨_, _, rfl, rfl, rfl, rfl, ⟨rfl, fr_154⟩⟩

theorem cr_laterByL {h : List ik_E} {f : Nat → Int} {wh : Int} {ka : Int} {pa : Int} {fa : Int} {kb : Int} {pb : Int} {fb : Int} {r1 : List Int} {r2 : List Int} {c0 : Nat → Int} {c1 : Nat → Int} (q0 : 0 ≤ wh ∧ wh ≤ 2) (q1 : 0 ≤ fa ∧ fa ≤ 30) (q2 : 0 ≤ fb ∧ fb ≤ 30) (q3 : ∀ j : Nat, j ≤ 200 → r1.getD j 0 = c0 j) (q4 : ∀ j : Nat, j ≤ 200 → r2.getD j 0 = c1 j) (q5 : mr_ok c0) (q6 : mr_ok c1)  : ∀ (k : Nat) (i : Int) (sm : Int) (x5 : Option Value) (x7 : Option Value) (x9 : Option Value) (u : List ik_E) (u66 : cE u 66 (.inr (10, (fI (f 0) :: .ref 67 :: .ref 68 :: .ref 69 :: fI (f 4) :: .ref 70 :: .ref 71 :: fI (f 7) :: fI (f 8) :: .ref 72 :: fI (f 10) :: fI (f 11) :: fI (f 12) :: fJ (f 13) :: fI (f 14) :: fI (f 15) :: fI (f 16) :: fI (f 17) :: .ref 73 :: .ref 74 :: .ref 75 :: .ref 76 :: .ref 77 :: .ref 78 :: fI (f 24) :: .ref 79 :: .ref 80 :: .ref 81 :: .ref 82 :: .ref 83 :: .ref 84 :: .ref 85 :: fJ (f 32) :: fJ (f 33) :: .ref 86 :: .ref 87 :: fI (f 36) :: .ref 88 :: .ref 89 :: .ref 90 :: .ref 91 :: .ref 92 :: .ref 93 :: [])))) (u70 : cE u 70 (.inl (.int, fA [ka, pa, fa, kb, pb, fb]))) (u81 : cE u 81 (.inl (.long, fL r1))) (n81 : r1.length = (201 : Nat)) (u82 : cE u 82 (.inl (.long, fL r2))) (n82 : r2.length = (201 : Nat)) (ul : u.length = (94 : Nat)) (F : hfr [] h u) (hi : (0 : Int) ≤ i ∧ i ≤ (201 : Int)) (hs : sm = mr_S (if wh = 0 then mr_t0 c0 fa c1 fb else if wh = 1 then mr_t0 c1 fb c0 fa else mr_t2 c0 fa c1 fb) i.toNat) (w5 : ik_wl 94 x5 = true) (w7 : ik_wl 94 x7 = true) (w9 : ik_wl 94 x9 = true) (hk : 201 - i < (k : Int)), ik_G 168 5 [some (.ref 66), some (fI wh), some (fJ sm), none, some (fI i), x5, none, x7, none, x9, none] [] u (fun rv h_q => rv = [fI (mr_w c0 fa c1 fb wh)] ∧ hfr [] h h_q) := by
  intro k
  induction k with
  | zero => intro i sm x5 x7 x9 u u66 u70 u81 n81 u82 n82 ul F hi hs w5 w7 w9 hk; omega
  | succ k ih =>
    intro i sm x5 x7 x9 u u66 u70 u81 n81 u82 n82 ul F hi hs w5 w7 w9 hk
    have ya := mr_by_b q5 fa i
    have yb := mr_by_b q6 fb i
    have ja : mr_ju c0 fa i = mr_by c0 fa i - mr_by c0 fa (i - 1) := rfl
    have jb : mr_ju c1 fb i = mr_by c1 fb i - mr_by c1 fb (i - 1) := rfl
    have ya1 := mr_by_b q5 fa (i - 1)
    have yb1 := mr_by_b q6 fb (i - 1)
    have zs : 0 ≤ mr_S (if wh = 0 then mr_t0 c0 fa c1 fb else if wh = 1 then mr_t0 c1 fb c0 fa else mr_t2 c0 fa c1 fb) i.toNat ∧ mr_S (if wh = 0 then mr_t0 c0 fa c1 fb else if wh = 1 then mr_t0 c1 fb c0 fa else mr_t2 c0 fa c1 fb) i.toNat ≤ 1000000000 := by
      split
      · exact mr_S_b0 q5 q6 fa (by omega) _
      · split
        · exact mr_S_b0 q6 q5 fb (by omega) _
        · exact mr_S_b2 q5 q6 fa (by omega) _
    refine ik_Wk 1 (pc_q := 7) (loc_q := [some (.ref 66), some (fI wh), some (fJ sm), none, some (fI i), x5, none, x7, none, x9, none]) (st_q := [fI i]) (h_q := u) (cl_q := 0) (sl_q := 0) rfl ?_
    refine fw_si rfl (by decide +kernel) ?_
    refine fw_ic_gt rfl rfl (by omega) (by omega) (by omega) (by omega) (fun hc1 => ?_) (fun hc1 => ?_)
    · refine ik_Wk 1 (pc_q := 129) (loc_q := [some (.ref 66), some (fI wh), some (fJ sm), none, some (fI i), x5, none, x7, none, x9, none]) (st_q := [fJ sm]) (h_q := u) (cl_q := 0) (sl_q := 0) rfl ?_
      refine fw_l2 1000 rfl rfl (by decide +kernel) ?_
      refine fx_ldiv rfl (by omega) (by omega) (by omega) (by omega) ?_
      refine fx_l2i rfl ?_
      have ei : i.toNat = 201 := by omega
      rw [ei] at hs
      have ew : mr_w c0 fa c1 fb wh = sm / 1000 := by
        unfold mr_w mr_F0 mr_F2
        rw [hs]
        (repeat' split) <;> first | rfl | omega
      rw [ew]
      exact ik_Wret rfl rfl ⟨_, _, rfl, rfl, rfl, rfl, ⟨rfl, F⟩⟩
    · refine ik_Wk 1 (pc_q := 14) (loc_q := [some (.ref 66), some (fI wh), some (fJ sm), none, some (fI i), x5, none, x7, none, x9, none]) (st_q := [.ref 66]) (h_q := u) (cl_q := 0) (sl_q := 0) rfl ?_
      refine fw_gf rfl rfl u66 rfl ?_
      refine ik_Wk 2 (pc_q := 20) (loc_q := [some (.ref 66), some (fI wh), some (fJ sm), none, some (fI i), x5, none, x7, none, x9, none]) (st_q := [.ref 66, fI i, .ref 81]) (h_q := u) (cl_q := 0) (sl_q := 0) rfl ?_
      refine fw_gf rfl rfl u66 rfl ?_
      refine ik_Wk 1 (pc_q := 24) (loc_q := [some (.ref 66), some (fI wh), some (fJ sm), none, some (fI i), x5, none, x7, none, x9, none]) (st_q := [fI 2, .ref 70, fI i, .ref 81]) (h_q := u) (cl_q := 0) (sl_q := 0) rfl ?_
      refine fw_ial (z := 2) rfl u70 (by decide +kernel) (Nat.le_of_ble_eq_true rfl) (by decide +kernel) ?_
      refine ik_Wk 0 (pc_q := 25) (loc_q := [some (.ref 66), some (fI wh), some (fJ sm), none, some (fI i), x5, none, x7, none, x9, none]) (st_q := [fI fa, fI i, .ref 81]) (h_q := u) (cl_q := 0) (sl_q := 0) rfl ?_
      refine fw_call 167 3 3 [.ref 81, fI i, fI fa] [] rfl rfl rfl (Nat.le_of_ble_eq_true rfl) rfl rfl (fw_sta ul (fw_ftx rfl wv_n (wl_c rfl (wl_c rfl (wl_c rfl (wl_c rfl (wl_c rfl (wl_c w5 (wl_c rfl (wl_c w7 (wl_c rfl (wl_c w9 (wl_c rfl wl_n)))))))))))) (by decide +kernel)) (cr_justThen (r := 81) (i := i) (m := fa) (rr := r1) (c := c0) (by omega) (by omega) q3 (by omega) u81 n81 ul) ?_
      rintro _ h_155 ⟨rfl, F_155⟩
      have k_155 : cL h_155 := F_155.1.trans ul
      have fr_155 := hfr_cb F F_155 rfl
      have g_155_66 := (hfr_g F_155 66 rfl).trans u66
      have g_155_70 := (hfr_g F_155 70 rfl).trans u70
      have g_155_81 := (hfr_g F_155 81 rfl).trans u81
      have g_155_82 := (hfr_g F_155 82 rfl).trans u82
      refine ik_Wk 0 (pc_q := 28) (loc_q := [some (.ref 66), some (fI wh), some (fJ sm), none, some (fI i), x5, none, x7, none, x9, none]) (st_q := [fJ (mr_ju c0 fa i)]) (h_q := h_155) (cl_q := 0) (sl_q := 0) rfl ?_
      refine ik_Wk 2 (pc_q := 31) (loc_q := [some (.ref 66), some (fI wh), some (fJ sm), none, some (fI i), some (fJ (mr_ju c0 fa i)), none, x7, none, x9, none]) (st_q := [.ref 66]) (h_q := h_155) (cl_q := 0) (sl_q := 0) rfl ?_
      refine fw_gf rfl rfl g_155_66 rfl ?_
      refine ik_Wk 2 (pc_q := 37) (loc_q := [some (.ref 66), some (fI wh), some (fJ sm), none, some (fI i), some (fJ (mr_ju c0 fa i)), none, x7, none, x9, none]) (st_q := [.ref 66, fI i, .ref 82]) (h_q := h_155) (cl_q := 0) (sl_q := 0) rfl ?_
      refine fw_gf rfl rfl g_155_66 rfl ?_
      refine ik_Wk 1 (pc_q := 41) (loc_q := [some (.ref 66), some (fI wh), some (fJ sm), none, some (fI i), some (fJ (mr_ju c0 fa i)), none, x7, none, x9, none]) (st_q := [fI 5, .ref 70, fI i, .ref 82]) (h_q := h_155) (cl_q := 0) (sl_q := 0) rfl ?_
      refine fw_ial (z := 5) rfl g_155_70 (by decide +kernel) (Nat.le_of_ble_eq_true rfl) (by decide +kernel) ?_
      refine ik_Wk 0 (pc_q := 42) (loc_q := [some (.ref 66), some (fI wh), some (fJ sm), none, some (fI i), some (fJ (mr_ju c0 fa i)), none, x7, none, x9, none]) (st_q := [fI fb, fI i, .ref 82]) (h_q := h_155) (cl_q := 0) (sl_q := 0) rfl ?_
      refine fw_call 167 3 3 [.ref 82, fI i, fI fb] [] rfl rfl rfl (Nat.le_of_ble_eq_true rfl) rfl rfl (fw_sta k_155 (fw_ftx rfl wv_n (wl_c rfl (wl_c rfl (wl_c rfl (wl_c rfl (wl_c rfl (wl_c rfl (wl_c rfl (wl_c w7 (wl_c rfl (wl_c w9 (wl_c rfl wl_n)))))))))))) (by decide +kernel)) (cr_justThen (r := 82) (i := i) (m := fb) (rr := r2) (c := c1) (by omega) (by omega) q4 (by omega) g_155_82 n82 k_155) ?_
      rintro _ h_156 ⟨rfl, F_156⟩
      have k_156 : cL h_156 := F_156.1.trans k_155
      have fr_156 := hfr_cb fr_155 F_156 rfl
      have g_156_66 := (hfr_g F_156 66 rfl).trans g_155_66
      have g_156_70 := (hfr_g F_156 70 rfl).trans g_155_70
      have g_156_81 := (hfr_g F_156 81 rfl).trans g_155_81
      have g_156_82 := (hfr_g F_156 82 rfl).trans g_155_82
      refine ik_Wk 0 (pc_q := 45) (loc_q := [some (.ref 66), some (fI wh), some (fJ sm), none, some (fI i), some (fJ (mr_ju c0 fa i)), none, x7, none, x9, none]) (st_q := [fJ (mr_ju c1 fb i)]) (h_q := h_156) (cl_q := 0) (sl_q := 0) rfl ?_
      refine ik_Wk 2 (pc_q := 48) (loc_q := [some (.ref 66), some (fI wh), some (fJ sm), none, some (fI i), some (fJ (mr_ju c0 fa i)), none, some (fJ (mr_ju c1 fb i)), none, x9, none]) (st_q := [fI wh]) (h_q := h_156) (cl_q := 0) (sl_q := 0) rfl ?_
      refine fw_if_ne rfl rfl (by omega) (by omega) (fun hc2 => ?_) (fun hc2 => ?_)
      · refine ik_Wk 1 (pc_q := 53) (loc_q := [some (.ref 66), some (fI wh), some (fJ sm), none, some (fI i), some (fJ (mr_ju c0 fa i)), none, some (fJ (mr_ju c1 fb i)), none, x9, none]) (st_q := [fJ (mr_ju c1 fb i)]) (h_q := h_156) (cl_q := 0) (sl_q := 0) rfl ?_
        refine fw_l2 1000000000 rfl rfl (by decide +kernel) ?_
        refine ik_Wk 1 (pc_q := 57) (loc_q := [some (.ref 66), some (fI wh), some (fJ sm), none, some (fI i), some (fJ (mr_ju c0 fa i)), none, some (fJ (mr_ju c1 fb i)), none, x9, none]) (st_q := [.ref 66, fJ 1000000000, fJ (mr_ju c1 fb i)]) (h_q := h_156) (cl_q := 0) (sl_q := 0) rfl ?_
        refine fw_gf rfl rfl g_156_66 rfl ?_
        refine ik_Wk 2 (pc_q := 63) (loc_q := [some (.ref 66), some (fI wh), some (fJ sm), none, some (fI i), some (fJ (mr_ju c0 fa i)), none, some (fJ (mr_ju c1 fb i)), none, x9, none]) (st_q := [.ref 66, fI i, .ref 81, fJ 1000000000, fJ (mr_ju c1 fb i)]) (h_q := h_156) (cl_q := 0) (sl_q := 0) rfl ?_
        refine fw_gf rfl rfl g_156_66 rfl ?_
        refine ik_Wk 1 (pc_q := 67) (loc_q := [some (.ref 66), some (fI wh), some (fJ sm), none, some (fI i), some (fJ (mr_ju c0 fa i)), none, some (fJ (mr_ju c1 fb i)), none, x9, none]) (st_q := [fI 2, .ref 70, fI i, .ref 81, fJ 1000000000, fJ (mr_ju c1 fb i)]) (h_q := h_156) (cl_q := 0) (sl_q := 0) rfl ?_
        refine fw_ial (z := 2) rfl g_156_70 (by decide +kernel) (Nat.le_of_ble_eq_true rfl) (by decide +kernel) ?_
        refine ik_Wk 0 (pc_q := 68) (loc_q := [some (.ref 66), some (fI wh), some (fJ sm), none, some (fI i), some (fJ (mr_ju c0 fa i)), none, some (fJ (mr_ju c1 fb i)), none, x9, none]) (st_q := [fI fa, fI i, .ref 81, fJ 1000000000, fJ (mr_ju c1 fb i)]) (h_q := h_156) (cl_q := 0) (sl_q := 0) rfl ?_
        refine fw_call 166 3 3 [.ref 81, fI i, fI fa] [fJ 1000000000, fJ (mr_ju c1 fb i)] rfl rfl rfl (Nat.le_of_ble_eq_true rfl) rfl rfl (fw_sta k_156 (fw_ftx rfl (wv_c rfl (wv_c rfl wv_n)) (wl_c rfl (wl_c rfl (wl_c rfl (wl_c rfl (wl_c rfl (wl_c rfl (wl_c rfl (wl_c rfl (wl_c rfl (wl_c w9 (wl_c rfl wl_n)))))))))))) (by decide +kernel)) (cr_byThen (r := 81) (i := i) (m := fa) (rr := r1) (c := c0) (by omega) (by omega) q3 g_156_81 n81 k_156) ?_
        rintro _ h_157 ⟨rfl, F_157⟩
        have k_157 : cL h_157 := F_157.1.trans k_156
        have fr_157 := hfr_cb fr_156 F_157 rfl
        have g_157_66 := (hfr_g F_157 66 rfl).trans g_156_66
        have g_157_70 := (hfr_g F_157 70 rfl).trans g_156_70
        have g_157_81 := (hfr_g F_157 81 rfl).trans g_156_81
        have g_157_82 := (hfr_g F_157 82 rfl).trans g_156_82
        refine ik_Wk 0 (pc_q := 71) (loc_q := [some (.ref 66), some (fI wh), some (fJ sm), none, some (fI i), some (fJ (mr_ju c0 fa i)), none, some (fJ (mr_ju c1 fb i)), none, x9, none]) (st_q := [fJ (mr_by c0 fa i), fJ 1000000000, fJ (mr_ju c1 fb i)]) (h_q := h_157) (cl_q := 0) (sl_q := 0) rfl ?_
        refine fw_lsub rfl ?_
        refine fw_lmul rfl ?_
        refine ik_Wk 4 (pc_q := 116) (loc_q := [some (.ref 66), some (fI wh), some (fJ sm), none, some (fI i), some (fJ (mr_ju c0 fa i)), none, some (fJ (mr_ju c1 fb i)), none, some (fJ ((mr_ju c1 fb i) * (1000000000 - (mr_by c0 fa i)))), none]) (st_q := [fJ ((mr_ju c1 fb i) * (1000000000 - (mr_by c0 fa i))), fJ sm]) (h_q := h_157) (cl_q := 0) (sl_q := 0) rfl ?_
        refine fw_l2 1000000000 rfl rfl (by decide +kernel) ?_
        have hm3 := mr_mul_b (a := (mr_ju c1 fb i)) (b := (1000000000 - (mr_by c0 fa i))) (by omega) (by omega) (by omega) (by omega)
        refine fx_ldiv rfl (by omega) (by omega) (by omega) (by omega) ?_
        refine fw_ladd rfl ?_
        refine ik_Wk 1 (pc_q := 122) (loc_q := [some (.ref 66), some (fI wh), some (fJ (sm + (((mr_ju c1 fb i) * (1000000000 - (mr_by c0 fa i))) / 1000000000))), none, some (fI i), some (fJ (mr_ju c0 fa i)), none, some (fJ (mr_ju c1 fb i)), none, some (fJ ((mr_ju c1 fb i) * (1000000000 - (mr_by c0 fa i)))), none]) (st_q := []) (h_q := h_157) (cl_q := 0) (sl_q := 0) rfl ?_
        refine fw_inc (a := i) (loc_q := [some (.ref 66), some (fI wh), some (fJ (sm + (((mr_ju c1 fb i) * (1000000000 - (mr_by c0 fa i))) / 1000000000))), none, some (fI (i + 1)), some (fJ (mr_ju c0 fa i)), none, some (fJ (mr_ju c1 fb i)), none, some (fJ ((mr_ju c1 fb i) * (1000000000 - (mr_by c0 fa i)))), none]) rfl rfl (Nat.le_of_ble_eq_true rfl) rfl ?_
        refine ik_Wk 1 (pc_q := 5) (loc_q := [some (.ref 66), some (fI wh), some (fJ (sm + (((mr_ju c1 fb i) * (1000000000 - (mr_by c0 fa i))) / 1000000000))), none, some (fI (i + 1)), some (fJ (mr_ju c0 fa i)), none, some (fJ (mr_ju c1 fb i)), none, some (fJ ((mr_ju c1 fb i) * (1000000000 - (mr_by c0 fa i)))), none]) (st_q := []) (h_q := h_157) (cl_q := 0) (sl_q := 0) rfl ?_
        have et : (if wh = 0 then mr_t0 c0 fa c1 fb else if wh = 1 then mr_t0 c1 fb c0 fa else mr_t2 c0 fa c1 fb) i = mr_t0 c0 fa c1 fb i := by
          rw [if_pos (by omega)]
        exact ih  (i + 1) (sm + (((mr_ju c1 fb i) * (1000000000 - (mr_by c0 fa i))) / 1000000000)) (some (fJ (mr_ju c0 fa i))) (some (fJ (mr_ju c1 fb i))) (some (fJ ((mr_ju c1 fb i) * (1000000000 - (mr_by c0 fa i))))) h_157 g_157_66 g_157_70 g_157_81 n81 g_157_82 n82 k_157 fr_157 (by omega) (by rw [mr_S_s (by omega), et, ← hs]; rfl) rfl rfl rfl (by omega)
      · refine ik_Wk 2 (pc_q := 78) (loc_q := [some (.ref 66), some (fI wh), some (fJ sm), none, some (fI i), some (fJ (mr_ju c0 fa i)), none, some (fJ (mr_ju c1 fb i)), none, x9, none]) (st_q := [fI 1, fI wh]) (h_q := h_156) (cl_q := 0) (sl_q := 0) rfl ?_
        refine fw_ic_ne rfl rfl (by omega) (by omega) (by omega) (by omega) (fun hc4 => ?_) (fun hc4 => ?_)
        · refine ik_Wk 1 (pc_q := 83) (loc_q := [some (.ref 66), some (fI wh), some (fJ sm), none, some (fI i), some (fJ (mr_ju c0 fa i)), none, some (fJ (mr_ju c1 fb i)), none, x9, none]) (st_q := [fJ (mr_ju c0 fa i)]) (h_q := h_156) (cl_q := 0) (sl_q := 0) rfl ?_
          refine fw_l2 1000000000 rfl rfl (by decide +kernel) ?_
          refine ik_Wk 1 (pc_q := 87) (loc_q := [some (.ref 66), some (fI wh), some (fJ sm), none, some (fI i), some (fJ (mr_ju c0 fa i)), none, some (fJ (mr_ju c1 fb i)), none, x9, none]) (st_q := [.ref 66, fJ 1000000000, fJ (mr_ju c0 fa i)]) (h_q := h_156) (cl_q := 0) (sl_q := 0) rfl ?_
          refine fw_gf rfl rfl g_156_66 rfl ?_
          refine ik_Wk 2 (pc_q := 93) (loc_q := [some (.ref 66), some (fI wh), some (fJ sm), none, some (fI i), some (fJ (mr_ju c0 fa i)), none, some (fJ (mr_ju c1 fb i)), none, x9, none]) (st_q := [.ref 66, fI i, .ref 82, fJ 1000000000, fJ (mr_ju c0 fa i)]) (h_q := h_156) (cl_q := 0) (sl_q := 0) rfl ?_
          refine fw_gf rfl rfl g_156_66 rfl ?_
          refine ik_Wk 1 (pc_q := 97) (loc_q := [some (.ref 66), some (fI wh), some (fJ sm), none, some (fI i), some (fJ (mr_ju c0 fa i)), none, some (fJ (mr_ju c1 fb i)), none, x9, none]) (st_q := [fI 5, .ref 70, fI i, .ref 82, fJ 1000000000, fJ (mr_ju c0 fa i)]) (h_q := h_156) (cl_q := 0) (sl_q := 0) rfl ?_
          refine fw_ial (z := 5) rfl g_156_70 (by decide +kernel) (Nat.le_of_ble_eq_true rfl) (by decide +kernel) ?_
          refine ik_Wk 0 (pc_q := 98) (loc_q := [some (.ref 66), some (fI wh), some (fJ sm), none, some (fI i), some (fJ (mr_ju c0 fa i)), none, some (fJ (mr_ju c1 fb i)), none, x9, none]) (st_q := [fI fb, fI i, .ref 82, fJ 1000000000, fJ (mr_ju c0 fa i)]) (h_q := h_156) (cl_q := 0) (sl_q := 0) rfl ?_
          refine fw_call 166 3 3 [.ref 82, fI i, fI fb] [fJ 1000000000, fJ (mr_ju c0 fa i)] rfl rfl rfl (Nat.le_of_ble_eq_true rfl) rfl rfl (fw_sta k_156 (fw_ftx rfl (wv_c rfl (wv_c rfl wv_n)) (wl_c rfl (wl_c rfl (wl_c rfl (wl_c rfl (wl_c rfl (wl_c rfl (wl_c rfl (wl_c rfl (wl_c rfl (wl_c w9 (wl_c rfl wl_n)))))))))))) (by decide +kernel)) (cr_byThen (r := 82) (i := i) (m := fb) (rr := r2) (c := c1) (by omega) (by omega) q4 g_156_82 n82 k_156) ?_
          rintro _ h_158 ⟨rfl, F_158⟩
          have k_158 : cL h_158 := F_158.1.trans k_156
          have fr_158 := hfr_cb fr_156 F_158 rfl
          have g_158_66 := (hfr_g F_158 66 rfl).trans g_156_66
          have g_158_70 := (hfr_g F_158 70 rfl).trans g_156_70
          have g_158_81 := (hfr_g F_158 81 rfl).trans g_156_81
          have g_158_82 := (hfr_g F_158 82 rfl).trans g_156_82
          refine ik_Wk 0 (pc_q := 101) (loc_q := [some (.ref 66), some (fI wh), some (fJ sm), none, some (fI i), some (fJ (mr_ju c0 fa i)), none, some (fJ (mr_ju c1 fb i)), none, x9, none]) (st_q := [fJ (mr_by c1 fb i), fJ 1000000000, fJ (mr_ju c0 fa i)]) (h_q := h_158) (cl_q := 0) (sl_q := 0) rfl ?_
          refine fw_lsub rfl ?_
          refine fw_lmul rfl ?_
          refine ik_Wk 4 (pc_q := 116) (loc_q := [some (.ref 66), some (fI wh), some (fJ sm), none, some (fI i), some (fJ (mr_ju c0 fa i)), none, some (fJ (mr_ju c1 fb i)), none, some (fJ ((mr_ju c0 fa i) * (1000000000 - (mr_by c1 fb i)))), none]) (st_q := [fJ ((mr_ju c0 fa i) * (1000000000 - (mr_by c1 fb i))), fJ sm]) (h_q := h_158) (cl_q := 0) (sl_q := 0) rfl ?_
          refine fw_l2 1000000000 rfl rfl (by decide +kernel) ?_
          have hm5 := mr_mul_b (a := (mr_ju c0 fa i)) (b := (1000000000 - (mr_by c1 fb i))) (by omega) (by omega) (by omega) (by omega)
          refine fx_ldiv rfl (by omega) (by omega) (by omega) (by omega) ?_
          refine fw_ladd rfl ?_
          refine ik_Wk 1 (pc_q := 122) (loc_q := [some (.ref 66), some (fI wh), some (fJ (sm + (((mr_ju c0 fa i) * (1000000000 - (mr_by c1 fb i))) / 1000000000))), none, some (fI i), some (fJ (mr_ju c0 fa i)), none, some (fJ (mr_ju c1 fb i)), none, some (fJ ((mr_ju c0 fa i) * (1000000000 - (mr_by c1 fb i)))), none]) (st_q := []) (h_q := h_158) (cl_q := 0) (sl_q := 0) rfl ?_
          refine fw_inc (a := i) (loc_q := [some (.ref 66), some (fI wh), some (fJ (sm + (((mr_ju c0 fa i) * (1000000000 - (mr_by c1 fb i))) / 1000000000))), none, some (fI (i + 1)), some (fJ (mr_ju c0 fa i)), none, some (fJ (mr_ju c1 fb i)), none, some (fJ ((mr_ju c0 fa i) * (1000000000 - (mr_by c1 fb i)))), none]) rfl rfl (Nat.le_of_ble_eq_true rfl) rfl ?_
          refine ik_Wk 1 (pc_q := 5) (loc_q := [some (.ref 66), some (fI wh), some (fJ (sm + (((mr_ju c0 fa i) * (1000000000 - (mr_by c1 fb i))) / 1000000000))), none, some (fI (i + 1)), some (fJ (mr_ju c0 fa i)), none, some (fJ (mr_ju c1 fb i)), none, some (fJ ((mr_ju c0 fa i) * (1000000000 - (mr_by c1 fb i)))), none]) (st_q := []) (h_q := h_158) (cl_q := 0) (sl_q := 0) rfl ?_
          have et : (if wh = 0 then mr_t0 c0 fa c1 fb else if wh = 1 then mr_t0 c1 fb c0 fa else mr_t2 c0 fa c1 fb) i = mr_t0 c1 fb c0 fa i := by
            rw [if_neg (by omega), if_pos (by omega)]
          exact ih  (i + 1) (sm + (((mr_ju c0 fa i) * (1000000000 - (mr_by c1 fb i))) / 1000000000)) (some (fJ (mr_ju c0 fa i))) (some (fJ (mr_ju c1 fb i))) (some (fJ ((mr_ju c0 fa i) * (1000000000 - (mr_by c1 fb i))))) h_158 g_158_66 g_158_70 g_158_81 n81 g_158_82 n82 k_158 fr_158 (by omega) (by rw [mr_S_s (by omega), et, ← hs]; rfl) rfl rfl rfl (by omega)
        · refine ik_Wk 2 (pc_q := 110) (loc_q := [some (.ref 66), some (fI wh), some (fJ sm), none, some (fI i), some (fJ (mr_ju c0 fa i)), none, some (fJ (mr_ju c1 fb i)), none, x9, none]) (st_q := [fJ (mr_ju c1 fb i), fJ (mr_ju c0 fa i)]) (h_q := h_156) (cl_q := 0) (sl_q := 0) rfl ?_
          refine fw_lmul rfl ?_
          refine ik_Wk 3 (pc_q := 116) (loc_q := [some (.ref 66), some (fI wh), some (fJ sm), none, some (fI i), some (fJ (mr_ju c0 fa i)), none, some (fJ (mr_ju c1 fb i)), none, some (fJ ((mr_ju c0 fa i) * (mr_ju c1 fb i))), none]) (st_q := [fJ ((mr_ju c0 fa i) * (mr_ju c1 fb i)), fJ sm]) (h_q := h_156) (cl_q := 0) (sl_q := 0) rfl ?_
          refine fw_l2 1000000000 rfl rfl (by decide +kernel) ?_
          have hm6 := mr_mul_b (a := (mr_ju c0 fa i)) (b := (mr_ju c1 fb i)) (by omega) (by omega) (by omega) (by omega)
          refine fx_ldiv rfl (by omega) (by omega) (by omega) (by omega) ?_
          refine fw_ladd rfl ?_
          refine ik_Wk 1 (pc_q := 122) (loc_q := [some (.ref 66), some (fI wh), some (fJ (sm + (((mr_ju c0 fa i) * (mr_ju c1 fb i)) / 1000000000))), none, some (fI i), some (fJ (mr_ju c0 fa i)), none, some (fJ (mr_ju c1 fb i)), none, some (fJ ((mr_ju c0 fa i) * (mr_ju c1 fb i))), none]) (st_q := []) (h_q := h_156) (cl_q := 0) (sl_q := 0) rfl ?_
          refine fw_inc (a := i) (loc_q := [some (.ref 66), some (fI wh), some (fJ (sm + (((mr_ju c0 fa i) * (mr_ju c1 fb i)) / 1000000000))), none, some (fI (i + 1)), some (fJ (mr_ju c0 fa i)), none, some (fJ (mr_ju c1 fb i)), none, some (fJ ((mr_ju c0 fa i) * (mr_ju c1 fb i))), none]) rfl rfl (Nat.le_of_ble_eq_true rfl) rfl ?_
          refine ik_Wk 1 (pc_q := 5) (loc_q := [some (.ref 66), some (fI wh), some (fJ (sm + (((mr_ju c0 fa i) * (mr_ju c1 fb i)) / 1000000000))), none, some (fI (i + 1)), some (fJ (mr_ju c0 fa i)), none, some (fJ (mr_ju c1 fb i)), none, some (fJ ((mr_ju c0 fa i) * (mr_ju c1 fb i))), none]) (st_q := []) (h_q := h_156) (cl_q := 0) (sl_q := 0) rfl ?_
          have et : (if wh = 0 then mr_t0 c0 fa c1 fb else if wh = 1 then mr_t0 c1 fb c0 fa else mr_t2 c0 fa c1 fb) i = mr_t2 c0 fa c1 fb i := by
            rw [if_neg (by omega), if_neg (by omega)]
          exact ih  (i + 1) (sm + (((mr_ju c0 fa i) * (mr_ju c1 fb i)) / 1000000000)) (some (fJ (mr_ju c0 fa i))) (some (fJ (mr_ju c1 fb i))) (some (fJ ((mr_ju c0 fa i) * (mr_ju c1 fb i)))) h_156 g_156_66 g_156_70 g_156_81 n81 g_156_82 n82 k_156 fr_156 (by omega) (by rw [mr_S_s (by omega), et, ← hs]; rfl) rfl rfl rfl (by omega)

theorem cr_laterBy {h : List ik_E} {f : Nat → Int} {wh : Int} {ka : Int} {pa : Int} {fa : Int} {kb : Int} {pb : Int} {fb : Int} {r1 : List Int} {r2 : List Int} {c0 : Nat → Int} {c1 : Nat → Int} (q0 : 0 ≤ wh ∧ wh ≤ 2) (q1 : 0 ≤ fa ∧ fa ≤ 30) (q2 : 0 ≤ fb ∧ fb ≤ 30) (q3 : ∀ j : Nat, j ≤ 200 → r1.getD j 0 = c0 j) (q4 : ∀ j : Nat, j ≤ 200 → r2.getD j 0 = c1 j) (q5 : mr_ok c0) (q6 : mr_ok c1) (h66 : cE h 66 (.inr (10, (fI (f 0) :: .ref 67 :: .ref 68 :: .ref 69 :: fI (f 4) :: .ref 70 :: .ref 71 :: fI (f 7) :: fI (f 8) :: .ref 72 :: fI (f 10) :: fI (f 11) :: fI (f 12) :: fJ (f 13) :: fI (f 14) :: fI (f 15) :: fI (f 16) :: fI (f 17) :: .ref 73 :: .ref 74 :: .ref 75 :: .ref 76 :: .ref 77 :: .ref 78 :: fI (f 24) :: .ref 79 :: .ref 80 :: .ref 81 :: .ref 82 :: .ref 83 :: .ref 84 :: .ref 85 :: fJ (f 32) :: fJ (f 33) :: .ref 86 :: .ref 87 :: fI (f 36) :: .ref 88 :: .ref 89 :: .ref 90 :: .ref 91 :: .ref 92 :: .ref 93 :: [])))) (h70 : cE h 70 (.inl (.int, fA [ka, pa, fa, kb, pb, fb]))) (h81 : cE h 81 (.inl (.long, fL r1))) (n81 : r1.length = (201 : Nat)) (h82 : cE h 82 (.inl (.long, fL r2))) (n82 : r2.length = (201 : Nat)) (hl : h.length = (94 : Nat)) : ik_F 168 [.ref 66, fI wh] h (fun rv h_q => rv = [fI (mr_w c0 fa c1 fb wh)] ∧ hfr [] h h_q) := by
  refine fw_lc (z := 0) rfl (by decide +kernel) ?_
  refine ik_Wk 3 (pc_q := 5) (loc_q := [some (.ref 66), some (fI wh), some (fJ 0), none, some (fI 0), none, none, none, none, none, none]) (st_q := []) (h_q := h) (cl_q := 0) (sl_q := 0) rfl ?_
  exact cr_laterByL (f := f) (wh := wh) (ka := ka) (pa := pa) (fa := fa) (kb := kb) (pb := pb) (fb := fb) (r1 := r1) (r2 := r2) (c0 := c0) (c1 := c1) q0 q1 q2 q3 q4 q5 q6  202 0 0 none none none h h66 h70 h81 n81 h82 n82 hl (hfr_refl [] h) (by omega) rfl rfl rfl rfl (by omega)

theorem cr_suitRows {h : List ik_E} {pl : Int} {f : Nat → Int} {s : Nat} {cn : List Int} {go : List Int} {ch : List Int} {gt : List Int} {gd : List Int} {xs : List Int} {ys : List Int} {ka : Int} {pa : Int} {fa : Int} {kb : Int} {pb : Int} {fb : Int} {r1 : List Int} {r2 : List Int} (q0 : 1 ≤ pl ∧ pl ≤ 12) (q1 : s < 4096) (q2 : ∀ x : Int, (0 : Int) ≤ x → x < pl - 1 → 0 ≤ cn.getD x.toNat 0 ∧ cn.getD x.toNat 0 ≤ 4) (q3 : ∀ x : Int, (0 : Int) ≤ x → x < pl - 1 → 1 ≤ cn.getD x.toNat 0 ∧ ∀ j : Int, 4 * x ≤ j → j < 4 * x + cn.getD x.toNat 0 → 0 ≤ ch.getD j.toNat 0 ∧ ch.getD j.toNat 0 ≤ 100) (q4 : ∀ x : Int, (0 : Int) ≤ x → x < pl - 1 → mx_ok pl (mx_w cn go ch s x)) (q5 : (0 : Int) ≤ ka ∧ ka ≤ (2 : Int)) (q6 : (0 : Int) ≤ kb ∧ kb ≤ (2 : Int)) (q7 : (0 : Int) ≤ pa ∧ pa < pl) (q8 : (0 : Int) ≤ pb ∧ pb < pl) (h66 : cE h 66 (.inr (10, (fI pl :: .ref 67 :: .ref 68 :: .ref 69 :: fI ((s : Nat) : Int) :: .ref 70 :: .ref 71 :: fI (f 7) :: fI (f 8) :: .ref 72 :: fI (f 10) :: fI (f 11) :: fI (f 12) :: fJ (f 13) :: fI (f 14) :: fI (f 15) :: fI (f 16) :: fI (f 17) :: .ref 73 :: .ref 74 :: .ref 75 :: .ref 76 :: .ref 77 :: .ref 78 :: fI (f 24) :: .ref 79 :: .ref 80 :: .ref 81 :: .ref 82 :: .ref 83 :: .ref 84 :: .ref 85 :: fJ (f 32) :: fJ (f 33) :: .ref 86 :: .ref 87 :: fI (f 36) :: .ref 88 :: .ref 89 :: .ref 90 :: .ref 91 :: .ref 92 :: .ref 93 :: [])))) (h67 : cE h 67 (.inl (.int, fA cn))) (n67 : cn.length = (12 : Nat)) (h68 : cE h 68 (.inl (.int, fA go))) (n68 : go.length = (48 : Nat)) (h69 : cE h 69 (.inl (.int, fA ch))) (n69 : ch.length = (48 : Nat)) (h77 : cE h 77 (.inl (.int, fA gt))) (n77 : gt.length = (5 : Nat)) (h78 : cE h 78 (.inl (.int, fA gd))) (n78 : gd.length = (5 : Nat)) (h79 : cE h 79 (.inl (.long, fL xs))) (n79 : xs.length = (12 : Nat)) (h80 : cE h 80 (.inl (.long, fL ys))) (n80 : ys.length = (12 : Nat)) (h70 : cE h 70 (.inl (.int, fA [ka, pa, fa, kb, pb, fb]))) (h81 : cE h 81 (.inl (.long, fL r1))) (n81 : r1.length = (201 : Nat)) (h82 : cE h 82 (.inl (.long, fL r2))) (n82 : r2.length = (201 : Nat)) (hl : h.length = (94 : Nat)) : ik_F 165 [.ref 66] h (fun rv h_q => ∃ (w' : Int) (gt' : List Int) (gd' : List Int) (xs' : List Int) (ys' : List Int) (r1' : List Int) (r2' : List Int), rv = [] ∧ cE h_q 66 (.inr (10, (fI pl :: .ref 67 :: .ref 68 :: .ref 69 :: fI ((s : Nat) : Int) :: .ref 70 :: .ref 71 :: fI (f 7) :: fI (f 8) :: .ref 72 :: fI (f 10) :: fI (f 11) :: fI (f 12) :: fJ (f 13) :: fI (f 14) :: fI (f 15) :: fI (f 16) :: fI (f 17) :: .ref 73 :: .ref 74 :: .ref 75 :: .ref 76 :: .ref 77 :: .ref 78 :: fI w' :: .ref 79 :: .ref 80 :: .ref 81 :: .ref 82 :: .ref 83 :: .ref 84 :: .ref 85 :: fJ (f 32) :: fJ (f 33) :: .ref 86 :: .ref 87 :: fI (f 36) :: .ref 88 :: .ref 89 :: .ref 90 :: .ref 91 :: .ref 92 :: .ref 93 :: []))) ∧ cE h_q 77 (.inl (.int, fA gt')) ∧ gt'.length = (5 : Nat) ∧ cE h_q 78 (.inl (.int, fA gd')) ∧ gd'.length = (5 : Nat) ∧ cE h_q 79 (.inl (.long, fL xs')) ∧ xs'.length = (12 : Nat) ∧ cE h_q 80 (.inl (.long, fL ys')) ∧ ys'.length = (12 : Nat) ∧ cE h_q 81 (.inl (.long, fL r1')) ∧ r1'.length = (201 : Nat) ∧ cE h_q 82 (.inl (.long, fL r2')) ∧ r2'.length = (201 : Nat) ∧ (∀ j : Nat, j ≤ 200 → r1'.getD j 0 = (mf_cm (fun x => mx_w cn go ch s x) (pl - 1) ka pa) j) ∧ (∀ j : Nat, j ≤ 200 → r2'.getD j 0 = (mf_cm (fun x => mx_w cn go ch s x) (pl - 1) kb pb) j) ∧ hfr [66, 77, 78, 79, 80, 81, 82] h h_q) := by
  refine ik_Wk 2 (pc_q := 2) (loc_q := [some (.ref 66)]) (st_q := [.ref 66, .ref 66]) (h_q := h) (cl_q := 0) (sl_q := 0) rfl ?_
  refine fw_gf rfl rfl h66 rfl ?_
  refine ik_Wk 1 (pc_q := 6) (loc_q := [some (.ref 66)]) (st_q := [.ref 66, .ref 81, .ref 66]) (h_q := h) (cl_q := 0) (sl_q := 0) rfl ?_
  refine fw_gf rfl rfl h66 rfl ?_
  refine ik_Wk 1 (pc_q := 10) (loc_q := [some (.ref 66)]) (st_q := [fI 0, .ref 70, .ref 81, .ref 66]) (h_q := h) (cl_q := 0) (sl_q := 0) rfl ?_
  refine fw_ial (z := 0) rfl h70 (by decide +kernel) (Nat.le_of_ble_eq_true rfl) (by decide +kernel) ?_
  refine ik_Wk 0 (pc_q := 11) (loc_q := [some (.ref 66)]) (st_q := [fI ka, .ref 81, .ref 66]) (h_q := h) (cl_q := 0) (sl_q := 0) rfl ?_
  refine ik_Wk 1 (pc_q := 12) (loc_q := [some (.ref 66)]) (st_q := [.ref 66, fI ka, .ref 81, .ref 66]) (h_q := h) (cl_q := 0) (sl_q := 0) rfl ?_
  refine fw_gf rfl rfl h66 rfl ?_
  refine ik_Wk 1 (pc_q := 16) (loc_q := [some (.ref 66)]) (st_q := [fI 1, .ref 70, fI ka, .ref 81, .ref 66]) (h_q := h) (cl_q := 0) (sl_q := 0) rfl ?_
  refine fw_ial (z := 1) rfl h70 (by decide +kernel) (Nat.le_of_ble_eq_true rfl) (by decide +kernel) ?_
  refine ik_Wk 0 (pc_q := 17) (loc_q := [some (.ref 66)]) (st_q := [fI pa, fI ka, .ref 81, .ref 66]) (h_q := h) (cl_q := 0) (sl_q := 0) rfl ?_
  refine fw_call 157 4 0 [.ref 66, .ref 81, fI ka, fI pa] [] rfl rfl rfl (Nat.le_of_ble_eq_true rfl) rfl rfl (fw_rec hl rfl h66 rfl (Nat.le_of_ble_eq_true rfl)) (cr_comesRow (pl := pl) (f := fun j => ((0 :: 0 :: 0 :: 0 :: 0 :: 0 :: 0 :: f 7 :: f 8 :: 0 :: f 10 :: f 11 :: f 12 :: f 13 :: f 14 :: f 15 :: f 16 :: f 17 :: 0 :: 0 :: 0 :: 0 :: 0 :: 0 :: f 24 :: 0 :: 0 :: 0 :: 0 :: 0 :: 0 :: 0 :: f 32 :: f 33 :: 0 :: 0 :: f 36 :: 0 :: 0 :: 0 :: 0 :: 0 :: 0 :: []) : List Int).getD j 0) (s := s) (cn := cn) (go := go) (ch := ch) (gt := gt) (gd := gd) (xs := xs) (ys := ys) (kd := ka) (qp := pa) (r := 81) (rr := r1) (by omega) (by omega) q2 q3 q4 (by omega) (by omega) (by omega) h66 h67 n67 h68 n68 h69 n69 h77 n77 h78 n78 h79 n79 h80 n80 h81 n81 hl) ?_
  rintro _ h_159 ⟨w'_159, gt'_159, gd'_159, xs'_159, ys'_159, rr'_159, rfl, e_159_66, e_159_77, m_159_77, e_159_78, m_159_78, e_159_79, m_159_79, e_159_80, m_159_80, e_159_r, m_159_r, p_159_0, F_159⟩
  have k_159 : cL h_159 := F_159.1.trans hl
  have fr_159 := hfr_cb (hfr_refl [66, 77, 78, 79, 80, 81, 82] h) F_159 rfl
  have g_159_67 := (hfr_g F_159 67 rfl).trans h67
  have g_159_68 := (hfr_g F_159 68 rfl).trans h68
  have g_159_69 := (hfr_g F_159 69 rfl).trans h69
  have g_159_70 := (hfr_g F_159 70 rfl).trans h70
  have g_159_82 := (hfr_g F_159 82 rfl).trans h82
  have g_159_66 : cE h_159 66 (.inr (10, (fI pl :: .ref 67 :: .ref 68 :: .ref 69 :: fI ((s : Nat) : Int) :: .ref 70 :: .ref 71 :: fI (f 7) :: fI (f 8) :: .ref 72 :: fI (f 10) :: fI (f 11) :: fI (f 12) :: fJ (f 13) :: fI (f 14) :: fI (f 15) :: fI (f 16) :: fI (f 17) :: .ref 73 :: .ref 74 :: .ref 75 :: .ref 76 :: .ref 77 :: .ref 78 :: fI w'_159 :: .ref 79 :: .ref 80 :: .ref 81 :: .ref 82 :: .ref 83 :: .ref 84 :: .ref 85 :: fJ (f 32) :: fJ (f 33) :: .ref 86 :: .ref 87 :: fI (f 36) :: .ref 88 :: .ref 89 :: .ref 90 :: .ref 91 :: .ref 92 :: .ref 93 :: []))) := e_159_66
  have g_159_77 : cE h_159 77 (.inl (.int, fA gt'_159)) := e_159_77
  have g_159_78 : cE h_159 78 (.inl (.int, fA gd'_159)) := e_159_78
  have g_159_79 : cE h_159 79 (.inl (.long, fL xs'_159)) := e_159_79
  have g_159_80 : cE h_159 80 (.inl (.long, fL ys'_159)) := e_159_80
  have g_159_81 : cE h_159 81 (.inl (.long, fL rr'_159)) := e_159_r
  refine ik_Wk 0 (pc_q := 20) (loc_q := [some (.ref 66)]) (st_q := []) (h_q := h_159) (cl_q := 0) (sl_q := 0) rfl ?_
  refine ik_Wk 2 (pc_q := 22) (loc_q := [some (.ref 66)]) (st_q := [.ref 66, .ref 66]) (h_q := h_159) (cl_q := 0) (sl_q := 0) rfl ?_
  refine fw_gf rfl rfl g_159_66 rfl ?_
  refine ik_Wk 1 (pc_q := 26) (loc_q := [some (.ref 66)]) (st_q := [.ref 66, .ref 82, .ref 66]) (h_q := h_159) (cl_q := 0) (sl_q := 0) rfl ?_
  refine fw_gf rfl rfl g_159_66 rfl ?_
  refine ik_Wk 1 (pc_q := 30) (loc_q := [some (.ref 66)]) (st_q := [fI 3, .ref 70, .ref 82, .ref 66]) (h_q := h_159) (cl_q := 0) (sl_q := 0) rfl ?_
  refine fw_ial (z := 3) rfl g_159_70 (by decide +kernel) (Nat.le_of_ble_eq_true rfl) (by decide +kernel) ?_
  refine ik_Wk 0 (pc_q := 31) (loc_q := [some (.ref 66)]) (st_q := [fI kb, .ref 82, .ref 66]) (h_q := h_159) (cl_q := 0) (sl_q := 0) rfl ?_
  refine ik_Wk 1 (pc_q := 32) (loc_q := [some (.ref 66)]) (st_q := [.ref 66, fI kb, .ref 82, .ref 66]) (h_q := h_159) (cl_q := 0) (sl_q := 0) rfl ?_
  refine fw_gf rfl rfl g_159_66 rfl ?_
  refine ik_Wk 1 (pc_q := 36) (loc_q := [some (.ref 66)]) (st_q := [fI 4, .ref 70, fI kb, .ref 82, .ref 66]) (h_q := h_159) (cl_q := 0) (sl_q := 0) rfl ?_
  refine fw_ial (z := 4) rfl g_159_70 (by decide +kernel) (Nat.le_of_ble_eq_true rfl) (by decide +kernel) ?_
  refine ik_Wk 0 (pc_q := 37) (loc_q := [some (.ref 66)]) (st_q := [fI pb, fI kb, .ref 82, .ref 66]) (h_q := h_159) (cl_q := 0) (sl_q := 0) rfl ?_
  refine fw_call 157 4 0 [.ref 66, .ref 82, fI kb, fI pb] [] rfl rfl rfl (Nat.le_of_ble_eq_true rfl) rfl rfl (fw_rec k_159 rfl g_159_66 rfl (Nat.le_of_ble_eq_true rfl)) (cr_comesRow (pl := pl) (f := fun j => ((0 :: 0 :: 0 :: 0 :: 0 :: 0 :: 0 :: ((f 7)) :: ((f 8)) :: 0 :: ((f 10)) :: ((f 11)) :: ((f 12)) :: ((f 13)) :: ((f 14)) :: ((f 15)) :: ((f 16)) :: ((f 17)) :: 0 :: 0 :: 0 :: 0 :: 0 :: 0 :: w'_159 :: 0 :: 0 :: 0 :: 0 :: 0 :: 0 :: 0 :: ((f 32)) :: ((f 33)) :: 0 :: 0 :: ((f 36)) :: 0 :: 0 :: 0 :: 0 :: 0 :: 0 :: []) : List Int).getD j 0) (s := s) (cn := cn) (go := go) (ch := ch) (gt := gt'_159) (gd := gd'_159) (xs := xs'_159) (ys := ys'_159) (kd := kb) (qp := pb) (r := 82) (rr := r2) (by omega) (by omega) q2 q3 q4 (by omega) (by omega) (by omega) g_159_66 g_159_67 n67 g_159_68 n68 g_159_69 n69 g_159_77 m_159_77 g_159_78 m_159_78 g_159_79 m_159_79 g_159_80 m_159_80 g_159_82 n82 k_159) ?_
  rintro _ h_160 ⟨w'_160, gt'_160, gd'_160, xs'_160, ys'_160, rr'_160, rfl, e_160_66, e_160_77, m_160_77, e_160_78, m_160_78, e_160_79, m_160_79, e_160_80, m_160_80, e_160_r, m_160_r, p_160_0, F_160⟩
  have k_160 : cL h_160 := F_160.1.trans k_159
  have fr_160 := hfr_cb fr_159 F_160 rfl
  have g_160_67 := (hfr_g F_160 67 rfl).trans g_159_67
  have g_160_68 := (hfr_g F_160 68 rfl).trans g_159_68
  have g_160_69 := (hfr_g F_160 69 rfl).trans g_159_69
  have g_160_70 := (hfr_g F_160 70 rfl).trans g_159_70
  have g_160_81 := (hfr_g F_160 81 rfl).trans g_159_81
  have g_160_66 : cE h_160 66 (.inr (10, (fI pl :: .ref 67 :: .ref 68 :: .ref 69 :: fI ((s : Nat) : Int) :: .ref 70 :: .ref 71 :: fI (f 7) :: fI (f 8) :: .ref 72 :: fI (f 10) :: fI (f 11) :: fI (f 12) :: fJ (f 13) :: fI (f 14) :: fI (f 15) :: fI (f 16) :: fI (f 17) :: .ref 73 :: .ref 74 :: .ref 75 :: .ref 76 :: .ref 77 :: .ref 78 :: fI w'_160 :: .ref 79 :: .ref 80 :: .ref 81 :: .ref 82 :: .ref 83 :: .ref 84 :: .ref 85 :: fJ (f 32) :: fJ (f 33) :: .ref 86 :: .ref 87 :: fI (f 36) :: .ref 88 :: .ref 89 :: .ref 90 :: .ref 91 :: .ref 92 :: .ref 93 :: []))) := e_160_66
  have g_160_77 : cE h_160 77 (.inl (.int, fA gt'_160)) := e_160_77
  have g_160_78 : cE h_160 78 (.inl (.int, fA gd'_160)) := e_160_78
  have g_160_79 : cE h_160 79 (.inl (.long, fL xs'_160)) := e_160_79
  have g_160_80 : cE h_160 80 (.inl (.long, fL ys'_160)) := e_160_80
  have g_160_82 : cE h_160 82 (.inl (.long, fL rr'_160)) := e_160_r
  refine ik_Wk 0 (pc_q := 40) (loc_q := [some (.ref 66)]) (st_q := []) (h_q := h_160) (cl_q := 0) (sl_q := 0) rfl ?_
  exact ik_Wret rfl rfl ⟨_, _, rfl, rfl, rfl, rfl, ⟨w'_160, gt'_160, gd'_160, xs'_160, ys'_160, rr'_159, rr'_160, rfl, g_160_66, g_160_77, m_160_77, g_160_78, m_160_78, g_160_79, m_160_79, g_160_80, m_160_80, g_160_81, m_159_r, g_160_82, m_160_r, p_159_0, p_160_0, fr_160⟩⟩

theorem cr_laterOf {h : List ik_E} {pl : Int} {f : Nat → Int} {s : Nat} {cn : List Int} {go : List Int} {ch : List Int} {gt : List Int} {gd : List Int} {xs : List Int} {ys : List Int} {ka : Int} {pa : Int} {fa : Int} {kb : Int} {pb : Int} {fb : Int} {r1 : List Int} {r2 : List Int} {wh : Int} (q0 : 1 ≤ pl ∧ pl ≤ 12) (q1 : s < 4096) (q2 : ∀ x : Int, (0 : Int) ≤ x → x < pl - 1 → 0 ≤ cn.getD x.toNat 0 ∧ cn.getD x.toNat 0 ≤ 4) (q3 : ∀ x : Int, (0 : Int) ≤ x → x < pl - 1 → 1 ≤ cn.getD x.toNat 0 ∧ ∀ j : Int, 4 * x ≤ j → j < 4 * x + cn.getD x.toNat 0 → 0 ≤ ch.getD j.toNat 0 ∧ ch.getD j.toNat 0 ≤ 100) (q4 : ∀ x : Int, (0 : Int) ≤ x → x < pl - 1 → mx_ok pl (mx_w cn go ch s x)) (q5 : (0 : Int) ≤ ka ∧ ka ≤ (2 : Int)) (q6 : (0 : Int) ≤ kb ∧ kb ≤ (2 : Int)) (q7 : (0 : Int) ≤ pa ∧ pa < pl - 1) (q8 : (0 : Int) ≤ pb ∧ pb < pl - 1) (q9 : (0 : Int) ≤ fa ∧ fa ≤ (30 : Int)) (q10 : (0 : Int) ≤ fb ∧ fb ≤ (30 : Int)) (q11 : (0 : Int) ≤ wh ∧ wh ≤ (2 : Int)) (h66 : cE h 66 (.inr (10, (fI pl :: .ref 67 :: .ref 68 :: .ref 69 :: fI ((s : Nat) : Int) :: .ref 70 :: .ref 71 :: fI (f 7) :: fI (f 8) :: .ref 72 :: fI (f 10) :: fI (f 11) :: fI (f 12) :: fJ (f 13) :: fI (f 14) :: fI (f 15) :: fI (f 16) :: fI (f 17) :: .ref 73 :: .ref 74 :: .ref 75 :: .ref 76 :: .ref 77 :: .ref 78 :: fI (f 24) :: .ref 79 :: .ref 80 :: .ref 81 :: .ref 82 :: .ref 83 :: .ref 84 :: .ref 85 :: fJ (f 32) :: fJ (f 33) :: .ref 86 :: .ref 87 :: fI (f 36) :: .ref 88 :: .ref 89 :: .ref 90 :: .ref 91 :: .ref 92 :: .ref 93 :: [])))) (h67 : cE h 67 (.inl (.int, fA cn))) (n67 : cn.length = (12 : Nat)) (h68 : cE h 68 (.inl (.int, fA go))) (n68 : go.length = (48 : Nat)) (h69 : cE h 69 (.inl (.int, fA ch))) (n69 : ch.length = (48 : Nat)) (h77 : cE h 77 (.inl (.int, fA gt))) (n77 : gt.length = (5 : Nat)) (h78 : cE h 78 (.inl (.int, fA gd))) (n78 : gd.length = (5 : Nat)) (h79 : cE h 79 (.inl (.long, fL xs))) (n79 : xs.length = (12 : Nat)) (h80 : cE h 80 (.inl (.long, fL ys))) (n80 : ys.length = (12 : Nat)) (h70 : cE h 70 (.inl (.int, fA [ka, pa, fa, kb, pb, fb]))) (h81 : cE h 81 (.inl (.long, fL r1))) (n81 : r1.length = (201 : Nat)) (h82 : cE h 82 (.inl (.long, fL r2))) (n82 : r2.length = (201 : Nat)) (hl : h.length = (94 : Nat)) : ik_F 169 [.ref 66, fI wh] h (fun rv h_q => ∃ (w' : Int) (gt' : List Int) (gd' : List Int) (xs' : List Int) (ys' : List Int) (r1' : List Int) (r2' : List Int), rv = [fI (mr_w (mf_cm (fun x => mx_w cn go ch s x) (pl - 1) ka pa) fa (mf_cm (fun x => mx_w cn go ch s x) (pl - 1) kb pb) fb wh)] ∧ cE h_q 66 (.inr (10, (fI pl :: .ref 67 :: .ref 68 :: .ref 69 :: fI ((s : Nat) : Int) :: .ref 70 :: .ref 71 :: fI (f 7) :: fI (f 8) :: .ref 72 :: fI (f 10) :: fI (f 11) :: fI (f 12) :: fJ (f 13) :: fI (f 14) :: fI (f 15) :: fI (f 16) :: fI (f 17) :: .ref 73 :: .ref 74 :: .ref 75 :: .ref 76 :: .ref 77 :: .ref 78 :: fI w' :: .ref 79 :: .ref 80 :: .ref 81 :: .ref 82 :: .ref 83 :: .ref 84 :: .ref 85 :: fJ (f 32) :: fJ (f 33) :: .ref 86 :: .ref 87 :: fI (f 36) :: .ref 88 :: .ref 89 :: .ref 90 :: .ref 91 :: .ref 92 :: .ref 93 :: []))) ∧ cE h_q 77 (.inl (.int, fA gt')) ∧ gt'.length = (5 : Nat) ∧ cE h_q 78 (.inl (.int, fA gd')) ∧ gd'.length = (5 : Nat) ∧ cE h_q 79 (.inl (.long, fL xs')) ∧ xs'.length = (12 : Nat) ∧ cE h_q 80 (.inl (.long, fL ys')) ∧ ys'.length = (12 : Nat) ∧ cE h_q 81 (.inl (.long, fL r1')) ∧ r1'.length = (201 : Nat) ∧ cE h_q 82 (.inl (.long, fL r2')) ∧ r2'.length = (201 : Nat) ∧ hfr [66, 77, 78, 79, 80, 81, 82] h h_q) := by
  refine ik_Wk 1 (pc_q := 1) (loc_q := [some (.ref 66), some (fI wh)]) (st_q := [.ref 66]) (h_q := h) (cl_q := 0) (sl_q := 0) rfl ?_
  refine fw_call 165 1 0 [.ref 66] [] rfl rfl rfl (Nat.le_of_ble_eq_true rfl) rfl rfl (fw_rec hl rfl h66 rfl (Nat.le_of_ble_eq_true rfl)) (cr_suitRows (pl := pl) (f := fun j => ((0 :: 0 :: 0 :: 0 :: 0 :: 0 :: 0 :: f 7 :: f 8 :: 0 :: f 10 :: f 11 :: f 12 :: f 13 :: f 14 :: f 15 :: f 16 :: f 17 :: 0 :: 0 :: 0 :: 0 :: 0 :: 0 :: f 24 :: 0 :: 0 :: 0 :: 0 :: 0 :: 0 :: 0 :: f 32 :: f 33 :: 0 :: 0 :: f 36 :: 0 :: 0 :: 0 :: 0 :: 0 :: 0 :: []) : List Int).getD j 0) (s := s) (cn := cn) (go := go) (ch := ch) (gt := gt) (gd := gd) (xs := xs) (ys := ys) (ka := ka) (pa := pa) (fa := fa) (kb := kb) (pb := pb) (fb := fb) (r1 := r1) (r2 := r2) (by omega) (by omega) q2 q3 q4 (by omega) (by omega) (by omega) (by omega) h66 h67 n67 h68 n68 h69 n69 h77 n77 h78 n78 h79 n79 h80 n80 h70 h81 n81 h82 n82 hl) ?_
  rintro _ h_161 ⟨w'_161, gt'_161, gd'_161, xs'_161, ys'_161, r1'_161, r2'_161, rfl, e_161_66, e_161_77, m_161_77, e_161_78, m_161_78, e_161_79, m_161_79, e_161_80, m_161_80, e_161_81, m_161_81, e_161_82, m_161_82, p_161_0, p_161_1, F_161⟩
  have k_161 : cL h_161 := F_161.1.trans hl
  have fr_161 := hfr_cb (hfr_refl [66, 77, 78, 79, 80, 81, 82] h) F_161 rfl
  have g_161_67 := (hfr_g F_161 67 rfl).trans h67
  have g_161_68 := (hfr_g F_161 68 rfl).trans h68
  have g_161_69 := (hfr_g F_161 69 rfl).trans h69
  have g_161_70 := (hfr_g F_161 70 rfl).trans h70
  have g_161_66 : cE h_161 66 (.inr (10, (fI pl :: .ref 67 :: .ref 68 :: .ref 69 :: fI ((s : Nat) : Int) :: .ref 70 :: .ref 71 :: fI (f 7) :: fI (f 8) :: .ref 72 :: fI (f 10) :: fI (f 11) :: fI (f 12) :: fJ (f 13) :: fI (f 14) :: fI (f 15) :: fI (f 16) :: fI (f 17) :: .ref 73 :: .ref 74 :: .ref 75 :: .ref 76 :: .ref 77 :: .ref 78 :: fI w'_161 :: .ref 79 :: .ref 80 :: .ref 81 :: .ref 82 :: .ref 83 :: .ref 84 :: .ref 85 :: fJ (f 32) :: fJ (f 33) :: .ref 86 :: .ref 87 :: fI (f 36) :: .ref 88 :: .ref 89 :: .ref 90 :: .ref 91 :: .ref 92 :: .ref 93 :: []))) := e_161_66
  have g_161_77 : cE h_161 77 (.inl (.int, fA gt'_161)) := e_161_77
  have g_161_78 : cE h_161 78 (.inl (.int, fA gd'_161)) := e_161_78
  have g_161_79 : cE h_161 79 (.inl (.long, fL xs'_161)) := e_161_79
  have g_161_80 : cE h_161 80 (.inl (.long, fL ys'_161)) := e_161_80
  have g_161_81 : cE h_161 81 (.inl (.long, fL r1'_161)) := e_161_81
  have g_161_82 : cE h_161 82 (.inl (.long, fL r2'_161)) := e_161_82
  refine ik_Wk 0 (pc_q := 4) (loc_q := [some (.ref 66), some (fI wh)]) (st_q := []) (h_q := h_161) (cl_q := 0) (sl_q := 0) rfl ?_
  refine ik_Wk 2 (pc_q := 6) (loc_q := [some (.ref 66), some (fI wh)]) (st_q := [fI wh, .ref 66]) (h_q := h_161) (cl_q := 0) (sl_q := 0) rfl ?_
  refine fw_call 168 2 0 [.ref 66, fI wh] [] rfl rfl rfl (Nat.le_of_ble_eq_true rfl) rfl rfl (fw_rec k_161 rfl g_161_66 rfl (Nat.le_of_ble_eq_true rfl)) (cr_laterBy (f := fun j => ((pl :: 0 :: 0 :: 0 :: (((s : Nat) : Int)) :: 0 :: 0 :: ((f 7)) :: ((f 8)) :: 0 :: ((f 10)) :: ((f 11)) :: ((f 12)) :: ((f 13)) :: ((f 14)) :: ((f 15)) :: ((f 16)) :: ((f 17)) :: 0 :: 0 :: 0 :: 0 :: 0 :: 0 :: w'_161 :: 0 :: 0 :: 0 :: 0 :: 0 :: 0 :: 0 :: ((f 32)) :: ((f 33)) :: 0 :: 0 :: ((f 36)) :: 0 :: 0 :: 0 :: 0 :: 0 :: 0 :: []) : List Int).getD j 0) (wh := wh) (ka := ka) (pa := pa) (fa := fa) (kb := kb) (pb := pb) (fb := fb) (r1 := r1'_161) (r2 := r2'_161) (c0 := (mf_cm (fun x => mx_w cn go ch s x) (pl - 1) ka pa)) (c1 := (mf_cm (fun x => mx_w cn go ch s x) (pl - 1) kb pb)) (by omega) (by omega) (by omega) p_161_0 p_161_1 (mr_ok_cm (W := (fun x => mx_w cn go ch s x)) q4 q7) (mr_ok_cm (W := (fun x => mx_w cn go ch s x)) q4 q8) g_161_66 g_161_70 g_161_81 m_161_81 g_161_82 m_161_82 k_161) ?_
  rintro _ h_162 ⟨rfl, F_162⟩
  have k_162 : cL h_162 := F_162.1.trans k_161
  have fr_162 := hfr_cb fr_161 F_162 rfl
  have g_162_66 := (hfr_g F_162 66 rfl).trans g_161_66
  have g_162_67 := (hfr_g F_162 67 rfl).trans g_161_67
  have g_162_68 := (hfr_g F_162 68 rfl).trans g_161_68
  have g_162_69 := (hfr_g F_162 69 rfl).trans g_161_69
  have g_162_77 := (hfr_g F_162 77 rfl).trans g_161_77
  have g_162_78 := (hfr_g F_162 78 rfl).trans g_161_78
  have g_162_79 := (hfr_g F_162 79 rfl).trans g_161_79
  have g_162_80 := (hfr_g F_162 80 rfl).trans g_161_80
  have g_162_70 := (hfr_g F_162 70 rfl).trans g_161_70
  have g_162_81 := (hfr_g F_162 81 rfl).trans g_161_81
  have g_162_82 := (hfr_g F_162 82 rfl).trans g_161_82
  refine ik_Wk 0 (pc_q := 9) (loc_q := [some (.ref 66), some (fI wh)]) (st_q := [fI (mr_w (mf_cm (fun x => mx_w cn go ch s x) (pl - 1) ka pa) fa (mf_cm (fun x => mx_w cn go ch s x) (pl - 1) kb pb) fb wh)]) (h_q := h_162) (cl_q := 0) (sl_q := 0) rfl ?_
  exact ik_Wret rfl rfl ⟨_, _, rfl, rfl, rfl, rfl, ⟨w'_161, gt'_161, gd'_161, xs'_161, ys'_161, r1'_161, r2'_161, rfl, g_162_66, g_162_77, m_161_77, g_162_78, m_161_78, g_162_79, m_161_79, g_162_80, m_161_80, g_162_81, m_161_81, g_162_82, m_161_82, fr_162⟩⟩

theorem cs_raceL {h : List ik_E} {C : Nat} {E : Nat} {pl : Int} {lo : Int} {s : Nat} {ka : Int} {pa : Int} {ma : Int} {kb : Int} {pb : Int} {mb : Int} {ua : Int} {ub : Int} {lim : Int} {bo : Int} {la : Int} {lb : Int} {wg : List Int} {wc : List Int} {we : List Int} {W : Int → List (Int × Int)} (q0 : 20 < C ∧ C < 42 ∧ 20 < E ∧ E < 42 ∧ (C + 4 ≤ E ∨ E + 4 ≤ C)) (q1 : 2 ≤ pl ∧ pl ≤ 12) (q2 : 0 ≤ ka ∧ ka ≤ 2 ∧ 0 ≤ kb ∧ kb ≤ 2) (q3 : 0 ≤ pa ∧ pa < pl - 1) (q4 : 0 ≤ pb ∧ pb < pl - 1) (q5 : 0 ≤ ma ∧ ma ≤ 30 ∧ 0 ≤ mb ∧ mb ≤ 30) (q6 : 0 ≤ lim ∧ lim ≤ 1000000) (q7 : ∀ x : Int, (0 : Int) ≤ x → x < pl - 1 → mx_wy wg wc we x (W x)) (q8 : ∀ x : Int, (0 : Int) ≤ x → x < pl - 1 → mx_ok pl (W x))  : ∀ (k : Nat) (i : Int) (l0 : Int) (l1 : Int) (l2 : Int) (ya : Int) (yb : Int) (u0 : Int) (u1 : Int) (x9 : Option Value) (x11 : Option Value) (x13 : Option Value) (x15 : Option Value) (x17 : Option Value) (u : List ik_E) (u7 : cE u 7 (.inr (0, [fI pl, fI ((s : Nat) : Int), fI lo, .ref 8, .ref 9, .ref 10, .ref 11, .ref 12, .ref 13]))) (u11 : cE u 11 (.inl (.int, fA wg))) (n11 : wg.length = (60 : Nat)) (u12 : cE u 12 (.inl (.int, fA wc))) (n12 : wc.length = (60 : Nat)) (u13 : cE u 13 (.inl (.int, fA we))) (n13 : we.length = (12 : Nat)) (u17 : cE u 17 (.inr (8, [.ref 7, .ref 15, .ref 18, .ref 19, fJ l2, .ref 20]))) (u19 : cE u 19 (.inl (.long, fL [l0, l1]))) (uC : mf_cv u C W pl ka pa u0) (uE : mf_cv u E W pl kb pb u1) (ul : u.length = (94 : Nat)) (F : hfr [17, 19, C, C + 1, C + 2, C + 3, E, E + 1, E + 2, E + 3] h u) (hi : (1 : Int) ≤ i ∧ i ≤ (201 : Int)) (hya : ya = mr_by (mf_cm W (pl - 1) ka pa) ma (i - 1)) (hyb : yb = mr_by (mf_cm W (pl - 1) kb pb) mb (i - 1)) (h0 : l0 = mr_S (mr_t0 (mf_cm W (pl - 1) ka pa) ma (mf_cm W (pl - 1) kb pb) mb) i.toNat) (h1 : l1 = mr_S (mr_t0 (mf_cm W (pl - 1) kb pb) mb (mf_cm W (pl - 1) ka pa) ma) i.toNat) (h2 : l2 = mr_S (mr_t2 (mf_cm W (pl - 1) ka pa) ma (mf_cm W (pl - 1) kb pb) mb) i.toNat) (w9 : ik_wl 94 x9 = true) (w11 : ik_wl 94 x11 = true) (w13 : ik_wl 94 x13 = true) (w15 : ik_wl 94 x15 = true) (w17 : ik_wl 94 x17 = true) (hk : 201 - i < (k : Int)), ik_G 80 28 [some (.ref 17), some (.ref C), some (fI ma), some (.ref E), some (fI mb), some (fI lim), some (fI ya), some (fI yb), some (fI i), x9, none, x11, none, x13, none, x15, none, x17, none] [] u (fun rv h_q => ∃ (l0 : Int) (l1 : Int) (l2 : Int) (ua' : Int) (ub' : Int), rv = [] ∧ cE h_q 17 (.inr (8, [.ref 7, .ref 15, .ref 18, .ref 19, fJ l2, .ref 20])) ∧ cE h_q 19 (.inl (.long, fL [l0, l1])) ∧ mf_cv h_q C W pl ka pa ua' ∧ mf_cv h_q E W pl kb pb ub' ∧ ((0 : Int) ≤ l0 ∧ l0 ≤ (1000000000 : Int) ∧ (0 : Int) ≤ l1 ∧ l1 ≤ (1000000000 : Int) ∧ (0 : Int) ≤ l2 ∧ l2 ≤ (1000000000 : Int)) ∧ ((l0 = mr_F0 (mf_cm W (pl - 1) ka pa) ma (mf_cm W (pl - 1) kb pb) mb ∧ l1 = mr_F0 (mf_cm W (pl - 1) kb pb) mb (mf_cm W (pl - 1) ka pa) ma ∧ l2 = mr_F2 (mf_cm W (pl - 1) ka pa) ma (mf_cm W (pl - 1) kb pb) mb) ∨ ((lim < l0 / 1000 - l1 / 1000 ∨ lim < l1 / 1000 - l0 / 1000) ∧ (lim < mr_F0 (mf_cm W (pl - 1) ka pa) ma (mf_cm W (pl - 1) kb pb) mb / 1000 - mr_F0 (mf_cm W (pl - 1) kb pb) mb (mf_cm W (pl - 1) ka pa) ma / 1000 ∨ lim < mr_F0 (mf_cm W (pl - 1) kb pb) mb (mf_cm W (pl - 1) ka pa) ma / 1000 - mr_F0 (mf_cm W (pl - 1) ka pa) ma (mf_cm W (pl - 1) kb pb) mb / 1000))) ∧ hfr [17, 19, C, C + 1, C + 2, C + 3, E, E + 1, E + 2, E + 3] h h_q) := by
  intro k
  induction k with
  | zero => intro i l0 l1 l2 ya yb u0 u1 x9 x11 x13 x15 x17 u u7 u11 n11 u12 n12 u13 n13 u17 u19 uC uE ul F hi hya hyb h0 h1 h2 w9 w11 w13 w15 w17 hk; omega
  | succ k ih =>
    intro i l0 l1 l2 ya yb u0 u1 x9 x11 x13 x15 x17 u u7 u11 n11 u12 n12 u13 n13 u17 u19 uC uE ul F hi hya hyb h0 h1 h2 w9 w11 w13 w15 w17 hk
    have k0 := mr_ok_cm (k := ka) q8 q3
    have k1 := mr_ok_cm (k := kb) q8 q4
    have za := mr_by_b k0 ma i
    have zb := mr_by_b k1 mb i
    have za1 := mr_by_b k0 ma (i - 1)
    have zb1 := mr_by_b k1 mb (i - 1)
    have s0 := mr_S_b0 k0 k1 ma (show 0 ≤ mb by omega) i.toNat
    have s1 := mr_S_b0 k1 k0 mb (show 0 ≤ ma by omega) i.toNat
    have s2 := mr_S_b2 k0 k1 ma (show 0 ≤ mb by omega) i.toNat
    refine ik_Wk 1 (pc_q := 30) (loc_q := [some (.ref 17), some (.ref C), some (fI ma), some (.ref E), some (fI mb), some (fI lim), some (fI ya), some (fI yb), some (fI i), x9, none, x11, none, x13, none, x15, none, x17, none]) (st_q := [fI i]) (h_q := u) (cl_q := 0) (sl_q := 0) rfl ?_
    refine fw_si rfl (by decide +kernel) ?_
    refine fw_ic_gt rfl rfl (by omega) (by omega) (by omega) (by omega) (fun hc1 => ?_) (fun hc1 => ?_)
    · have ei : i.toNat = 201 := by omega
      rw [ei] at h0 h1 h2 s0 s1 s2
      exact ik_Wret rfl rfl ⟨_, _, rfl, rfl, rfl, rfl, ⟨l0, l1, l2, u0, u1, rfl, u17, u19, uC, uE, (by omega), (Or.inl ⟨h0, h1, h2⟩), F⟩⟩
    · refine ik_Wk 3 (pc_q := 40) (loc_q := [some (.ref 17), some (.ref C), some (fI ma), some (.ref E), some (fI mb), some (fI lim), some (fI ya), some (fI yb), some (fI i), x9, none, x11, none, x13, none, x15, none, x17, none]) (st_q := [fI ma, fI i, .ref C]) (h_q := u) (cl_q := 0) (sl_q := 0) rfl ?_
      refine fw_sub rfl ?_
      refine fw_call 31 2 0 [.ref C, fI (i - ma)] [] rfl rfl rfl (Nat.le_of_ble_eq_true rfl) rfl rfl (fw_rec ul (fw_ftx rfl wv_n (wl_c rfl (wl_c (wl_r (by omega)) (wl_c rfl (wl_c (wl_r (by omega)) (wl_c rfl (wl_c rfl (wl_c rfl (wl_c rfl (wl_c rfl (wl_c w9 (wl_c rfl (wl_c w11 (wl_c rfl (wl_c w13 (wl_c rfl (wl_c w15 (wl_c rfl (wl_c w17 (wl_c rfl wl_n)))))))))))))))))))) (mf_cv_o uC).choose_spec rfl (by decide +kernel)) (cs_come (C := C) (pl := pl) (lo := lo) (s := s) (t := i - ma) (kd := ka) (qp := pa) (ut := u0) (wg := wg) (wc := wc) (we := we) (W := W) (by omega) (by omega) (by omega) (by omega) q7 q8 (by omega) u7 u11 n11 u12 n12 u13 n13 uC ul) ?_
      rintro _ h_163 ⟨u'_163, rfl, e_163_C, p_163_0, F_163⟩
      have k_163 : cL h_163 := F_163.1.trans ul
      have fr_163 := hfr_c F F_163 (by intro b_ hb; simp at hb ⊢; omega)
      have g_163_7 := (F_163.2 7 (by simp <;> omega)).trans u7
      have g_163_11 := (F_163.2 11 (by simp <;> omega)).trans u11
      have g_163_12 := (F_163.2 12 (by simp <;> omega)).trans u12
      have g_163_13 := (F_163.2 13 (by simp <;> omega)).trans u13
      have g_163_17 := (F_163.2 17 (by simp <;> omega)).trans u17
      have g_163_19 := (F_163.2 19 (by simp <;> omega)).trans u19
      have g_163_E := mf_cv_f uE (F_163.2 E (by simp <;> omega)) (F_163.2 (E + 1) (by simp <;> omega)) (F_163.2 (E + 2) (by simp <;> omega)) (F_163.2 (E + 3) (by simp <;> omega))
      have g_163_C : mf_cv h_163 C W pl ka pa u'_163 := e_163_C
      refine ik_Wk 0 (pc_q := 44) (loc_q := [some (.ref 17), some (.ref C), some (fI ma), some (.ref E), some (fI mb), some (fI lim), some (fI ya), some (fI yb), some (fI i), x9, none, x11, none, x13, none, x15, none, x17, none]) (st_q := [fI (mf_ct W pl ka pa (i - ma))]) (h_q := h_163) (cl_q := 0) (sl_q := 0) rfl ?_
      have ea : mf_ct W pl ka pa (i - ma) = mr_by (mf_cm W (pl - 1) ka pa) ma i := mr_ct (by omega) (by omega)
      refine ik_Wk 1 (pc_q := 46) (loc_q := [some (.ref 17), some (.ref C), some (fI ma), some (.ref E), some (fI mb), some (fI lim), some (fI ya), some (fI yb), some (fI i), x9, none, x11, none, x13, none, x15, none, x17, none]) (st_q := [fI ya, fI (mf_ct W pl ka pa (i - ma))]) (h_q := h_163) (cl_q := 0) (sl_q := 0) rfl ?_
      refine fw_sub rfl ?_
      refine fw_i2l rfl (by omega) (by omega) ?_
      refine ik_Wk 4 (pc_q := 55) (loc_q := [some (.ref 17), some (.ref C), some (fI ma), some (.ref E), some (fI mb), some (fI lim), some (fI ya), some (fI yb), some (fI i), some (fJ ((mf_ct W pl ka pa (i - ma)) - ya)), none, x11, none, x13, none, x15, none, x17, none]) (st_q := [fI mb, fI i, .ref E]) (h_q := h_163) (cl_q := 0) (sl_q := 0) rfl ?_
      refine fw_sub rfl ?_
      refine fw_call 31 2 0 [.ref E, fI (i - mb)] [] rfl rfl rfl (Nat.le_of_ble_eq_true rfl) rfl rfl (fw_rec k_163 (fw_ftx rfl wv_n (wl_c rfl (wl_c (wl_r (by omega)) (wl_c rfl (wl_c (wl_r (by omega)) (wl_c rfl (wl_c rfl (wl_c rfl (wl_c rfl (wl_c rfl (wl_c rfl (wl_c rfl (wl_c w11 (wl_c rfl (wl_c w13 (wl_c rfl (wl_c w15 (wl_c rfl (wl_c w17 (wl_c rfl wl_n)))))))))))))))))))) (mf_cv_o g_163_E).choose_spec rfl (by decide +kernel)) (cs_come (C := E) (pl := pl) (lo := lo) (s := s) (t := i - mb) (kd := kb) (qp := pb) (ut := u1) (wg := wg) (wc := wc) (we := we) (W := W) (by omega) (by omega) (by omega) (by omega) q7 q8 (by omega) g_163_7 g_163_11 n11 g_163_12 n12 g_163_13 n13 g_163_E k_163) ?_
      rintro _ h_164 ⟨u'_164, rfl, e_164_C, p_164_0, F_164⟩
      have k_164 : cL h_164 := F_164.1.trans k_163
      have fr_164 := hfr_c fr_163 F_164 (by intro b_ hb; simp at hb ⊢; omega)
      have g_164_7 := (F_164.2 7 (by simp <;> omega)).trans g_163_7
      have g_164_11 := (F_164.2 11 (by simp <;> omega)).trans g_163_11
      have g_164_12 := (F_164.2 12 (by simp <;> omega)).trans g_163_12
      have g_164_13 := (F_164.2 13 (by simp <;> omega)).trans g_163_13
      have g_164_17 := (F_164.2 17 (by simp <;> omega)).trans g_163_17
      have g_164_19 := (F_164.2 19 (by simp <;> omega)).trans g_163_19
      have g_164_C := mf_cv_f g_163_C (F_164.2 C (by simp <;> omega)) (F_164.2 (C + 1) (by simp <;> omega)) (F_164.2 (C + 2) (by simp <;> omega)) (F_164.2 (C + 3) (by simp <;> omega))
      have g_164_E : mf_cv h_164 E W pl kb pb u'_164 := e_164_C
      refine ik_Wk 0 (pc_q := 59) (loc_q := [some (.ref 17), some (.ref C), some (fI ma), some (.ref E), some (fI mb), some (fI lim), some (fI ya), some (fI yb), some (fI i), some (fJ ((mf_ct W pl ka pa (i - ma)) - ya)), none, x11, none, x13, none, x15, none, x17, none]) (st_q := [fI (mf_ct W pl kb pb (i - mb))]) (h_q := h_164) (cl_q := 0) (sl_q := 0) rfl ?_
      have eb : mf_ct W pl kb pb (i - mb) = mr_by (mf_cm W (pl - 1) kb pb) mb i := mr_ct (by omega) (by omega)
      refine ik_Wk 1 (pc_q := 61) (loc_q := [some (.ref 17), some (.ref C), some (fI ma), some (.ref E), some (fI mb), some (fI lim), some (fI ya), some (fI yb), some (fI i), some (fJ ((mf_ct W pl ka pa (i - ma)) - ya)), none, x11, none, x13, none, x15, none, x17, none]) (st_q := [fI yb, fI (mf_ct W pl kb pb (i - mb))]) (h_q := h_164) (cl_q := 0) (sl_q := 0) rfl ?_
      refine fw_sub rfl ?_
      refine fw_i2l rfl (by omega) (by omega) ?_
      refine ik_Wk 3 (pc_q := 69) (loc_q := [some (.ref 17), some (.ref C), some (fI ma), some (.ref E), some (fI mb), some (fI lim), some (fI ya), some (fI yb), some (fI i), some (fJ ((mf_ct W pl ka pa (i - ma)) - ya)), none, some (fJ ((mf_ct W pl kb pb (i - mb)) - yb)), none, x13, none, x15, none, x17, none]) (st_q := [fJ ((mf_ct W pl ka pa (i - ma)) - ya), fI ya]) (h_q := h_164) (cl_q := 0) (sl_q := 0) rfl ?_
      refine fx_l2i rfl ?_
      refine fw_add rfl ?_
      refine ik_Wk 3 (pc_q := 77) (loc_q := [some (.ref 17), some (.ref C), some (fI ma), some (.ref E), some (fI mb), some (fI lim), some (fI (ya + ((mf_ct W pl ka pa (i - ma)) - ya))), some (fI yb), some (fI i), some (fJ ((mf_ct W pl ka pa (i - ma)) - ya)), none, some (fJ ((mf_ct W pl kb pb (i - mb)) - yb)), none, x13, none, x15, none, x17, none]) (st_q := [fJ ((mf_ct W pl kb pb (i - mb)) - yb), fI yb]) (h_q := h_164) (cl_q := 0) (sl_q := 0) rfl ?_
      refine fx_l2i rfl ?_
      refine fw_add rfl ?_
      refine ik_Wk 1 (pc_q := 81) (loc_q := [some (.ref 17), some (.ref C), some (fI ma), some (.ref E), some (fI mb), some (fI lim), some (fI (ya + ((mf_ct W pl ka pa (i - ma)) - ya))), some (fI (yb + ((mf_ct W pl kb pb (i - mb)) - yb))), some (fI i), some (fJ ((mf_ct W pl ka pa (i - ma)) - ya)), none, some (fJ ((mf_ct W pl kb pb (i - mb)) - yb)), none, x13, none, x15, none, x17, none]) (st_q := []) (h_q := h_164) (cl_q := 0) (sl_q := 0) rfl ?_
      refine fw_l2 1000000000 rfl rfl (by decide +kernel) ?_
      refine ik_Wk 1 (pc_q := 86) (loc_q := [some (.ref 17), some (.ref C), some (fI ma), some (.ref E), some (fI mb), some (fI lim), some (fI (ya + ((mf_ct W pl ka pa (i - ma)) - ya))), some (fI (yb + ((mf_ct W pl kb pb (i - mb)) - yb))), some (fI i), some (fJ ((mf_ct W pl ka pa (i - ma)) - ya)), none, some (fJ ((mf_ct W pl kb pb (i - mb)) - yb)), none, x13, none, x15, none, x17, none]) (st_q := [fI (ya + ((mf_ct W pl ka pa (i - ma)) - ya)), fJ 1000000000]) (h_q := h_164) (cl_q := 0) (sl_q := 0) rfl ?_
      refine fw_i2l rfl (by omega) (by omega) ?_
      refine fw_lsub rfl ?_
      refine ik_Wk 1 (pc_q := 90) (loc_q := [some (.ref 17), some (.ref C), some (fI ma), some (.ref E), some (fI mb), some (fI lim), some (fI (ya + ((mf_ct W pl ka pa (i - ma)) - ya))), some (fI (yb + ((mf_ct W pl kb pb (i - mb)) - yb))), some (fI i), some (fJ ((mf_ct W pl ka pa (i - ma)) - ya)), none, some (fJ ((mf_ct W pl kb pb (i - mb)) - yb)), none, some (fJ (1000000000 - (ya + ((mf_ct W pl ka pa (i - ma)) - ya)))), none, x15, none, x17, none]) (st_q := []) (h_q := h_164) (cl_q := 0) (sl_q := 0) rfl ?_
      refine fw_l2 1000000000 rfl rfl (by decide +kernel) ?_
      refine ik_Wk 1 (pc_q := 95) (loc_q := [some (.ref 17), some (.ref C), some (fI ma), some (.ref E), some (fI mb), some (fI lim), some (fI (ya + ((mf_ct W pl ka pa (i - ma)) - ya))), some (fI (yb + ((mf_ct W pl kb pb (i - mb)) - yb))), some (fI i), some (fJ ((mf_ct W pl ka pa (i - ma)) - ya)), none, some (fJ ((mf_ct W pl kb pb (i - mb)) - yb)), none, some (fJ (1000000000 - (ya + ((mf_ct W pl ka pa (i - ma)) - ya)))), none, x15, none, x17, none]) (st_q := [fI (yb + ((mf_ct W pl kb pb (i - mb)) - yb)), fJ 1000000000]) (h_q := h_164) (cl_q := 0) (sl_q := 0) rfl ?_
      refine fw_i2l rfl (by omega) (by omega) ?_
      refine fw_lsub rfl ?_
      refine ik_Wk 2 (pc_q := 100) (loc_q := [some (.ref 17), some (.ref C), some (fI ma), some (.ref E), some (fI mb), some (fI lim), some (fI (ya + ((mf_ct W pl ka pa (i - ma)) - ya))), some (fI (yb + ((mf_ct W pl kb pb (i - mb)) - yb))), some (fI i), some (fJ ((mf_ct W pl ka pa (i - ma)) - ya)), none, some (fJ ((mf_ct W pl kb pb (i - mb)) - yb)), none, some (fJ (1000000000 - (ya + ((mf_ct W pl ka pa (i - ma)) - ya)))), none, some (fJ (1000000000 - (yb + ((mf_ct W pl kb pb (i - mb)) - yb)))), none, x17, none]) (st_q := [.ref 17]) (h_q := h_164) (cl_q := 0) (sl_q := 0) rfl ?_
      refine fw_gf rfl rfl g_164_17 rfl ?_
      refine ik_Wk 2 (pc_q := 105) (loc_q := [some (.ref 17), some (.ref C), some (fI ma), some (.ref E), some (fI mb), some (fI lim), some (fI (ya + ((mf_ct W pl ka pa (i - ma)) - ya))), some (fI (yb + ((mf_ct W pl kb pb (i - mb)) - yb))), some (fI i), some (fJ ((mf_ct W pl ka pa (i - ma)) - ya)), none, some (fJ ((mf_ct W pl kb pb (i - mb)) - yb)), none, some (fJ (1000000000 - (ya + ((mf_ct W pl ka pa (i - ma)) - ya)))), none, some (fJ (1000000000 - (yb + ((mf_ct W pl kb pb (i - mb)) - yb)))), none, x17, none]) (st_q := [fI 0, .ref 19, fI 0, .ref 19]) (h_q := h_164) (cl_q := 0) (sl_q := 0) rfl ?_
      refine fx_lal (z := 0) rfl g_164_19 (by decide +kernel) (Nat.le_of_ble_eq_true rfl) (by decide +kernel) ?_
      refine ik_Wk 0 (pc_q := 106) (loc_q := [some (.ref 17), some (.ref C), some (fI ma), some (.ref E), some (fI mb), some (fI lim), some (fI (ya + ((mf_ct W pl ka pa (i - ma)) - ya))), some (fI (yb + ((mf_ct W pl kb pb (i - mb)) - yb))), some (fI i), some (fJ ((mf_ct W pl ka pa (i - ma)) - ya)), none, some (fJ ((mf_ct W pl kb pb (i - mb)) - yb)), none, some (fJ (1000000000 - (ya + ((mf_ct W pl ka pa (i - ma)) - ya)))), none, some (fJ (1000000000 - (yb + ((mf_ct W pl kb pb (i - mb)) - yb)))), none, x17, none]) (st_q := [fJ l0, fI 0, .ref 19]) (h_q := h_164) (cl_q := 0) (sl_q := 0) rfl ?_
      refine ik_Wk 2 (pc_q := 110) (loc_q := [some (.ref 17), some (.ref C), some (fI ma), some (.ref E), some (fI mb), some (fI lim), some (fI (ya + ((mf_ct W pl ka pa (i - ma)) - ya))), some (fI (yb + ((mf_ct W pl kb pb (i - mb)) - yb))), some (fI i), some (fJ ((mf_ct W pl ka pa (i - ma)) - ya)), none, some (fJ ((mf_ct W pl kb pb (i - mb)) - yb)), none, some (fJ (1000000000 - (ya + ((mf_ct W pl ka pa (i - ma)) - ya)))), none, some (fJ (1000000000 - (yb + ((mf_ct W pl kb pb (i - mb)) - yb)))), none, x17, none]) (st_q := [fJ (1000000000 - (ya + ((mf_ct W pl ka pa (i - ma)) - ya))), fJ ((mf_ct W pl kb pb (i - mb)) - yb), fJ l0, fI 0, .ref 19]) (h_q := h_164) (cl_q := 0) (sl_q := 0) rfl ?_
      refine fw_lmul rfl ?_
      refine fw_l2 1000000000 rfl rfl (by decide +kernel) ?_
      have hm2 := mr_mul_b (a := ((mf_ct W pl kb pb (i - mb)) - yb)) (b := (1000000000 - (ya + ((mf_ct W pl ka pa (i - ma)) - ya)))) (by omega) (by omega) (by omega) (by omega)
      refine fx_ldiv rfl (by omega) (by omega) (by omega) (by omega) ?_
      refine fw_ladd rfl ?_
      refine fx_las (z := 0) rfl g_164_19 (by decide +kernel) (Nat.le_of_ble_eq_true rfl) (by decide +kernel) ?_
      intro h_165 e_165 f_165 l_165
      have k_165 : cL h_165 := l_165.trans k_164
      have fr_165 := hfr_w fr_164 f_165 l_165 (by simp <;> omega)
      clear l_165
      have g_165_7 := (f_165 7 (Nat.ne_of_beq_eq_false rfl)).trans g_164_7
      have g_165_11 := (f_165 11 (Nat.ne_of_beq_eq_false rfl)).trans g_164_11
      have g_165_12 := (f_165 12 (Nat.ne_of_beq_eq_false rfl)).trans g_164_12
      have g_165_13 := (f_165 13 (Nat.ne_of_beq_eq_false rfl)).trans g_164_13
      have g_165_17 := (f_165 17 (Nat.ne_of_beq_eq_false rfl)).trans g_164_17
      have g_165_C := mf_cv_f g_164_C (f_165 C (by omega)) (f_165 (C + 1) (by omega)) (f_165 (C + 2) (by omega)) (f_165 (C + 3) (by omega))
      have g_165_E := mf_cv_f g_164_E (f_165 E (by omega)) (f_165 (E + 1) (by omega)) (f_165 (E + 2) (by omega)) (f_165 (E + 3) (by omega))
      have g_165_19 : cE h_165 19 (.inl (.long, fL [l0 + ((((mf_ct W pl kb pb (i - mb)) - yb) * (1000000000 - (ya + ((mf_ct W pl ka pa (i - ma)) - ya)))) / 1000000000), l1])) := e_165
      refine ik_Wk 1 (pc_q := 118) (loc_q := [some (.ref 17), some (.ref C), some (fI ma), some (.ref E), some (fI mb), some (fI lim), some (fI (ya + ((mf_ct W pl ka pa (i - ma)) - ya))), some (fI (yb + ((mf_ct W pl kb pb (i - mb)) - yb))), some (fI i), some (fJ ((mf_ct W pl ka pa (i - ma)) - ya)), none, some (fJ ((mf_ct W pl kb pb (i - mb)) - yb)), none, some (fJ (1000000000 - (ya + ((mf_ct W pl ka pa (i - ma)) - ya)))), none, some (fJ (1000000000 - (yb + ((mf_ct W pl kb pb (i - mb)) - yb)))), none, x17, none]) (st_q := [.ref 17]) (h_q := h_165) (cl_q := 0) (sl_q := 0) rfl ?_
      refine fw_gf rfl rfl g_165_17 rfl ?_
      refine ik_Wk 2 (pc_q := 123) (loc_q := [some (.ref 17), some (.ref C), some (fI ma), some (.ref E), some (fI mb), some (fI lim), some (fI (ya + ((mf_ct W pl ka pa (i - ma)) - ya))), some (fI (yb + ((mf_ct W pl kb pb (i - mb)) - yb))), some (fI i), some (fJ ((mf_ct W pl ka pa (i - ma)) - ya)), none, some (fJ ((mf_ct W pl kb pb (i - mb)) - yb)), none, some (fJ (1000000000 - (ya + ((mf_ct W pl ka pa (i - ma)) - ya)))), none, some (fJ (1000000000 - (yb + ((mf_ct W pl kb pb (i - mb)) - yb)))), none, x17, none]) (st_q := [fI 1, .ref 19, fI 1, .ref 19]) (h_q := h_165) (cl_q := 0) (sl_q := 0) rfl ?_
      refine fx_lal (z := 1) rfl g_165_19 (by decide +kernel) (Nat.le_of_ble_eq_true rfl) (by decide +kernel) ?_
      refine ik_Wk 0 (pc_q := 124) (loc_q := [some (.ref 17), some (.ref C), some (fI ma), some (.ref E), some (fI mb), some (fI lim), some (fI (ya + ((mf_ct W pl ka pa (i - ma)) - ya))), some (fI (yb + ((mf_ct W pl kb pb (i - mb)) - yb))), some (fI i), some (fJ ((mf_ct W pl ka pa (i - ma)) - ya)), none, some (fJ ((mf_ct W pl kb pb (i - mb)) - yb)), none, some (fJ (1000000000 - (ya + ((mf_ct W pl ka pa (i - ma)) - ya)))), none, some (fJ (1000000000 - (yb + ((mf_ct W pl kb pb (i - mb)) - yb)))), none, x17, none]) (st_q := [fJ l1, fI 1, .ref 19]) (h_q := h_165) (cl_q := 0) (sl_q := 0) rfl ?_
      refine ik_Wk 2 (pc_q := 128) (loc_q := [some (.ref 17), some (.ref C), some (fI ma), some (.ref E), some (fI mb), some (fI lim), some (fI (ya + ((mf_ct W pl ka pa (i - ma)) - ya))), some (fI (yb + ((mf_ct W pl kb pb (i - mb)) - yb))), some (fI i), some (fJ ((mf_ct W pl ka pa (i - ma)) - ya)), none, some (fJ ((mf_ct W pl kb pb (i - mb)) - yb)), none, some (fJ (1000000000 - (ya + ((mf_ct W pl ka pa (i - ma)) - ya)))), none, some (fJ (1000000000 - (yb + ((mf_ct W pl kb pb (i - mb)) - yb)))), none, x17, none]) (st_q := [fJ (1000000000 - (yb + ((mf_ct W pl kb pb (i - mb)) - yb))), fJ ((mf_ct W pl ka pa (i - ma)) - ya), fJ l1, fI 1, .ref 19]) (h_q := h_165) (cl_q := 0) (sl_q := 0) rfl ?_
      refine fw_lmul rfl ?_
      refine fw_l2 1000000000 rfl rfl (by decide +kernel) ?_
      have hm3 := mr_mul_b (a := ((mf_ct W pl ka pa (i - ma)) - ya)) (b := (1000000000 - (yb + ((mf_ct W pl kb pb (i - mb)) - yb)))) (by omega) (by omega) (by omega) (by omega)
      refine fx_ldiv rfl (by omega) (by omega) (by omega) (by omega) ?_
      refine fw_ladd rfl ?_
      refine fx_las (z := 1) rfl g_165_19 (by decide +kernel) (Nat.le_of_ble_eq_true rfl) (by decide +kernel) ?_
      intro h_166 e_166 f_166 l_166
      have k_166 : cL h_166 := l_166.trans k_165
      have fr_166 := hfr_w fr_165 f_166 l_166 (by simp <;> omega)
      clear l_166
      have g_166_7 := (f_166 7 (Nat.ne_of_beq_eq_false rfl)).trans g_165_7
      have g_166_11 := (f_166 11 (Nat.ne_of_beq_eq_false rfl)).trans g_165_11
      have g_166_12 := (f_166 12 (Nat.ne_of_beq_eq_false rfl)).trans g_165_12
      have g_166_13 := (f_166 13 (Nat.ne_of_beq_eq_false rfl)).trans g_165_13
      have g_166_17 := (f_166 17 (Nat.ne_of_beq_eq_false rfl)).trans g_165_17
      have g_166_C := mf_cv_f g_165_C (f_166 C (by omega)) (f_166 (C + 1) (by omega)) (f_166 (C + 2) (by omega)) (f_166 (C + 3) (by omega))
      have g_166_E := mf_cv_f g_165_E (f_166 E (by omega)) (f_166 (E + 1) (by omega)) (f_166 (E + 2) (by omega)) (f_166 (E + 3) (by omega))
      have g_166_19 : cE h_166 19 (.inl (.long, fL [l0 + ((((mf_ct W pl kb pb (i - mb)) - yb) * (1000000000 - (ya + ((mf_ct W pl ka pa (i - ma)) - ya)))) / 1000000000), l1 + ((((mf_ct W pl ka pa (i - ma)) - ya) * (1000000000 - (yb + ((mf_ct W pl kb pb (i - mb)) - yb)))) / 1000000000)])) := e_166
      refine ik_Wk 2 (pc_q := 137) (loc_q := [some (.ref 17), some (.ref C), some (fI ma), some (.ref E), some (fI mb), some (fI lim), some (fI (ya + ((mf_ct W pl ka pa (i - ma)) - ya))), some (fI (yb + ((mf_ct W pl kb pb (i - mb)) - yb))), some (fI i), some (fJ ((mf_ct W pl ka pa (i - ma)) - ya)), none, some (fJ ((mf_ct W pl kb pb (i - mb)) - yb)), none, some (fJ (1000000000 - (ya + ((mf_ct W pl ka pa (i - ma)) - ya)))), none, some (fJ (1000000000 - (yb + ((mf_ct W pl kb pb (i - mb)) - yb)))), none, x17, none]) (st_q := [.ref 17, .ref 17]) (h_q := h_166) (cl_q := 0) (sl_q := 0) rfl ?_
      refine fw_gf rfl rfl g_166_17 rfl ?_
      refine ik_Wk 2 (pc_q := 144) (loc_q := [some (.ref 17), some (.ref C), some (fI ma), some (.ref E), some (fI mb), some (fI lim), some (fI (ya + ((mf_ct W pl ka pa (i - ma)) - ya))), some (fI (yb + ((mf_ct W pl kb pb (i - mb)) - yb))), some (fI i), some (fJ ((mf_ct W pl ka pa (i - ma)) - ya)), none, some (fJ ((mf_ct W pl kb pb (i - mb)) - yb)), none, some (fJ (1000000000 - (ya + ((mf_ct W pl ka pa (i - ma)) - ya)))), none, some (fJ (1000000000 - (yb + ((mf_ct W pl kb pb (i - mb)) - yb)))), none, x17, none]) (st_q := [fJ ((mf_ct W pl kb pb (i - mb)) - yb), fJ ((mf_ct W pl ka pa (i - ma)) - ya), fJ l2, .ref 17]) (h_q := h_166) (cl_q := 0) (sl_q := 0) rfl ?_
      refine fw_lmul rfl ?_
      refine fw_l2 1000000000 rfl rfl (by decide +kernel) ?_
      have hm4 := mr_mul_b (a := ((mf_ct W pl ka pa (i - ma)) - ya)) (b := ((mf_ct W pl kb pb (i - mb)) - yb)) (by omega) (by omega) (by omega) (by omega)
      refine fx_ldiv rfl (by omega) (by omega) (by omega) (by omega) ?_
      refine fw_ladd rfl ?_
      refine fx_pf rfl rfl g_166_17 (Nat.le_of_ble_eq_true rfl) rfl rfl ?_
      intro h_167 e_167 f_167 l_167
      have k_167 : cL h_167 := l_167.trans k_166
      have fr_167 := hfr_w fr_166 f_167 l_167 (by simp <;> omega)
      clear l_167
      have g_167_7 := (f_167 7 (Nat.ne_of_beq_eq_false rfl)).trans g_166_7
      have g_167_11 := (f_167 11 (Nat.ne_of_beq_eq_false rfl)).trans g_166_11
      have g_167_12 := (f_167 12 (Nat.ne_of_beq_eq_false rfl)).trans g_166_12
      have g_167_13 := (f_167 13 (Nat.ne_of_beq_eq_false rfl)).trans g_166_13
      have g_167_19 := (f_167 19 (Nat.ne_of_beq_eq_false rfl)).trans g_166_19
      have g_167_C := mf_cv_f g_166_C (f_167 C (by omega)) (f_167 (C + 1) (by omega)) (f_167 (C + 2) (by omega)) (f_167 (C + 3) (by omega))
      have g_167_E := mf_cv_f g_166_E (f_167 E (by omega)) (f_167 (E + 1) (by omega)) (f_167 (E + 2) (by omega)) (f_167 (E + 3) (by omega))
      have g_167_17 : cE h_167 17 (.inr (8, [.ref 7, .ref 15, .ref 18, .ref 19, fJ (l2 + ((((mf_ct W pl ka pa (i - ma)) - ya) * ((mf_ct W pl kb pb (i - mb)) - yb)) / 1000000000)), .ref 20])) := e_167
      refine ik_Wk 2 (pc_q := 157) (loc_q := [some (.ref 17), some (.ref C), some (fI ma), some (.ref E), some (fI mb), some (fI lim), some (fI (ya + ((mf_ct W pl ka pa (i - ma)) - ya))), some (fI (yb + ((mf_ct W pl kb pb (i - mb)) - yb))), some (fI i), some (fJ ((mf_ct W pl ka pa (i - ma)) - ya)), none, some (fJ ((mf_ct W pl kb pb (i - mb)) - yb)), none, some (fJ (1000000000 - (ya + ((mf_ct W pl ka pa (i - ma)) - ya)))), none, some (fJ (1000000000 - (yb + ((mf_ct W pl kb pb (i - mb)) - yb)))), none, x17, none]) (st_q := [fJ (1000000000 - (yb + ((mf_ct W pl kb pb (i - mb)) - yb))), fJ (1000000000 - (ya + ((mf_ct W pl ka pa (i - ma)) - ya)))]) (h_q := h_167) (cl_q := 0) (sl_q := 0) rfl ?_
      refine fw_lmul rfl ?_
      refine fw_l2 1000000000 rfl rfl (by decide +kernel) ?_
      have hm5 := mr_mul_b (a := (1000000000 - (ya + ((mf_ct W pl ka pa (i - ma)) - ya)))) (b := (1000000000 - (yb + ((mf_ct W pl kb pb (i - mb)) - yb)))) (by omega) (by omega) (by omega) (by omega)
      refine fx_ldiv rfl (by omega) (by omega) (by omega) (by omega) ?_
      refine ik_Wk 2 (pc_q := 166) (loc_q := [some (.ref 17), some (.ref C), some (fI ma), some (.ref E), some (fI mb), some (fI lim), some (fI (ya + ((mf_ct W pl ka pa (i - ma)) - ya))), some (fI (yb + ((mf_ct W pl kb pb (i - mb)) - yb))), some (fI i), some (fJ ((mf_ct W pl ka pa (i - ma)) - ya)), none, some (fJ ((mf_ct W pl kb pb (i - mb)) - yb)), none, some (fJ (1000000000 - (ya + ((mf_ct W pl ka pa (i - ma)) - ya)))), none, some (fJ (1000000000 - (yb + ((mf_ct W pl kb pb (i - mb)) - yb)))), none, some (fJ (((1000000000 - (ya + ((mf_ct W pl ka pa (i - ma)) - ya))) * (1000000000 - (yb + ((mf_ct W pl kb pb (i - mb)) - yb)))) / 1000000000)), none]) (st_q := [fJ (((1000000000 - (ya + ((mf_ct W pl ka pa (i - ma)) - ya))) * (1000000000 - (yb + ((mf_ct W pl kb pb (i - mb)) - yb)))) / 1000000000)]) (h_q := h_167) (cl_q := 0) (sl_q := 0) rfl ?_
      refine fw_lc (z := 0) rfl (by decide +kernel) ?_
      have t0 : l0 + ((((mf_ct W pl kb pb (i - mb)) - yb) * (1000000000 - (ya + ((mf_ct W pl ka pa (i - ma)) - ya)))) / 1000000000) = mr_S (mr_t0 (mf_cm W (pl - 1) ka pa) ma (mf_cm W (pl - 1) kb pb) mb) (i + 1).toNat := by
        rw [mr_S_s (by omega), ← h0]
        show _ = l0 + (mr_by (mf_cm W (pl - 1) kb pb) mb i - mr_by (mf_cm W (pl - 1) kb pb) mb (i - 1)) * (1000000000 - mr_by (mf_cm W (pl - 1) ka pa) ma i) / 1000000000
        rw [← eb, ← ea, ← hyb]
        exact congrArg (fun z => l0 + (mf_ct W pl kb pb (i - mb) - yb) * z / 1000000000) (by omega)
      have t1 : l1 + ((((mf_ct W pl ka pa (i - ma)) - ya) * (1000000000 - (yb + ((mf_ct W pl kb pb (i - mb)) - yb)))) / 1000000000) = mr_S (mr_t0 (mf_cm W (pl - 1) kb pb) mb (mf_cm W (pl - 1) ka pa) ma) (i + 1).toNat := by
        rw [mr_S_s (by omega), ← h1]
        show _ = l1 + (mr_by (mf_cm W (pl - 1) ka pa) ma i - mr_by (mf_cm W (pl - 1) ka pa) ma (i - 1)) * (1000000000 - mr_by (mf_cm W (pl - 1) kb pb) mb i) / 1000000000
        rw [← eb, ← ea, ← hya]
        exact congrArg (fun z => l1 + (mf_ct W pl ka pa (i - ma) - ya) * z / 1000000000) (by omega)
      have t2 : l2 + ((((mf_ct W pl ka pa (i - ma)) - ya) * ((mf_ct W pl kb pb (i - mb)) - yb)) / 1000000000) = mr_S (mr_t2 (mf_cm W (pl - 1) ka pa) ma (mf_cm W (pl - 1) kb pb) mb) (i + 1).toNat := by
        rw [mr_S_s (by omega), ← h2]
        show _ = l2 + (mr_by (mf_cm W (pl - 1) ka pa) ma i - mr_by (mf_cm W (pl - 1) ka pa) ma (i - 1)) * (mr_by (mf_cm W (pl - 1) kb pb) mb i - mr_by (mf_cm W (pl - 1) kb pb) mb (i - 1)) / 1000000000
        rw [← eb, ← ea, ← hya, ← hyb]
      have tr : ((1000000000 - (ya + ((mf_ct W pl ka pa (i - ma)) - ya))) * (1000000000 - (yb + ((mf_ct W pl kb pb (i - mb)) - yb)))) / 1000000000 = (1000000000 - mr_by (mf_cm W (pl - 1) ka pa) ma i) * (1000000000 - mr_by (mf_cm W (pl - 1) kb pb) mb i) / 1000000000 := by
        rw [← ea, ← eb, show ya + (mf_ct W pl ka pa (i - ma) - ya) = mf_ct W pl ka pa (i - ma) by omega, show yb + (mf_ct W pl kb pb (i - mb) - yb) = mf_ct W pl kb pb (i - mb) by omega]
      have r0 := mr_rest0 k0 k1 (m0 := ma) (m1 := mb) (u := i) (by omega)
      have r1 := mr_rest0 k1 k0 (m0 := mb) (m1 := ma) (u := i) (by omega)
      have r2 := mr_rest2 k0 k1 (m0 := ma) (m1 := mb) (u := i) (by omega)
      rw [Int.mul_comm (1000000000 - mr_by (mf_cm W (pl - 1) kb pb) mb i)] at r1
      have sb0 := mr_S_b0 k0 k1 ma (show 0 ≤ mb by omega) (i + 1).toNat
      have sb1 := mr_S_b0 k1 k0 mb (show 0 ≤ ma by omega) (i + 1).toNat
      have sb2 := mr_S_b2 k0 k1 ma (show 0 ≤ mb by omega) (i + 1).toNat
      refine fw_lcmp_eq rfl rfl rfl (by omega) (by omega) (by omega) (by omega) (fun hc6 => ?_) (fun hc6 => ?_)
      · exact ik_Wret rfl rfl ⟨_, _, rfl, rfl, rfl, rfl, ⟨(l0 + ((((mf_ct W pl kb pb (i - mb)) - yb) * (1000000000 - (ya + ((mf_ct W pl ka pa (i - ma)) - ya)))) / 1000000000)), (l1 + ((((mf_ct W pl ka pa (i - ma)) - ya) * (1000000000 - (yb + ((mf_ct W pl kb pb (i - mb)) - yb)))) / 1000000000)), (l2 + ((((mf_ct W pl ka pa (i - ma)) - ya) * ((mf_ct W pl kb pb (i - mb)) - yb)) / 1000000000)), u'_163, u'_164, rfl, g_167_17, g_167_19, g_167_C, g_167_E, (by omega), (by omega), fr_167⟩⟩
      · refine ik_Wk 2 (pc_q := 174) (loc_q := [some (.ref 17), some (.ref C), some (fI ma), some (.ref E), some (fI mb), some (fI lim), some (fI (ya + ((mf_ct W pl ka pa (i - ma)) - ya))), some (fI (yb + ((mf_ct W pl kb pb (i - mb)) - yb))), some (fI i), some (fJ ((mf_ct W pl ka pa (i - ma)) - ya)), none, some (fJ ((mf_ct W pl kb pb (i - mb)) - yb)), none, some (fJ (1000000000 - (ya + ((mf_ct W pl ka pa (i - ma)) - ya)))), none, some (fJ (1000000000 - (yb + ((mf_ct W pl kb pb (i - mb)) - yb)))), none, some (fJ (((1000000000 - (ya + ((mf_ct W pl ka pa (i - ma)) - ya))) * (1000000000 - (yb + ((mf_ct W pl kb pb (i - mb)) - yb)))) / 1000000000)), none]) (st_q := [fJ (((1000000000 - (ya + ((mf_ct W pl ka pa (i - ma)) - ya))) * (1000000000 - (yb + ((mf_ct W pl kb pb (i - mb)) - yb)))) / 1000000000), .ref 17]) (h_q := h_167) (cl_q := 0) (sl_q := 0) rfl ?_
        refine ik_Wc 81 2 0 [.ref 17, fJ (((1000000000 - (ya + ((mf_ct W pl ka pa (i - ma)) - ya))) * (1000000000 - (yb + ((mf_ct W pl kb pb (i - mb)) - yb)))) / 1000000000)] [] rfl rfl rfl (by decide +kernel) rfl rfl (fw_rec k_167 (fw_ftx rfl wv_n (wl_c rfl (wl_c (wl_r (by omega)) (wl_c rfl (wl_c (wl_r (by omega)) (wl_c rfl (wl_c rfl (wl_c rfl (wl_c rfl (wl_c rfl (wl_c rfl (wl_c rfl (wl_c rfl (wl_c rfl (wl_c rfl (wl_c rfl (wl_c rfl (wl_c rfl (wl_c rfl (wl_c rfl wl_n)))))))))))))))))))) g_167_17 rfl (by decide +kernel)) ?_
        refine ik_Wk 0 (pc_q := 0) (loc_q := [some (.ref 17), some (fJ (((1000000000 - (ya + ((mf_ct W pl ka pa (i - ma)) - ya))) * (1000000000 - (yb + ((mf_ct W pl kb pb (i - mb)) - yb)))) / 1000000000)), none]) (st_q := []) (h_q := h_167) (cl_q := 0) (sl_q := 0) rfl ?_
        refine ik_Wk 1 (pc_q := 1) (loc_q := [some (.ref 17), some (fJ (((1000000000 - (ya + ((mf_ct W pl ka pa (i - ma)) - ya))) * (1000000000 - (yb + ((mf_ct W pl kb pb (i - mb)) - yb)))) / 1000000000)), none]) (st_q := [.ref 17]) (h_q := h_167) (cl_q := 0) (sl_q := 0) rfl ?_
        refine fw_gf rfl rfl g_167_17 rfl ?_
        refine ik_Wk 1 (pc_q := 5) (loc_q := [some (.ref 17), some (fJ (((1000000000 - (ya + ((mf_ct W pl ka pa (i - ma)) - ya))) * (1000000000 - (yb + ((mf_ct W pl kb pb (i - mb)) - yb)))) / 1000000000)), none]) (st_q := [fI 0, .ref 19]) (h_q := h_167) (cl_q := 0) (sl_q := 0) rfl ?_
        refine fx_lal (z := 0) rfl g_167_19 (by decide +kernel) (Nat.le_of_ble_eq_true rfl) (by decide +kernel) ?_
        refine ik_Wk 0 (pc_q := 6) (loc_q := [some (.ref 17), some (fJ (((1000000000 - (ya + ((mf_ct W pl ka pa (i - ma)) - ya))) * (1000000000 - (yb + ((mf_ct W pl kb pb (i - mb)) - yb)))) / 1000000000)), none]) (st_q := [fJ (l0 + ((((mf_ct W pl kb pb (i - mb)) - yb) * (1000000000 - (ya + ((mf_ct W pl ka pa (i - ma)) - ya)))) / 1000000000))]) (h_q := h_167) (cl_q := 0) (sl_q := 0) rfl ?_
        refine fw_l2 1000 rfl rfl (by decide +kernel) ?_
        refine fx_ldiv rfl (by omega) (by omega) (by omega) (by omega) ?_
        refine ik_Wk 1 (pc_q := 11) (loc_q := [some (.ref 17), some (fJ (((1000000000 - (ya + ((mf_ct W pl ka pa (i - ma)) - ya))) * (1000000000 - (yb + ((mf_ct W pl kb pb (i - mb)) - yb)))) / 1000000000)), none]) (st_q := [.ref 17, fJ ((l0 + ((((mf_ct W pl kb pb (i - mb)) - yb) * (1000000000 - (ya + ((mf_ct W pl ka pa (i - ma)) - ya)))) / 1000000000)) / 1000)]) (h_q := h_167) (cl_q := 0) (sl_q := 0) rfl ?_
        refine fw_gf rfl rfl g_167_17 rfl ?_
        refine ik_Wk 1 (pc_q := 15) (loc_q := [some (.ref 17), some (fJ (((1000000000 - (ya + ((mf_ct W pl ka pa (i - ma)) - ya))) * (1000000000 - (yb + ((mf_ct W pl kb pb (i - mb)) - yb)))) / 1000000000)), none]) (st_q := [fI 1, .ref 19, fJ ((l0 + ((((mf_ct W pl kb pb (i - mb)) - yb) * (1000000000 - (ya + ((mf_ct W pl ka pa (i - ma)) - ya)))) / 1000000000)) / 1000)]) (h_q := h_167) (cl_q := 0) (sl_q := 0) rfl ?_
        refine fx_lal (z := 1) rfl g_167_19 (by decide +kernel) (Nat.le_of_ble_eq_true rfl) (by decide +kernel) ?_
        refine ik_Wk 0 (pc_q := 16) (loc_q := [some (.ref 17), some (fJ (((1000000000 - (ya + ((mf_ct W pl ka pa (i - ma)) - ya))) * (1000000000 - (yb + ((mf_ct W pl kb pb (i - mb)) - yb)))) / 1000000000)), none]) (st_q := [fJ (l1 + ((((mf_ct W pl ka pa (i - ma)) - ya) * (1000000000 - (yb + ((mf_ct W pl kb pb (i - mb)) - yb)))) / 1000000000)), fJ ((l0 + ((((mf_ct W pl kb pb (i - mb)) - yb) * (1000000000 - (ya + ((mf_ct W pl ka pa (i - ma)) - ya)))) / 1000000000)) / 1000)]) (h_q := h_167) (cl_q := 0) (sl_q := 0) rfl ?_
        refine ik_Wk 1 (pc_q := 17) (loc_q := [some (.ref 17), some (fJ (((1000000000 - (ya + ((mf_ct W pl ka pa (i - ma)) - ya))) * (1000000000 - (yb + ((mf_ct W pl kb pb (i - mb)) - yb)))) / 1000000000)), none]) (st_q := [fJ (((1000000000 - (ya + ((mf_ct W pl ka pa (i - ma)) - ya))) * (1000000000 - (yb + ((mf_ct W pl kb pb (i - mb)) - yb)))) / 1000000000), fJ (l1 + ((((mf_ct W pl ka pa (i - ma)) - ya) * (1000000000 - (yb + ((mf_ct W pl kb pb (i - mb)) - yb)))) / 1000000000)), fJ ((l0 + ((((mf_ct W pl kb pb (i - mb)) - yb) * (1000000000 - (ya + ((mf_ct W pl ka pa (i - ma)) - ya)))) / 1000000000)) / 1000)]) (h_q := h_167) (cl_q := 0) (sl_q := 0) rfl ?_
        refine fw_ladd rfl ?_
        refine fw_l2 1000 rfl rfl (by decide +kernel) ?_
        refine fx_ldiv rfl (by omega) (by omega) (by omega) (by omega) ?_
        refine fw_lsub rfl ?_
        refine ik_Wk 1 (pc_q := 24) (loc_q := [some (.ref 17), some (fJ (((1000000000 - (ya + ((mf_ct W pl ka pa (i - ma)) - ya))) * (1000000000 - (yb + ((mf_ct W pl kb pb (i - mb)) - yb)))) / 1000000000)), none]) (st_q := [.ref 17, fJ (((l0 + ((((mf_ct W pl kb pb (i - mb)) - yb) * (1000000000 - (ya + ((mf_ct W pl ka pa (i - ma)) - ya)))) / 1000000000)) / 1000) - (((l1 + ((((mf_ct W pl ka pa (i - ma)) - ya) * (1000000000 - (yb + ((mf_ct W pl kb pb (i - mb)) - yb)))) / 1000000000)) + (((1000000000 - (ya + ((mf_ct W pl ka pa (i - ma)) - ya))) * (1000000000 - (yb + ((mf_ct W pl kb pb (i - mb)) - yb)))) / 1000000000)) / 1000))]) (h_q := h_167) (cl_q := 0) (sl_q := 0) rfl ?_
        refine fw_gf rfl rfl g_167_17 rfl ?_
        refine ik_Wk 1 (pc_q := 28) (loc_q := [some (.ref 17), some (fJ (((1000000000 - (ya + ((mf_ct W pl ka pa (i - ma)) - ya))) * (1000000000 - (yb + ((mf_ct W pl kb pb (i - mb)) - yb)))) / 1000000000)), none]) (st_q := [fI 1, .ref 19, fJ (((l0 + ((((mf_ct W pl kb pb (i - mb)) - yb) * (1000000000 - (ya + ((mf_ct W pl ka pa (i - ma)) - ya)))) / 1000000000)) / 1000) - (((l1 + ((((mf_ct W pl ka pa (i - ma)) - ya) * (1000000000 - (yb + ((mf_ct W pl kb pb (i - mb)) - yb)))) / 1000000000)) + (((1000000000 - (ya + ((mf_ct W pl ka pa (i - ma)) - ya))) * (1000000000 - (yb + ((mf_ct W pl kb pb (i - mb)) - yb)))) / 1000000000)) / 1000))]) (h_q := h_167) (cl_q := 0) (sl_q := 0) rfl ?_
        refine fx_lal (z := 1) rfl g_167_19 (by decide +kernel) (Nat.le_of_ble_eq_true rfl) (by decide +kernel) ?_
        refine ik_Wk 0 (pc_q := 29) (loc_q := [some (.ref 17), some (fJ (((1000000000 - (ya + ((mf_ct W pl ka pa (i - ma)) - ya))) * (1000000000 - (yb + ((mf_ct W pl kb pb (i - mb)) - yb)))) / 1000000000)), none]) (st_q := [fJ (l1 + ((((mf_ct W pl ka pa (i - ma)) - ya) * (1000000000 - (yb + ((mf_ct W pl kb pb (i - mb)) - yb)))) / 1000000000)), fJ (((l0 + ((((mf_ct W pl kb pb (i - mb)) - yb) * (1000000000 - (ya + ((mf_ct W pl ka pa (i - ma)) - ya)))) / 1000000000)) / 1000) - (((l1 + ((((mf_ct W pl ka pa (i - ma)) - ya) * (1000000000 - (yb + ((mf_ct W pl kb pb (i - mb)) - yb)))) / 1000000000)) + (((1000000000 - (ya + ((mf_ct W pl ka pa (i - ma)) - ya))) * (1000000000 - (yb + ((mf_ct W pl kb pb (i - mb)) - yb)))) / 1000000000)) / 1000))]) (h_q := h_167) (cl_q := 0) (sl_q := 0) rfl ?_
        refine fw_l2 1000 rfl rfl (by decide +kernel) ?_
        refine fx_ldiv rfl (by omega) (by omega) (by omega) (by omega) ?_
        refine ik_Wk 1 (pc_q := 34) (loc_q := [some (.ref 17), some (fJ (((1000000000 - (ya + ((mf_ct W pl ka pa (i - ma)) - ya))) * (1000000000 - (yb + ((mf_ct W pl kb pb (i - mb)) - yb)))) / 1000000000)), none]) (st_q := [.ref 17, fJ ((l1 + ((((mf_ct W pl ka pa (i - ma)) - ya) * (1000000000 - (yb + ((mf_ct W pl kb pb (i - mb)) - yb)))) / 1000000000)) / 1000), fJ (((l0 + ((((mf_ct W pl kb pb (i - mb)) - yb) * (1000000000 - (ya + ((mf_ct W pl ka pa (i - ma)) - ya)))) / 1000000000)) / 1000) - (((l1 + ((((mf_ct W pl ka pa (i - ma)) - ya) * (1000000000 - (yb + ((mf_ct W pl kb pb (i - mb)) - yb)))) / 1000000000)) + (((1000000000 - (ya + ((mf_ct W pl ka pa (i - ma)) - ya))) * (1000000000 - (yb + ((mf_ct W pl kb pb (i - mb)) - yb)))) / 1000000000)) / 1000))]) (h_q := h_167) (cl_q := 0) (sl_q := 0) rfl ?_
        refine fw_gf rfl rfl g_167_17 rfl ?_
        refine ik_Wk 1 (pc_q := 38) (loc_q := [some (.ref 17), some (fJ (((1000000000 - (ya + ((mf_ct W pl ka pa (i - ma)) - ya))) * (1000000000 - (yb + ((mf_ct W pl kb pb (i - mb)) - yb)))) / 1000000000)), none]) (st_q := [fI 0, .ref 19, fJ ((l1 + ((((mf_ct W pl ka pa (i - ma)) - ya) * (1000000000 - (yb + ((mf_ct W pl kb pb (i - mb)) - yb)))) / 1000000000)) / 1000), fJ (((l0 + ((((mf_ct W pl kb pb (i - mb)) - yb) * (1000000000 - (ya + ((mf_ct W pl ka pa (i - ma)) - ya)))) / 1000000000)) / 1000) - (((l1 + ((((mf_ct W pl ka pa (i - ma)) - ya) * (1000000000 - (yb + ((mf_ct W pl kb pb (i - mb)) - yb)))) / 1000000000)) + (((1000000000 - (ya + ((mf_ct W pl ka pa (i - ma)) - ya))) * (1000000000 - (yb + ((mf_ct W pl kb pb (i - mb)) - yb)))) / 1000000000)) / 1000))]) (h_q := h_167) (cl_q := 0) (sl_q := 0) rfl ?_
        refine fx_lal (z := 0) rfl g_167_19 (by decide +kernel) (Nat.le_of_ble_eq_true rfl) (by decide +kernel) ?_
        refine ik_Wk 0 (pc_q := 39) (loc_q := [some (.ref 17), some (fJ (((1000000000 - (ya + ((mf_ct W pl ka pa (i - ma)) - ya))) * (1000000000 - (yb + ((mf_ct W pl kb pb (i - mb)) - yb)))) / 1000000000)), none]) (st_q := [fJ (l0 + ((((mf_ct W pl kb pb (i - mb)) - yb) * (1000000000 - (ya + ((mf_ct W pl ka pa (i - ma)) - ya)))) / 1000000000)), fJ ((l1 + ((((mf_ct W pl ka pa (i - ma)) - ya) * (1000000000 - (yb + ((mf_ct W pl kb pb (i - mb)) - yb)))) / 1000000000)) / 1000), fJ (((l0 + ((((mf_ct W pl kb pb (i - mb)) - yb) * (1000000000 - (ya + ((mf_ct W pl ka pa (i - ma)) - ya)))) / 1000000000)) / 1000) - (((l1 + ((((mf_ct W pl ka pa (i - ma)) - ya) * (1000000000 - (yb + ((mf_ct W pl kb pb (i - mb)) - yb)))) / 1000000000)) + (((1000000000 - (ya + ((mf_ct W pl ka pa (i - ma)) - ya))) * (1000000000 - (yb + ((mf_ct W pl kb pb (i - mb)) - yb)))) / 1000000000)) / 1000))]) (h_q := h_167) (cl_q := 0) (sl_q := 0) rfl ?_
        refine ik_Wk 1 (pc_q := 40) (loc_q := [some (.ref 17), some (fJ (((1000000000 - (ya + ((mf_ct W pl ka pa (i - ma)) - ya))) * (1000000000 - (yb + ((mf_ct W pl kb pb (i - mb)) - yb)))) / 1000000000)), none]) (st_q := [fJ (((1000000000 - (ya + ((mf_ct W pl ka pa (i - ma)) - ya))) * (1000000000 - (yb + ((mf_ct W pl kb pb (i - mb)) - yb)))) / 1000000000), fJ (l0 + ((((mf_ct W pl kb pb (i - mb)) - yb) * (1000000000 - (ya + ((mf_ct W pl ka pa (i - ma)) - ya)))) / 1000000000)), fJ ((l1 + ((((mf_ct W pl ka pa (i - ma)) - ya) * (1000000000 - (yb + ((mf_ct W pl kb pb (i - mb)) - yb)))) / 1000000000)) / 1000), fJ (((l0 + ((((mf_ct W pl kb pb (i - mb)) - yb) * (1000000000 - (ya + ((mf_ct W pl ka pa (i - ma)) - ya)))) / 1000000000)) / 1000) - (((l1 + ((((mf_ct W pl ka pa (i - ma)) - ya) * (1000000000 - (yb + ((mf_ct W pl kb pb (i - mb)) - yb)))) / 1000000000)) + (((1000000000 - (ya + ((mf_ct W pl ka pa (i - ma)) - ya))) * (1000000000 - (yb + ((mf_ct W pl kb pb (i - mb)) - yb)))) / 1000000000)) / 1000))]) (h_q := h_167) (cl_q := 0) (sl_q := 0) rfl ?_
        refine fw_ladd rfl ?_
        refine fw_l2 1000 rfl rfl (by decide +kernel) ?_
        refine fx_ldiv rfl (by omega) (by omega) (by omega) (by omega) ?_
        refine fw_lsub rfl ?_
        refine fx_mx rfl rfl rfl ⟨Nat.le_of_ble_eq_true rfl, Nat.le_of_ble_eq_true rfl, Nat.le_of_ble_eq_true rfl⟩ (by omega) (by omega) (by omega) (by omega) ?_
        intro mm7 qmm7
        refine ik_Wret rfl rfl ⟨_, _, rfl, rfl, ?_⟩
        refine ik_Wk 0 (pc_q := 177) (loc_q := [some (.ref 17), some (.ref C), some (fI ma), some (.ref E), some (fI mb), some (fI lim), some (fI (ya + ((mf_ct W pl ka pa (i - ma)) - ya))), some (fI (yb + ((mf_ct W pl kb pb (i - mb)) - yb))), some (fI i), some (fJ ((mf_ct W pl ka pa (i - ma)) - ya)), none, some (fJ ((mf_ct W pl kb pb (i - mb)) - yb)), none, some (fJ (1000000000 - (ya + ((mf_ct W pl ka pa (i - ma)) - ya)))), none, some (fJ (1000000000 - (yb + ((mf_ct W pl kb pb (i - mb)) - yb)))), none, some (fJ (((1000000000 - (ya + ((mf_ct W pl ka pa (i - ma)) - ya))) * (1000000000 - (yb + ((mf_ct W pl kb pb (i - mb)) - yb)))) / 1000000000)), none]) (st_q := [fJ mm7]) (h_q := h_167) (cl_q := 0) (sl_q := 0) rfl ?_
        refine ik_Wk 1 (pc_q := 179) (loc_q := [some (.ref 17), some (.ref C), some (fI ma), some (.ref E), some (fI mb), some (fI lim), some (fI (ya + ((mf_ct W pl ka pa (i - ma)) - ya))), some (fI (yb + ((mf_ct W pl kb pb (i - mb)) - yb))), some (fI i), some (fJ ((mf_ct W pl ka pa (i - ma)) - ya)), none, some (fJ ((mf_ct W pl kb pb (i - mb)) - yb)), none, some (fJ (1000000000 - (ya + ((mf_ct W pl ka pa (i - ma)) - ya)))), none, some (fJ (1000000000 - (yb + ((mf_ct W pl kb pb (i - mb)) - yb)))), none, some (fJ (((1000000000 - (ya + ((mf_ct W pl ka pa (i - ma)) - ya))) * (1000000000 - (yb + ((mf_ct W pl kb pb (i - mb)) - yb)))) / 1000000000)), none]) (st_q := [fI lim, fJ mm7]) (h_q := h_167) (cl_q := 0) (sl_q := 0) rfl ?_
        refine fw_i2l rfl (by omega) (by omega) ?_
        refine fw_lcmp_le rfl rfl rfl (by omega) (by omega) (by omega) (by omega) (fun hc8 => ?_) (fun hc8 => ?_)
        · refine fw_inc (a := i) (loc_q := [some (.ref 17), some (.ref C), some (fI ma), some (.ref E), some (fI mb), some (fI lim), some (fI (ya + ((mf_ct W pl ka pa (i - ma)) - ya))), some (fI (yb + ((mf_ct W pl kb pb (i - mb)) - yb))), some (fI (i + 1)), some (fJ ((mf_ct W pl ka pa (i - ma)) - ya)), none, some (fJ ((mf_ct W pl kb pb (i - mb)) - yb)), none, some (fJ (1000000000 - (ya + ((mf_ct W pl ka pa (i - ma)) - ya)))), none, some (fJ (1000000000 - (yb + ((mf_ct W pl kb pb (i - mb)) - yb)))), none, some (fJ (((1000000000 - (ya + ((mf_ct W pl ka pa (i - ma)) - ya))) * (1000000000 - (yb + ((mf_ct W pl kb pb (i - mb)) - yb)))) / 1000000000)), none]) rfl rfl (Nat.le_of_ble_eq_true rfl) rfl ?_
          refine ik_Wk 1 (pc_q := 28) (loc_q := [some (.ref 17), some (.ref C), some (fI ma), some (.ref E), some (fI mb), some (fI lim), some (fI (ya + ((mf_ct W pl ka pa (i - ma)) - ya))), some (fI (yb + ((mf_ct W pl kb pb (i - mb)) - yb))), some (fI (i + 1)), some (fJ ((mf_ct W pl ka pa (i - ma)) - ya)), none, some (fJ ((mf_ct W pl kb pb (i - mb)) - yb)), none, some (fJ (1000000000 - (ya + ((mf_ct W pl ka pa (i - ma)) - ya)))), none, some (fJ (1000000000 - (yb + ((mf_ct W pl kb pb (i - mb)) - yb)))), none, some (fJ (((1000000000 - (ya + ((mf_ct W pl ka pa (i - ma)) - ya))) * (1000000000 - (yb + ((mf_ct W pl kb pb (i - mb)) - yb)))) / 1000000000)), none]) (st_q := []) (h_q := h_167) (cl_q := 0) (sl_q := 0) rfl ?_
          exact ih  (i + 1) (l0 + ((((mf_ct W pl kb pb (i - mb)) - yb) * (1000000000 - (ya + ((mf_ct W pl ka pa (i - ma)) - ya)))) / 1000000000)) (l1 + ((((mf_ct W pl ka pa (i - ma)) - ya) * (1000000000 - (yb + ((mf_ct W pl kb pb (i - mb)) - yb)))) / 1000000000)) (l2 + ((((mf_ct W pl ka pa (i - ma)) - ya) * ((mf_ct W pl kb pb (i - mb)) - yb)) / 1000000000)) (ya + ((mf_ct W pl ka pa (i - ma)) - ya)) (yb + ((mf_ct W pl kb pb (i - mb)) - yb)) u'_163 u'_164 (some (fJ ((mf_ct W pl ka pa (i - ma)) - ya))) (some (fJ ((mf_ct W pl kb pb (i - mb)) - yb))) (some (fJ (1000000000 - (ya + ((mf_ct W pl ka pa (i - ma)) - ya))))) (some (fJ (1000000000 - (yb + ((mf_ct W pl kb pb (i - mb)) - yb))))) (some (fJ (((1000000000 - (ya + ((mf_ct W pl ka pa (i - ma)) - ya))) * (1000000000 - (yb + ((mf_ct W pl kb pb (i - mb)) - yb)))) / 1000000000))) h_167 g_167_7 g_167_11 n11 g_167_12 n12 g_167_13 n13 g_167_17 g_167_19 g_167_C g_167_E k_167 fr_167 (by omega) (by rw [show i + 1 - 1 = i by omega]; omega) (by rw [show i + 1 - 1 = i by omega]; omega) t0 t1 t2 rfl rfl rfl rfl rfl (by omega)
        · refine ik_Wk 1 (pc_q := 193) (loc_q := [some (.ref 17), some (.ref C), some (fI ma), some (.ref E), some (fI mb), some (fI lim), some (fI (ya + ((mf_ct W pl ka pa (i - ma)) - ya))), some (fI (yb + ((mf_ct W pl kb pb (i - mb)) - yb))), some (fI i), some (fJ ((mf_ct W pl ka pa (i - ma)) - ya)), none, some (fJ ((mf_ct W pl kb pb (i - mb)) - yb)), none, some (fJ (1000000000 - (ya + ((mf_ct W pl ka pa (i - ma)) - ya)))), none, some (fJ (1000000000 - (yb + ((mf_ct W pl kb pb (i - mb)) - yb)))), none, some (fJ (((1000000000 - (ya + ((mf_ct W pl ka pa (i - ma)) - ya))) * (1000000000 - (yb + ((mf_ct W pl kb pb (i - mb)) - yb)))) / 1000000000)), none]) (st_q := []) (h_q := h_167) (cl_q := 0) (sl_q := 0) rfl ?_
          exact ik_Wret rfl rfl ⟨_, _, rfl, rfl, rfl, rfl, ⟨(l0 + ((((mf_ct W pl kb pb (i - mb)) - yb) * (1000000000 - (ya + ((mf_ct W pl ka pa (i - ma)) - ya)))) / 1000000000)), (l1 + ((((mf_ct W pl ka pa (i - ma)) - ya) * (1000000000 - (yb + ((mf_ct W pl kb pb (i - mb)) - yb)))) / 1000000000)), (l2 + ((((mf_ct W pl ka pa (i - ma)) - ya) * ((mf_ct W pl kb pb (i - mb)) - yb)) / 1000000000)), u'_163, u'_164, rfl, g_167_17, g_167_19, g_167_C, g_167_E, (by omega), (by omega), fr_167⟩⟩

theorem cs_race {h : List ik_E} {C : Nat} {E : Nat} {pl : Int} {lo : Int} {s : Nat} {ka : Int} {pa : Int} {ma : Int} {kb : Int} {pb : Int} {mb : Int} {ua : Int} {ub : Int} {lim : Int} {bo : Int} {la : Int} {lb : Int} {wg : List Int} {wc : List Int} {we : List Int} {W : Int → List (Int × Int)} (q0 : 20 < C ∧ C < 42 ∧ 20 < E ∧ E < 42 ∧ (C + 4 ≤ E ∨ E + 4 ≤ C)) (q1 : 2 ≤ pl ∧ pl ≤ 12) (q2 : 0 ≤ ka ∧ ka ≤ 2 ∧ 0 ≤ kb ∧ kb ≤ 2) (q3 : 0 ≤ pa ∧ pa < pl - 1) (q4 : 0 ≤ pb ∧ pb < pl - 1) (q5 : 0 ≤ ma ∧ ma ≤ 30 ∧ 0 ≤ mb ∧ mb ≤ 30) (q6 : 0 ≤ lim ∧ lim ≤ 1000000) (q7 : ∀ x : Int, (0 : Int) ≤ x → x < pl - 1 → mx_wy wg wc we x (W x)) (q8 : ∀ x : Int, (0 : Int) ≤ x → x < pl - 1 → mx_ok pl (W x)) (h7 : cE h 7 (.inr (0, [fI pl, fI ((s : Nat) : Int), fI lo, .ref 8, .ref 9, .ref 10, .ref 11, .ref 12, .ref 13]))) (h11 : cE h 11 (.inl (.int, fA wg))) (n11 : wg.length = (60 : Nat)) (h12 : cE h 12 (.inl (.int, fA wc))) (n12 : wc.length = (60 : Nat)) (h13 : cE h 13 (.inl (.int, fA we))) (n13 : we.length = (12 : Nat)) (h17 : cE h 17 (.inr (8, [.ref 7, .ref 15, .ref 18, .ref 19, fJ bo, .ref 20]))) (h19 : cE h 19 (.inl (.long, fL [la, lb]))) (hC : mf_cv h C W pl ka pa ua) (hE : mf_cv h E W pl kb pb ub) (hl : h.length = (94 : Nat)) : ik_F 80 [.ref 17, .ref C, fI ma, .ref E, fI mb, fI lim] h (fun rv h_q => ∃ (l0 : Int) (l1 : Int) (l2 : Int) (ua' : Int) (ub' : Int), rv = [] ∧ cE h_q 17 (.inr (8, [.ref 7, .ref 15, .ref 18, .ref 19, fJ l2, .ref 20])) ∧ cE h_q 19 (.inl (.long, fL [l0, l1])) ∧ mf_cv h_q C W pl ka pa ua' ∧ mf_cv h_q E W pl kb pb ub' ∧ ((0 : Int) ≤ l0 ∧ l0 ≤ (1000000000 : Int) ∧ (0 : Int) ≤ l1 ∧ l1 ≤ (1000000000 : Int) ∧ (0 : Int) ≤ l2 ∧ l2 ≤ (1000000000 : Int)) ∧ ((l0 = mr_F0 (mf_cm W (pl - 1) ka pa) ma (mf_cm W (pl - 1) kb pb) mb ∧ l1 = mr_F0 (mf_cm W (pl - 1) kb pb) mb (mf_cm W (pl - 1) ka pa) ma ∧ l2 = mr_F2 (mf_cm W (pl - 1) ka pa) ma (mf_cm W (pl - 1) kb pb) mb) ∨ ((lim < l0 / 1000 - l1 / 1000 ∨ lim < l1 / 1000 - l0 / 1000) ∧ (lim < mr_F0 (mf_cm W (pl - 1) ka pa) ma (mf_cm W (pl - 1) kb pb) mb / 1000 - mr_F0 (mf_cm W (pl - 1) kb pb) mb (mf_cm W (pl - 1) ka pa) ma / 1000 ∨ lim < mr_F0 (mf_cm W (pl - 1) kb pb) mb (mf_cm W (pl - 1) ka pa) ma / 1000 - mr_F0 (mf_cm W (pl - 1) ka pa) ma (mf_cm W (pl - 1) kb pb) mb / 1000))) ∧ hfr [17, 19, C, C + 1, C + 2, C + 3, E, E + 1, E + 2, E + 3] h h_q) := by
  refine ik_Wk 1 (pc_q := 1) (loc_q := [some (.ref 17), some (.ref C), some (fI ma), some (.ref E), some (fI mb), some (fI lim), none, none, none, none, none, none, none, none, none, none, none, none, none]) (st_q := [.ref 17]) (h_q := h) (cl_q := 0) (sl_q := 0) rfl ?_
  refine fw_gf rfl rfl h17 rfl ?_
  refine ik_Wk 1 (pc_q := 5) (loc_q := [some (.ref 17), some (.ref C), some (fI ma), some (.ref E), some (fI mb), some (fI lim), none, none, none, none, none, none, none, none, none, none, none, none, none]) (st_q := [fI 0, .ref 19]) (h_q := h) (cl_q := 0) (sl_q := 0) rfl ?_
  refine fw_lc (z := 0) rfl (by decide +kernel) ?_
  refine fx_las (z := 0) rfl h19 (by decide +kernel) (Nat.le_of_ble_eq_true rfl) (by decide +kernel) ?_
  intro h_168 e_168 f_168 l_168
  have k_168 : cL h_168 := l_168.trans hl
  have fr_168 := hfr_w (hfr_refl [17, 19, C, C + 1, C + 2, C + 3, E, E + 1, E + 2, E + 3] h) f_168 l_168 (by simp <;> omega)
  clear l_168
  have g_168_7 := (f_168 7 (Nat.ne_of_beq_eq_false rfl)).trans h7
  have g_168_11 := (f_168 11 (Nat.ne_of_beq_eq_false rfl)).trans h11
  have g_168_12 := (f_168 12 (Nat.ne_of_beq_eq_false rfl)).trans h12
  have g_168_13 := (f_168 13 (Nat.ne_of_beq_eq_false rfl)).trans h13
  have g_168_17 := (f_168 17 (Nat.ne_of_beq_eq_false rfl)).trans h17
  have g_168_C := mf_cv_f hC (f_168 C (by omega)) (f_168 (C + 1) (by omega)) (f_168 (C + 2) (by omega)) (f_168 (C + 3) (by omega))
  have g_168_E := mf_cv_f hE (f_168 E (by omega)) (f_168 (E + 1) (by omega)) (f_168 (E + 2) (by omega)) (f_168 (E + 3) (by omega))
  have g_168_19 : cE h_168 19 (.inl (.long, fL [0, lb])) := e_168
  refine ik_Wk 1 (pc_q := 8) (loc_q := [some (.ref 17), some (.ref C), some (fI ma), some (.ref E), some (fI mb), some (fI lim), none, none, none, none, none, none, none, none, none, none, none, none, none]) (st_q := [.ref 17]) (h_q := h_168) (cl_q := 0) (sl_q := 0) rfl ?_
  refine fw_gf rfl rfl g_168_17 rfl ?_
  refine ik_Wk 1 (pc_q := 12) (loc_q := [some (.ref 17), some (.ref C), some (fI ma), some (.ref E), some (fI mb), some (fI lim), none, none, none, none, none, none, none, none, none, none, none, none, none]) (st_q := [fI 1, .ref 19]) (h_q := h_168) (cl_q := 0) (sl_q := 0) rfl ?_
  refine fw_lc (z := 0) rfl (by decide +kernel) ?_
  refine fx_las (z := 1) rfl g_168_19 (by decide +kernel) (Nat.le_of_ble_eq_true rfl) (by decide +kernel) ?_
  intro h_169 e_169 f_169 l_169
  have k_169 : cL h_169 := l_169.trans k_168
  have fr_169 := hfr_w fr_168 f_169 l_169 (by simp <;> omega)
  clear l_169
  have g_169_7 := (f_169 7 (Nat.ne_of_beq_eq_false rfl)).trans g_168_7
  have g_169_11 := (f_169 11 (Nat.ne_of_beq_eq_false rfl)).trans g_168_11
  have g_169_12 := (f_169 12 (Nat.ne_of_beq_eq_false rfl)).trans g_168_12
  have g_169_13 := (f_169 13 (Nat.ne_of_beq_eq_false rfl)).trans g_168_13
  have g_169_17 := (f_169 17 (Nat.ne_of_beq_eq_false rfl)).trans g_168_17
  have g_169_C := mf_cv_f g_168_C (f_169 C (by omega)) (f_169 (C + 1) (by omega)) (f_169 (C + 2) (by omega)) (f_169 (C + 3) (by omega))
  have g_169_E := mf_cv_f g_168_E (f_169 E (by omega)) (f_169 (E + 1) (by omega)) (f_169 (E + 2) (by omega)) (f_169 (E + 3) (by omega))
  have g_169_19 : cE h_169 19 (.inl (.long, fL [0, 0])) := e_169
  refine ik_Wk 1 (pc_q := 15) (loc_q := [some (.ref 17), some (.ref C), some (fI ma), some (.ref E), some (fI mb), some (fI lim), none, none, none, none, none, none, none, none, none, none, none, none, none]) (st_q := [.ref 17]) (h_q := h_169) (cl_q := 0) (sl_q := 0) rfl ?_
  refine fw_lc (z := 0) rfl (by decide +kernel) ?_
  refine fx_pf rfl rfl g_169_17 (Nat.le_of_ble_eq_true rfl) rfl rfl ?_
  intro h_170 e_170 f_170 l_170
  have k_170 : cL h_170 := l_170.trans k_169
  have fr_170 := hfr_w fr_169 f_170 l_170 (by simp <;> omega)
  clear l_170
  have g_170_7 := (f_170 7 (Nat.ne_of_beq_eq_false rfl)).trans g_169_7
  have g_170_11 := (f_170 11 (Nat.ne_of_beq_eq_false rfl)).trans g_169_11
  have g_170_12 := (f_170 12 (Nat.ne_of_beq_eq_false rfl)).trans g_169_12
  have g_170_13 := (f_170 13 (Nat.ne_of_beq_eq_false rfl)).trans g_169_13
  have g_170_19 := (f_170 19 (Nat.ne_of_beq_eq_false rfl)).trans g_169_19
  have g_170_C := mf_cv_f g_169_C (f_170 C (by omega)) (f_170 (C + 1) (by omega)) (f_170 (C + 2) (by omega)) (f_170 (C + 3) (by omega))
  have g_170_E := mf_cv_f g_169_E (f_170 E (by omega)) (f_170 (E + 1) (by omega)) (f_170 (E + 2) (by omega)) (f_170 (E + 3) (by omega))
  have g_170_17 : cE h_170 17 (.inr (8, [.ref 7, .ref 15, .ref 18, .ref 19, fJ 0, .ref 20])) := e_170
  refine ik_Wk 6 (pc_q := 28) (loc_q := [some (.ref 17), some (.ref C), some (fI ma), some (.ref E), some (fI mb), some (fI lim), some (fI 0), some (fI 0), some (fI 1), none, none, none, none, none, none, none, none, none, none]) (st_q := []) (h_q := h_170) (cl_q := 0) (sl_q := 0) rfl ?_
  have k0 := mr_ok_cm (k := ka) q8 q3
  have k1 := mr_ok_cm (k := kb) q8 q4
  exact cs_raceL (C := C) (E := E) (pl := pl) (lo := lo) (s := s) (ka := ka) (pa := pa) (ma := ma) (kb := kb) (pb := pb) (mb := mb) (ua := ua) (ub := ub) (lim := lim) (bo := bo) (la := la) (lb := lb) (wg := wg) (wc := wc) (we := we) (W := W) q0 q1 q2 q3 q4 q5 q6 q7 q8  202 1 0 0 0 0 0 ua ub none none none none none h_170 g_170_7 g_170_11 n11 g_170_12 n12 g_170_13 n13 g_170_17 g_170_19 g_170_C g_170_E k_170 fr_170 (by omega) (mr_by_0 k0 (by omega) (by omega)).symm (mr_by_0 k1 (by omega) (by omega)).symm (mr_t0_0 k1 ma (by omega)).symm (mr_t0_0 k0 mb (by omega)).symm (mr_t2_0 k1 ma (by omega)).symm rfl rfl rfl rfl rfl (by omega)

end

/-! 38zh.kmodel -/
noncomputable section
/-! the rows of a stream as they must be; stones and digging keep them; what is sought over them -/
theorem mx_ext {xs ys : List Int} (hl : xs.length = ys.length) (h : ∀ k, xs.getD k 0 = ys.getD k 0) : xs = ys := by
  refine List.ext_getElem hl fun k h1 h2 => ?_
  have e := h k
  rw [List.getD_eq_getElem?_getD, List.getD_eq_getElem?_getD, List.getElem?_eq_getElem h1, List.getElem?_eq_getElem h2] at e
  exact e
/-- another stone, or another digging, at p: the other places' ways stay -/
theorem mx_wy_one {wg wc we wg' wc' : List Int} {pl p : Int} {W W' : Int → List (Int × Int)} (h : ∀ x : Int, (0 : Int) ≤ x → x < pl - 1 → mx_wy wg wc we x (W x)) (hok : ∀ x : Int, (0 : Int) ≤ x → x < pl - 1 → mx_ok pl (W x)) (hpl : pl ≤ (12 : Int)) (hp : (0 : Int) ≤ p ∧ p < pl - 1) (hl : we.length = (12 : Nat)) (hat : mx_at (5 * p.toNat) (W' p) wg' wc' (W' p).length) (o1 : mx_out (5 * p.toNat) (5 * p.toNat + 5) wg wg') (o2 : mx_out (5 * p.toNat) (5 * p.toNat + 5) wc wc') (hw : ∀ x : Int, (0 : Int) ≤ x → x < pl - 1 → ¬ x = p → W' x = W x) : ∀ x : Int, (0 : Int) ≤ x → x < pl - 1 → mx_wy wg' wc' (we.set p.toNat (5 * p + ((W' p).length : Int))) x (W' x) := by
  intro x h0 h1
  by_cases q : x = p
  · subst q
    refine ⟨?_, hat⟩
    rw [fz_getD_set, if_pos ⟨rfl, by omega⟩]
  · rw [hw x h0 h1 q]
    have r := h x h0 h1
    have l5 := (hok x h0 h1).1
    refine ⟨?_, fun k hk => ?_⟩
    · rw [fz_getD_set, if_neg (fun w => q (by omega))]; exact r.1
    · rw [o1 _ (by omega), o2 _ (by omega)]; exact r.2 k hk
theorem mx_w_tb {cn go ch : List Int} {s t : Nat} {p : Int} (h : t.testBit p.toNat = s.testBit p.toNat) : mx_w cn go ch t p = mx_w cn go ch s p := by
  unfold mx_w mx_g
  rw [h]
theorem mx_tb_ne {s p x : Nat} (h : ¬ x = p) : (s ^^^ 1 <<< p).testBit x = s.testBit x := by
  rw [Nat.testBit_xor, mf_tb0 h, Bool.xor_false]
theorem mx_xor2 (s b : Nat) : s ^^^ b ^^^ b = s := by rw [Nat.xor_assoc, Nat.xor_self, Nat.xor_zero]
theorem mx_w_ch {cn go ch ch' : List Int} {t : Nat} {x : Int} (h4 : cn.getD x.toNat 0 ≤ 4) (h : ∀ i : Int, (0 : Int) ≤ i → i < (4 : Int) → ch'.getD (4 * x + i).toNat 0 = ch.getD (4 * x + i).toNat 0) : mx_w cn go ch' t x = mx_w cn go ch t x := by
  have e0 := h 0 (by omega) (by omega)
  rw [Int.add_zero] at e0
  have eg : mx_g ch' t x = mx_g ch t x := by unfold mx_g; rw [e0]
  unfold mx_w
  rw [eg]
  have er : mx_wr go ch' (mx_g ch t x) x (cn.getD x.toNat 0).toNat = mx_wr go ch (mx_g ch t x) x (cn.getD x.toNat 0).toNat := by
    unfold mx_wr
    refine List.map_congr_left fun i hi => ?_
    have hi2 := List.mem_range.mp hi
    unfold mx_wi
    rw [h (i : Nat) (by omega) (by omega)]
  rw [er]
theorem mx_sh_get {ch : List Int} {p a b n : Int} {k : Nat} (ha : (4 * p + a).toNat < ch.length) (hb : (4 * p + b).toNat < ch.length) : (mx_sh ch p a b n).getD k 0 = if k = (4 * p + b).toNat then ch.getD (4 * p + b).toNat 0 + n else if k = (4 * p + a).toNat then ch.getD (4 * p + a).toNat 0 - n else ch.getD k 0 := by
  unfold mx_sh
  rw [fz_getD_set, List.length_set]
  by_cases q : k = (4 * p + b).toNat
  · rw [if_pos ⟨q, hb⟩, if_pos q]
  · rw [if_neg (fun w => q w.1), if_neg q, fz_getD_set]
    by_cases z : k = (4 * p + a).toNat
    · rw [if_pos ⟨z, ha⟩, if_pos z]
    · rw [if_neg (fun w => z w.1), if_neg z]
theorem mx_sh_2 {ch : List Int} {p a b n : Int} (hp : 0 ≤ p ∧ p < 12) (ha : 0 ≤ a ∧ a < 4) (hb : 0 ≤ b ∧ b < 4) (hab : ¬ a = b) (hl : ch.length = 48) : mx_sh (mx_sh ch p a b n) p b a n = ch := by
  refine mx_ext (by rw [mx_sh_len, mx_sh_len]) fun k => ?_
  rw [mx_sh_get (by rw [mx_sh_len]; omega) (by rw [mx_sh_len]; omega), mx_sh_get (by omega) (by omega), mx_sh_get (by omega) (by omega), mx_sh_get (by omega) (by omega)]
  by_cases q : k = (4 * p + a).toNat
  · rw [if_pos q, if_neg (by omega), if_pos rfl, q]; omega
  · rw [if_neg q]
    by_cases z : k = (4 * p + b).toNat
    · rw [if_pos z, if_pos rfl, z]; omega
    · rw [if_neg z, if_neg z, if_neg q]
theorem mx_w_sh {cn go ch : List Int} {t : Nat} {p a b n x : Int} (hp : 0 ≤ p ∧ p < 12) (ha : 0 ≤ a ∧ a < 4) (hb : 0 ≤ b ∧ b < 4) (hl : ch.length = 48) (h4 : cn.getD x.toNat 0 ≤ 4) (h0 : 0 ≤ x) (hx : ¬ x = p) : mx_w cn go (mx_sh ch p a b n) t x = mx_w cn go ch t x := by
  refine mx_w_ch h4 fun i h1 h2 => ?_
  rw [mx_sh_get (by omega) (by omega), if_neg (by omega), if_neg (by omega)]
theorem mx_sm_sh {ch : List Int} {p a b n x : Int} (hp : 0 ≤ p ∧ p < 12) (ha : 0 ≤ a ∧ a < 4) (hb : 0 ≤ b ∧ b < 4) (hab : ¬ a = b) (hl : ch.length = (48 : Nat)) (h0 : 0 ≤ x) : ∀ m : Nat, m ≤ 4 → mx_sm (mx_sh ch p a b n) x m = mx_sm ch x m + (if x = p ∧ b < (m : Int) then n else 0) - (if x = p ∧ a < (m : Int) then n else 0) := by
  intro m
  induction m with
  | zero => intro _; rw [if_neg (by omega), if_neg (by omega)]; rfl
  | succ m ih =>
    intro h4
    show mx_sm (mx_sh ch p a b n) x m + (mx_sh ch p a b n).getD (4 * x + (m : Nat)).toNat 0 = mx_sm ch x m + ch.getD (4 * x + (m : Nat)).toNat 0 + _ - _
    rw [ih (by omega), mx_sh_get (by omega) (by omega)]
    by_cases q : x = p
    · subst q
      by_cases zb : (m : Int) = b
      · rw [if_pos (show (4 * x + (m : Nat)).toNat = (4 * x + b).toNat by omega), if_neg (show ¬ (x = x ∧ b < (m : Int)) by omega), if_pos (show x = x ∧ b < ((m + 1 : Nat) : Int) by omega), zb]
        by_cases za : a < b
        · rw [if_pos ⟨rfl, za⟩, if_pos (show x = x ∧ a < ((m + 1 : Nat) : Int) by omega)]; omega
        · rw [if_neg (fun w => za w.2), if_neg (show ¬ (x = x ∧ a < ((m + 1 : Nat) : Int)) by omega)]; omega
      · rw [if_neg (show ¬ (4 * x + (m : Nat)).toNat = (4 * x + b).toNat by omega)]
        by_cases za : (m : Int) = a
        · rw [if_pos (show (4 * x + (m : Nat)).toNat = (4 * x + a).toNat by omega), if_neg (show ¬ (x = x ∧ a < (m : Int)) by omega), if_pos (show x = x ∧ a < ((m + 1 : Nat) : Int) by omega), za]
          by_cases y : b < a
          · rw [if_pos ⟨rfl, y⟩, if_pos (show x = x ∧ b < ((m + 1 : Nat) : Int) by omega)]; omega
          · rw [if_neg (fun w => y w.2), if_neg (show ¬ (x = x ∧ b < ((m + 1 : Nat) : Int)) by omega)]; omega
        · rw [if_neg (show ¬ (4 * x + (m : Nat)).toNat = (4 * x + a).toNat by omega)]
          have e1 : ∀ c : Int, ¬ (m : Int) = c → (if x = x ∧ c < ((m + 1 : Nat) : Int) then n else 0) = (if x = x ∧ c < (m : Int) then n else 0) := by
            intro c hc
            by_cases y : c < (m : Int)
            · rw [if_pos ⟨rfl, by omega⟩, if_pos ⟨rfl, y⟩]
            · rw [if_neg (fun w => y (by omega)), if_neg (fun w => y w.2)]
          rw [e1 b zb, e1 a za]
          omega
    · rw [if_neg (show ¬ (4 * x + (m : Nat)).toNat = (4 * p + b).toNat by omega), if_neg (show ¬ (4 * x + (m : Nat)).toNat = (4 * p + a).toNat by omega), if_neg (fun w => q w.1), if_neg (fun w => q w.1), if_neg (fun w => q w.1), if_neg (fun w => q w.1)]
      omega
theorem mx_sm_ge {ch : List Int} {x : Int} : ∀ (m : Nat), (∀ i : Int, (0 : Int) ≤ i → i < (m : Int) → 1 ≤ ch.getD (4 * x + i).toNat 0) → ∀ i : Int, (0 : Int) ≤ i → i < (m : Int) → ch.getD (4 * x + i).toNat 0 + (m : Int) - 1 ≤ mx_sm ch x m := by
  intro m
  induction m with
  | zero => intro _ i h0 h1; omega
  | succ m ih =>
    intro h i h0 h1
    have hm := h (m : Nat) (by omega) (by omega)
    have ge : ∀ (k : Nat), (∀ i : Int, 0 ≤ i → i < (k : Int) → 1 ≤ ch.getD (4 * x + i).toNat 0) → (k : Int) ≤ mx_sm ch x k := by
      intro k
      induction k with
      | zero => intro _; exact Int.le_refl 0
      | succ k ih2 => intro g; have a := ih2 (fun i h0 h1 => g i h0 (by omega)); have b := g (k : Nat) (by omega) (by omega); show ((k + 1 : Nat) : Int) ≤ mx_sm ch x k + ch.getD (4 * x + (k : Nat)).toNat 0; omega
    show _ ≤ mx_sm ch x m + ch.getD (4 * x + (m : Nat)).toNat 0
    by_cases q : i = (m : Int)
    · subst q; have := ge m (fun i h0 h1 => h i h0 (by omega)); omega
    · have := ih (fun i h0 h1 => h i h0 (by omega)) i h0 (by omega); omega
/-- together with another: at most a hundred -/
theorem mx_rw_sum {cn go ch : List Int} {pl x a b : Int} (h : mx_rw pl cn go ch) (h0 : 0 ≤ x) (h1 : x < pl - 1) (ha : 0 ≤ a ∧ a < cn.getD x.toNat 0) (hb : 0 ≤ b ∧ b < cn.getD x.toNat 0) (hab : ¬ a = b) : ch.getD (4 * x + a).toNat 0 + ch.getD (4 * x + b).toNat 0 ≤ 100 := by
  have r := h x h0 h1
  have two : ∀ (m : Nat), (∀ i : Int, 0 ≤ i → i < (m : Int) → 1 ≤ ch.getD (4 * x + i).toNat 0) → ∀ i k : Int, 0 ≤ i → i < k → k < (m : Int) → ch.getD (4 * x + i).toNat 0 + ch.getD (4 * x + k).toNat 0 ≤ mx_sm ch x m := by
    intro m
    induction m with
    | zero => intro _ i k h0 h1 h2; omega
    | succ m ih =>
      intro g i k g0 g1 g2
      have hm := g (m : Nat) (by omega) (by omega)
      show _ ≤ mx_sm ch x m + ch.getD (4 * x + (m : Nat)).toNat 0
      by_cases q : k = (m : Int)
      · subst q; have := mx_sm_ge m (fun i h0 h1 => g i h0 (by omega)) i g0 g1; omega
      · have := ih (fun i h0 h1 => g i h0 (by omega)) i k g0 g1 (by omega); omega
  have g := fun i h0 h1 => (r.2.1 i h0 (show i < cn.getD x.toNat 0 by omega)).1
  rcases Int.lt_or_le a b with q | q
  · have := two (cn.getD x.toNat 0).toNat (fun i h0 h1 => (r.2.1 i h0 (by omega)).1) a b (by omega) q (by omega); rw [r.2.2] at this; omega
  · have := two (cn.getD x.toNat 0).toNat (fun i h0 h1 => (r.2.1 i h0 (by omega)).1) b a (by omega) (by omega) (by omega); rw [r.2.2] at this; omega
theorem mx_rw_sh {cn go ch : List Int} {pl p a b n : Int} (h : mx_rw pl cn go ch) (hpl : pl ≤ 12) (hp : 0 ≤ p ∧ p < pl - 1) (ha : 0 ≤ a ∧ a < cn.getD p.toNat 0) (hb : 0 ≤ b ∧ b < cn.getD p.toNat 0) (hab : ¬ a = b) (hl : ch.length = 48) (h0 : 0 ≤ n) (h1 : 1 ≤ ch.getD (4 * p + a).toNat 0 - n) : mx_rw pl cn go (mx_sh ch p a b n) := by
  intro x x0 x1
  have r := h x x0 x1
  have rp := h p hp.1 hp.2
  have hs := mx_rw_sum h hp.1 hp.2 ha hb hab
  refine ⟨r.1, fun i i0 i1 => ?_, ?_⟩
  · have c := r.2.1 i i0 i1
    have ca := rp.2.1 a ha.1 ha.2
    have cb := rp.2.1 b hb.1 hb.2
    rw [mx_sh_get (by omega) (by omega)]
    split
    · omega
    · split <;> omega
  · rw [mx_sm_sh (by omega) (by omega) (by omega) hab hl x0 _ (by omega), r.2.2]
    by_cases q : x = p
    · subst q; rw [if_pos ⟨rfl, by omega⟩, if_pos ⟨rfl, by omega⟩]; omega
    · rw [if_neg (fun w => q w.1), if_neg (fun w => q w.1)]; omega
/-! what is sought -/
def mk_ab (x : Int) : Int := if x < 0 then -x else x
def mk_kn (c0 c1 : Nat → Int) (d : Int) : Nat → Int → Int
  | 0, _ => -1
  | n + 1, t => if d ≤ mk_ab (c0 t.toNat - c1 t.toNat) / 1000000 then t else mk_kn c0 c1 d n (t + 1)
theorem mk_kn_s {c0 c1 : Nat → Int} {d t : Int} (h : t ≤ 200) : mk_kn c0 c1 d (201 - t).toNat t = if d ≤ mk_ab (c0 t.toNat - c1 t.toNat) / 1000000 then t else mk_kn c0 c1 d (201 - (t + 1)).toNat (t + 1) := by
  rw [show (201 - t).toNat = (201 - (t + 1)).toNat + 1 by omega]
  rfl
/-- how well runs fit -/
def mk_ft (J : Nat → Int) : Nat → Int
  | 0 => 1000000000
  | n + 1 => if mk_ft J n * (J n / 1000) / 1000000 < 1 then 1 else mk_ft J n * (J n / 1000) / 1000000
theorem mk_ft_s {J : Nat → Int} {i : Int} (h : 0 ≤ i) : mk_ft J (i + 1).toNat = if mk_ft J i.toNat * (J i.toNat / 1000) / 1000000 < 1 then 1 else mk_ft J i.toNat * (J i.toNat / 1000) / 1000000 := by
  rw [show (i + 1).toNat = i.toNat + 1 by omega]
  rfl
theorem mk_mul_b {v j : Int} (v0 : 1 ≤ v) (v1 : v ≤ 1000000000) (j0 : 0 ≤ j) (j1 : j ≤ 1000000) : 0 ≤ v * j ∧ v * j ≤ 1000000000000000 := by
  refine ⟨Int.mul_nonneg (by omega) j0, ?_⟩
  have := Int.mul_le_mul v1 j1 j0 (by omega : (0 : Int) ≤ 1000000000)
  omega
theorem mk_ft_b {J : Nat → Int} : ∀ n, (∀ i, i < n → 0 ≤ J i ∧ J i ≤ 1000000000) → 1 ≤ mk_ft J n ∧ mk_ft J n ≤ 1000000000 := by
  intro n
  induction n with
  | zero => intro _; exact ⟨show (1 : Int) ≤ 1000000000 by decide, show (1000000000 : Int) ≤ 1000000000 by decide⟩
  | succ n ih =>
    intro h
    have a := ih (fun i hi => h i (by omega))
    have j := h n (by omega)
    have m := mk_mul_b (v := mk_ft J n) (j := J n / 1000) a.1 a.2 (by omega) (by omega)
    have e : mk_ft J (n + 1) = if mk_ft J n * (J n / 1000) / 1000000 < 1 then 1 else mk_ft J n * (J n / 1000) / 1000000 := rfl
    rw [e]
    split <;> omega
theorem mk_ft_c {J J' : Nat → Int} : ∀ n, (∀ i, i < n → J i = J' i) → mk_ft J n = mk_ft J' n := by
  intro n
  induction n with
  | zero => intro _; rfl
  | succ n ih =>
    intro h
    show (if _ then _ else _) = (if _ then _ else _)
    rw [ih (fun i hi => h i (by omega)), h n (by omega)]
def mk_J (W : Int → List (Int × Int)) (pl : Int) (rp rt : List Int) (i : Nat) : Int := mf_cm W (pl - 1) 0 (rp.getD i 0) (rt.getD i 0).toNat - mf_cm W (pl - 1) 0 (rp.getD i 0) (rt.getD i 0 - 1).toNat
def mk_rr (pl n : Int) (rp rt : List Int) : Prop := ∀ i : Nat, (i : Int) < n → (0 ≤ rp.getD i 0 ∧ rp.getD i 0 < pl - 1) ∧ 1 ≤ rt.getD i 0 ∧ rt.getD i 0 ≤ 200
theorem mk_J_b {W : Int → List (Int × Int)} {pl n : Int} {rp rt : List Int} (hW : ∀ x : Int, (0 : Int) ≤ x → x < pl - 1 → mx_ok pl (W x)) (h : mk_rr pl n rp rt) (i : Nat) (hi : (i : Int) < n) : 0 ≤ mk_J W pl rp rt i ∧ mk_J W pl rp rt i ≤ 1000000000 := by
  have r := h i hi
  have a := mf_cm_b (k := 0) hW (show 0 ≤ rp.getD i 0 ∧ rp.getD i 0 < pl by omega) (rt.getD i 0 - 1).toNat
  have b := mf_cm_b (k := 0) hW (show 0 ≤ rp.getD i 0 ∧ rp.getD i 0 < pl by omega) (rt.getD i 0).toNat
  rw [show (rt.getD i 0 - 1).toNat + 1 = (rt.getD i 0).toNat by omega] at a
  unfold mk_J
  omega
/-- which stone more fits best -/
def mk_so (v : Int → Int) : Nat → Int → Int → Int → Int
  | 0, _, _, w => w
  | n + 1, p, g, w => if g < v p then mk_so v n (p + 1) (v p) p else mk_so v n (p + 1) g w
/-- where one stone changes a suit most -/
def mk_mo (v : Int → Int) : Nat → Int → Int → Int → Int × Int
  | 0, _, b, y => (b, y)
  | n + 1, p, b, y => if p = 0 ∨ mk_ab y < mk_ab (v p) then mk_mo v n (p + 1) p (v p) else mk_mo v n (p + 1) b y
/-- where to set one in, when: of a place's minutes; of all places -/
def mk_bk (v : Int → Int → Int) (p : Int) : Nat → Int → Int → Int → Int → Int × Int × Int
  | 0, _, x, y, l => (x, y, l)
  | n + 1, k, x, y, l => if v p k < l then mk_bk v p n (k + 1) p k (v p k) else mk_bk v p n (k + 1) x y l
def mk_bp (v : Int → Int → Int) (m : Nat) : Nat → Int → Int → Int → Int → Int × Int × Int
  | 0, _, x, y, l => (x, y, l)
  | n + 1, p, x, y, l => mk_bp v m n (p + 1) (mk_bk v p m 0 x y l).1 (mk_bk v p m 0 x y l).2.1 (mk_bk v p m 0 x y l).2.2
def mk_lw (cn go ch : List Int) (t : Nat) (pl ka pa fa kb pb fb k : Int) : Int := mr_w (mf_cm (fun x => mx_w cn go ch t x) (pl - 1) ka pa) fa (mf_cm (fun x => mx_w cn go ch t x) (pl - 1) kb pb) fb k
def mk_vm (cn go ch : List Int) (s : Nat) (pl ka pa fa kb pb fb k p : Int) : Int := mk_lw cn go ch (s ^^^ 1 <<< p.toNat) pl ka pa fa kb pb fb k - mk_lw cn go ch s pl ka pa fa kb pb fb k
def mk_fv (cn go ch : List Int) (t : Nat) (pl : Int) (rp rt : List Int) (r : Int) : Int := mk_ft (mk_J (fun x => mx_w cn go ch t x) pl rp rt) r.toNat
def mk_vs (cn go ch : List Int) (s : Nat) (pl : Int) (rp rt : List Int) (r p : Int) : Int := mk_fv cn go ch (s ^^^ 1 <<< p.toNat) pl rp rt r
def mk_vb (W : Int → List (Int × Int)) (pl ka pa fa kb pb fb k : Int) (p m : Int) : Int := if k = 0 then mr_w (mf_cm W (pl - 1) ka p) m (mf_cm W (pl - 1) kb pb) fb 0 else mr_w (mf_cm W (pl - 1) ka pa) fa (mf_cm W (pl - 1) kb p) m 1
def mk_fs (c : Prop) (x y l z0 z1 z2 : Int) : Prop := (c ∧ l = 1000001 ∧ x = 0 ∧ y = 0) ∨ (z0 = x ∧ z1 = y ∧ z2 = l)
/-- where to dig least: pairs k of a place p, n in the hundred; z if none -/
def mk_c1 (g : Int → Int → Int → Bool) (n p : Int) : Nat → Int → Int → Int
  | 0, _, z => z
  | f + 1, k, z => if g n p k then 10000 * n + 100 * p + 10 * (k / 4) + k % 4 else mk_c1 g n p f (k + 1) z
def mk_c2 (g : Int → Int → Int → Bool) (n : Int) : Nat → Int → Int → Int
  | 0, _, z => z
  | f + 1, p, z => mk_c1 g n p 16 0 (mk_c2 g n f (p + 1) z)
def mk_c3 (g : Int → Int → Int → Bool) (m : Nat) : Nat → Int → Int
  | 0, _ => -1
  | f + 1, n => mk_c2 g n m 0 (mk_c3 g m f (n + 1))
theorem mk_c1_0 {g : Int → Int → Int → Bool} {n p k z : Int} : mk_c1 g n p 0 k z = z := rfl
theorem mk_c1_s {g : Int → Int → Int → Bool} {n p k z : Int} {f : Nat} : mk_c1 g n p (f + 1) k z = if g n p k then 10000 * n + 100 * p + 10 * (k / 4) + k % 4 else mk_c1 g n p f (k + 1) z := rfl
theorem mk_c2_0 {g : Int → Int → Int → Bool} {n p z : Int} : mk_c2 g n 0 p z = z := rfl
theorem mk_c2_s {g : Int → Int → Int → Bool} {n p z : Int} {f : Nat} : mk_c2 g n (f + 1) p z = mk_c1 g n p 16 0 (mk_c2 g n f (p + 1) z) := rfl
theorem mk_c3_0 {g : Int → Int → Int → Bool} {m : Nat} {n : Int} : mk_c3 g m 0 n = -1 := rfl
theorem mk_c3_s {g : Int → Int → Int → Bool} {m f : Nat} {n : Int} : mk_c3 g m (f + 1) n = mk_c2 g n m 0 (mk_c3 g m f (n + 1)) := rfl
def mk_gap (cn go ch : List Int) (t : Nat) (pl ka pa fa kb pb fb : Int) : Int := mk_ab (mk_lw cn go ch t pl ka pa fa kb pb fb 0 - mk_lw cn go ch t pl ka pa fa kb pb fb 1)
def mk_gg (cn go ch : List Int) (t : Nat) (pl ka pa fa kb pb fb e : Int) (n p k : Int) : Bool := decide (k / 4 < cn.getD p.toNat 0 ∧ k % 4 < cn.getD p.toNat 0 ∧ ¬ k / 4 = k % 4 ∧ n < ch.getD (4 * p + k / 4).toNat 0 ∧ mk_gap cn go (mx_sh ch p (k / 4) (k % 4) n) t pl ka pa fa kb pb fb ≤ e)
def mk_fz (cn go ch : List Int) (t : Nat) (pl ka pa fa kb pb fb e : Int) : Int := if mk_gap cn go ch t pl ka pa fa kb pb fb ≤ e then 0 else mk_c3 (mk_gg cn go ch t pl ka pa fa kb pb fb e) (pl - 1).toNat 20 1
theorem mk_fz_n {cn go ch : List Int} {t : Nat} {pl ka pa fa kb pb fb e : Int} (h : ¬ mk_gap cn go ch t pl ka pa fa kb pb fb ≤ e) : mk_fz cn go ch t pl ka pa fa kb pb fb e = mk_c3 (mk_gg cn go ch t pl ka pa fa kb pb fb e) (pl - 1).toNat (21 - (1 : Int)).toNat 1 := by
  unfold mk_fz
  rw [if_neg h]
  rw [show (21 - (1 : Int)).toNat = 20 from rfl]
theorem mk_fz_y {cn go ch : List Int} {t : Nat} {pl ka pa fa kb pb fb e : Int} (h : mk_gap cn go ch t pl ka pa fa kb pb fb ≤ e) : mk_fz cn go ch t pl ka pa fa kb pb fb e = 0 := by
  unfold mk_fz
  rw [if_pos h]
/-- what is told of it -/
def mk_fo (z t0 t1 t2 t3 : Int) : Prop := (z ≤ 0 ∧ t0 = z ∧ t1 = -1 ∧ t2 = -1 ∧ t3 = -1) ∨ (0 < z ∧ t0 = z / 10000 ∧ t1 = z / 100 % 100 ∧ t2 = z / 10 % 10 ∧ t3 = z % 10)
/-! rows of ways that agree before the bridge: the odds agree -/
theorem mf_fn_c {W W' : Int → List (Int × Int)} {o : Nat → Int} {br : Nat} : ∀ p : Nat, (∀ x : Int, (0 : Int) ≤ x → x < (p : Int) → W x = W' x) → mf_fn W o br p = mf_fn W' o br p := by
  intro p
  induction p with
  | zero => intro _; rfl
  | succ p ih =>
    intro h
    show (if 0 < o p then _ else _) = (if 0 < o p then _ else _)
    rw [ih (fun x h0 h1 => h x h0 (by omega)), h (p : Nat) (by omega) (by omega)]
theorem mf_fl_c {W W' : Int → List (Int × Int)} {br : Int} (h : ∀ x : Int, (0 : Int) ≤ x → x < br → W x = W' x) (o : Nat → Int) : mf_fl W br o = mf_fl W' br o := mf_fn_c _ fun x h0 h1 => h x h0 (by omega)
theorem mf_it_c {W W' : Int → List (Int × Int)} {br : Int} (h : ∀ x : Int, (0 : Int) ≤ x → x < br → W x = W' x) : ∀ (n : Nat) (o : Nat → Int), mf_it W br n o = mf_it W' br n o := by
  intro n
  induction n with
  | zero => intro o; rfl
  | succ n ih => intro o; show mf_it W br n (mf_fl W br o) = mf_it W' br n (mf_fl W' br o); rw [mf_fl_c h, ih]
theorem mf_od_c {W W' : Int → List (Int × Int)} {br k q : Int} (h : ∀ x : Int, (0 : Int) ≤ x → x < br → W x = W' x) : ∀ u : Nat, mf_od W br k q u = mf_od W' br k q u := by
  intro u
  induction u with
  | zero => rfl
  | succ u ih => show mf_it W br _ (mf_od W br k q u) = mf_it W' br _ (mf_od W' br k q u); rw [ih, mf_it_c h]
theorem mf_cm_c {W W' : Int → List (Int × Int)} {br : Int} (h : ∀ x : Int, (0 : Int) ≤ x → x < br → W x = W' x) : mf_cm W br = mf_cm W' br := by
  funext k q u
  unfold mf_cm
  rw [mf_od_c h]
end

/-! 38zi.seek -/
noncomputable section
/-! the class: suits as set; how soon known; runs; stones (written by wip/fx/u11.py) -/
theorem cs_raceAsSet {h : List ik_E} {pl : Int} {lo : Int} {s : Nat} {ka : Int} {pa : Int} {fa : Int} {kb : Int} {pb : Int} {fb : Int} {lim : Int} {bo : Int} {la : Int} {lb : Int} {wg : List Int} {wc : List Int} {we : List Int} {W : Int → List (Int × Int)} (q0 : 2 ≤ pl ∧ pl ≤ 12) (q1 : 0 ≤ ka ∧ ka ≤ 2 ∧ 0 ≤ kb ∧ kb ≤ 2) (q2 : 0 ≤ pa ∧ pa < pl - 1) (q3 : 0 ≤ pb ∧ pb < pl - 1) (q4 : 0 ≤ fa ∧ fa ≤ 30 ∧ 0 ≤ fb ∧ fb ≤ 30) (q5 : 0 ≤ lim ∧ lim ≤ 1000000) (q6 : ∀ x : Int, (0 : Int) ≤ x → x < pl - 1 → mx_wy wg wc we x (W x)) (q7 : ∀ x : Int, (0 : Int) ≤ x → x < pl - 1 → mx_ok pl (W x)) (h7 : cE h 7 (.inr (0, [fI pl, fI ((s : Nat) : Int), fI lo, .ref 8, .ref 9, .ref 10, .ref 11, .ref 12, .ref 13]))) (h11 : cE h 11 (.inl (.int, fA wg))) (n11 : wg.length = (60 : Nat)) (h12 : cE h 12 (.inl (.int, fA wc))) (n12 : wc.length = (60 : Nat)) (h13 : cE h 13 (.inl (.int, fA we))) (n13 : we.length = (12 : Nat)) (h15 : cE h 15 (.inl (.int, fA [ka, pa, fa, kb, pb, fb]))) (h17 : cE h 17 (.inr (8, [.ref 7, .ref 15, .ref 18, .ref 19, fJ bo, .ref 20]))) (h18 : cE h 18 (.inl (.object "SlowerCork$Course", [.ref 21, .ref 25, .ref 29, .ref 33, .ref 37, .ref 41]))) (h19 : cE h 19 (.inl (.long, fL [la, lb]))) (h21 : mf_cr h 21 ) (h33 : mf_cr h 33 ) (hl : h.length = (94 : Nat)) : ik_F 79 [.ref 17, fI lim] h (fun rv h_q => ∃ (l0 : Int) (l1 : Int) (l2 : Int), rv = [] ∧ cE h_q 17 (.inr (8, [.ref 7, .ref 15, .ref 18, .ref 19, fJ l2, .ref 20])) ∧ cE h_q 19 (.inl (.long, fL [l0, l1])) ∧ mf_cr h_q 21  ∧ mf_cr h_q 33  ∧ ((0 : Int) ≤ l0 ∧ l0 ≤ (1000000000 : Int) ∧ (0 : Int) ≤ l1 ∧ l1 ≤ (1000000000 : Int) ∧ (0 : Int) ≤ l2 ∧ l2 ≤ (1000000000 : Int)) ∧ ((l0 = mr_F0 (mf_cm W (pl - 1) ka pa) fa (mf_cm W (pl - 1) kb pb) fb ∧ l1 = mr_F0 (mf_cm W (pl - 1) kb pb) fb (mf_cm W (pl - 1) ka pa) fa ∧ l2 = mr_F2 (mf_cm W (pl - 1) ka pa) fa (mf_cm W (pl - 1) kb pb) fb) ∨ ((lim < l0 / 1000 - l1 / 1000 ∨ lim < l1 / 1000 - l0 / 1000) ∧ (lim < mr_F0 (mf_cm W (pl - 1) ka pa) fa (mf_cm W (pl - 1) kb pb) fb / 1000 - mr_F0 (mf_cm W (pl - 1) kb pb) fb (mf_cm W (pl - 1) ka pa) fa / 1000 ∨ lim < mr_F0 (mf_cm W (pl - 1) kb pb) fb (mf_cm W (pl - 1) ka pa) fa / 1000 - mr_F0 (mf_cm W (pl - 1) ka pa) fa (mf_cm W (pl - 1) kb pb) fb / 1000))) ∧ hfr [17, 19, 21, 22, 23, 24, 33, 34, 35, 36] h h_q) := by
  refine ik_Wk 2 (pc_q := 2) (loc_q := [some (.ref 17), some (fI lim)]) (st_q := [fI 0, .ref 17]) (h_q := h) (cl_q := 0) (sl_q := 0) rfl ?_
  refine ik_Wc 78 2 0 [.ref 17, fI 0] [] rfl rfl rfl (by decide +kernel) rfl rfl (fw_rec hl rfl h17 rfl (Nat.le_of_ble_eq_true rfl)) ?_
  refine ik_Wk 0 (pc_q := 0) (loc_q := [some (.ref 17), some (fI 0)]) (st_q := []) (h_q := h) (cl_q := 0) (sl_q := 0) rfl ?_
  refine ik_Wk 2 (pc_q := 2) (loc_q := [some (.ref 17), some (fI 0)]) (st_q := [fI 0, .ref 17]) (h_q := h) (cl_q := 0) (sl_q := 0) rfl ?_
  refine ik_Wc 77 2 0 [.ref 17, fI 0] [] rfl rfl rfl (by decide +kernel) rfl rfl (fw_rec hl rfl h17 rfl (Nat.le_of_ble_eq_true rfl)) ?_
  refine ik_Wk 0 (pc_q := 0) (loc_q := [some (.ref 17), some (fI 0)]) (st_q := []) (h_q := h) (cl_q := 0) (sl_q := 0) rfl ?_
  refine ik_Wk 1 (pc_q := 1) (loc_q := [some (.ref 17), some (fI 0)]) (st_q := [.ref 17]) (h_q := h) (cl_q := 0) (sl_q := 0) rfl ?_
  refine fw_gf rfl rfl h17 rfl ?_
  refine ik_Wk 2 (pc_q := 6) (loc_q := [some (.ref 17), some (fI 0)]) (st_q := [fI 3, fI 0, .ref 18]) (h_q := h) (cl_q := 0) (sl_q := 0) rfl ?_
  refine fw_mul rfl ?_
  refine fx_aal (z := 0) rfl h18 (by decide +kernel) (by decide +kernel) rfl ?_
  refine ik_Wret rfl rfl ⟨_, _, rfl, rfl, ?_⟩
  refine ik_Wk 0 (pc_q := 5) (loc_q := [some (.ref 17), some (fI 0)]) (st_q := [.ref 21]) (h_q := h) (cl_q := 0) (sl_q := 0) rfl ?_
  refine ik_Wk 1 (pc_q := 6) (loc_q := [some (.ref 17), some (fI 0)]) (st_q := [.ref 17, .ref 21]) (h_q := h) (cl_q := 0) (sl_q := 0) rfl ?_
  refine fw_gf rfl rfl h17 rfl ?_
  refine ik_Wk 2 (pc_q := 11) (loc_q := [some (.ref 17), some (fI 0)]) (st_q := [fI 3, fI 0, .ref 15, .ref 21]) (h_q := h) (cl_q := 0) (sl_q := 0) rfl ?_
  refine fw_mul rfl ?_
  refine ik_Wk 1 (pc_q := 13) (loc_q := [some (.ref 17), some (fI 0)]) (st_q := [fI 0, fI 0, .ref 15, .ref 21]) (h_q := h) (cl_q := 0) (sl_q := 0) rfl ?_
  refine fw_add rfl ?_
  refine fw_ial (z := 0) rfl h15 (by decide +kernel) (Nat.le_of_ble_eq_true rfl) (by decide +kernel) ?_
  refine ik_Wk 0 (pc_q := 15) (loc_q := [some (.ref 17), some (fI 0)]) (st_q := [fI ka, .ref 21]) (h_q := h) (cl_q := 0) (sl_q := 0) rfl ?_
  refine ik_Wk 1 (pc_q := 16) (loc_q := [some (.ref 17), some (fI 0)]) (st_q := [.ref 17, fI ka, .ref 21]) (h_q := h) (cl_q := 0) (sl_q := 0) rfl ?_
  refine fw_gf rfl rfl h17 rfl ?_
  refine ik_Wk 2 (pc_q := 21) (loc_q := [some (.ref 17), some (fI 0)]) (st_q := [fI 3, fI 0, .ref 15, fI ka, .ref 21]) (h_q := h) (cl_q := 0) (sl_q := 0) rfl ?_
  refine fw_mul rfl ?_
  refine ik_Wk 1 (pc_q := 23) (loc_q := [some (.ref 17), some (fI 0)]) (st_q := [fI 1, fI 0, .ref 15, fI ka, .ref 21]) (h_q := h) (cl_q := 0) (sl_q := 0) rfl ?_
  refine fw_add rfl ?_
  refine fw_ial (z := 1) rfl h15 (by decide +kernel) (Nat.le_of_ble_eq_true rfl) (by decide +kernel) ?_
  refine ik_Wk 0 (pc_q := 25) (loc_q := [some (.ref 17), some (fI 0)]) (st_q := [fI pa, fI ka, .ref 21]) (h_q := h) (cl_q := 0) (sl_q := 0) rfl ?_
  refine fw_call 30 3 0 [.ref 21, fI ka, fI pa] [] rfl rfl rfl (Nat.le_of_ble_eq_true rfl) rfl rfl (fw_rec hl rfl (mf_cr_o h21).choose_spec rfl (by decide +kernel)) (cs_setIn (C := 21) (pl := pl) (lo := lo) (s := s) (kd := ka) (qp := pa) (W := W) (by omega) (by omega) (by omega) h7 h21 hl) ?_
  rintro _ h_171 ⟨rfl, e_171_C, F_171⟩
  have k_171 : cL h_171 := F_171.1.trans hl
  have fr_171 := hfr_cb (hfr_refl [17, 19, 21, 22, 23, 24, 33, 34, 35, 36] h) F_171 rfl
  have g_171_7 := (hfr_g F_171 7 rfl).trans h7
  have g_171_11 := (hfr_g F_171 11 rfl).trans h11
  have g_171_12 := (hfr_g F_171 12 rfl).trans h12
  have g_171_13 := (hfr_g F_171 13 rfl).trans h13
  have g_171_15 := (hfr_g F_171 15 rfl).trans h15
  have g_171_17 := (hfr_g F_171 17 rfl).trans h17
  have g_171_18 := (hfr_g F_171 18 rfl).trans h18
  have g_171_19 := (hfr_g F_171 19 rfl).trans h19
  have g_171_33 := mf_cr_f h33 (hfr_g F_171 33 rfl) (hfr_g F_171 34 rfl) (hfr_g F_171 35 rfl) (hfr_g F_171 36 rfl)
  have g_171_21 : mf_cv h_171 21 W pl ka pa 0 := e_171_C
  refine ik_Wk 0 (pc_q := 28) (loc_q := [some (.ref 17), some (fI 0)]) (st_q := [.ref 21]) (h_q := h_171) (cl_q := 0) (sl_q := 0) rfl ?_
  refine ik_Wk 1 (pc_q := 29) (loc_q := [some (.ref 17), some (fI 0)]) (st_q := []) (h_q := h_171) (cl_q := 0) (sl_q := 0) rfl ?_
  refine ik_Wret rfl rfl ⟨_, _, rfl, rfl, ?_⟩
  refine ik_Wk 0 (pc_q := 5) (loc_q := [some (.ref 17), some (fI lim)]) (st_q := []) (h_q := h_171) (cl_q := 0) (sl_q := 0) rfl ?_
  refine ik_Wk 2 (pc_q := 7) (loc_q := [some (.ref 17), some (fI lim)]) (st_q := [fI 1, .ref 17]) (h_q := h_171) (cl_q := 0) (sl_q := 0) rfl ?_
  refine ik_Wc 78 2 0 [.ref 17, fI 1] [] rfl rfl rfl (by decide +kernel) rfl rfl (fw_rec k_171 rfl g_171_17 rfl (Nat.le_of_ble_eq_true rfl)) ?_
  refine ik_Wk 0 (pc_q := 0) (loc_q := [some (.ref 17), some (fI 1)]) (st_q := []) (h_q := h_171) (cl_q := 0) (sl_q := 0) rfl ?_
  refine ik_Wk 2 (pc_q := 2) (loc_q := [some (.ref 17), some (fI 1)]) (st_q := [fI 1, .ref 17]) (h_q := h_171) (cl_q := 0) (sl_q := 0) rfl ?_
  refine ik_Wc 77 2 0 [.ref 17, fI 1] [] rfl rfl rfl (by decide +kernel) rfl rfl (fw_rec k_171 rfl g_171_17 rfl (Nat.le_of_ble_eq_true rfl)) ?_
  refine ik_Wk 0 (pc_q := 0) (loc_q := [some (.ref 17), some (fI 1)]) (st_q := []) (h_q := h_171) (cl_q := 0) (sl_q := 0) rfl ?_
  refine ik_Wk 1 (pc_q := 1) (loc_q := [some (.ref 17), some (fI 1)]) (st_q := [.ref 17]) (h_q := h_171) (cl_q := 0) (sl_q := 0) rfl ?_
  refine fw_gf rfl rfl g_171_17 rfl ?_
  refine ik_Wk 2 (pc_q := 6) (loc_q := [some (.ref 17), some (fI 1)]) (st_q := [fI 3, fI 1, .ref 18]) (h_q := h_171) (cl_q := 0) (sl_q := 0) rfl ?_
  refine fw_mul rfl ?_
  refine fx_aal (z := 3) rfl g_171_18 (by decide +kernel) (by decide +kernel) rfl ?_
  refine ik_Wret rfl rfl ⟨_, _, rfl, rfl, ?_⟩
  refine ik_Wk 0 (pc_q := 5) (loc_q := [some (.ref 17), some (fI 1)]) (st_q := [.ref 33]) (h_q := h_171) (cl_q := 0) (sl_q := 0) rfl ?_
  refine ik_Wk 1 (pc_q := 6) (loc_q := [some (.ref 17), some (fI 1)]) (st_q := [.ref 17, .ref 33]) (h_q := h_171) (cl_q := 0) (sl_q := 0) rfl ?_
  refine fw_gf rfl rfl g_171_17 rfl ?_
  refine ik_Wk 2 (pc_q := 11) (loc_q := [some (.ref 17), some (fI 1)]) (st_q := [fI 3, fI 1, .ref 15, .ref 33]) (h_q := h_171) (cl_q := 0) (sl_q := 0) rfl ?_
  refine fw_mul rfl ?_
  refine ik_Wk 1 (pc_q := 13) (loc_q := [some (.ref 17), some (fI 1)]) (st_q := [fI 0, fI 3, .ref 15, .ref 33]) (h_q := h_171) (cl_q := 0) (sl_q := 0) rfl ?_
  refine fw_add rfl ?_
  refine fw_ial (z := 3) rfl g_171_15 (by decide +kernel) (Nat.le_of_ble_eq_true rfl) (by decide +kernel) ?_
  refine ik_Wk 0 (pc_q := 15) (loc_q := [some (.ref 17), some (fI 1)]) (st_q := [fI kb, .ref 33]) (h_q := h_171) (cl_q := 0) (sl_q := 0) rfl ?_
  refine ik_Wk 1 (pc_q := 16) (loc_q := [some (.ref 17), some (fI 1)]) (st_q := [.ref 17, fI kb, .ref 33]) (h_q := h_171) (cl_q := 0) (sl_q := 0) rfl ?_
  refine fw_gf rfl rfl g_171_17 rfl ?_
  refine ik_Wk 2 (pc_q := 21) (loc_q := [some (.ref 17), some (fI 1)]) (st_q := [fI 3, fI 1, .ref 15, fI kb, .ref 33]) (h_q := h_171) (cl_q := 0) (sl_q := 0) rfl ?_
  refine fw_mul rfl ?_
  refine ik_Wk 1 (pc_q := 23) (loc_q := [some (.ref 17), some (fI 1)]) (st_q := [fI 1, fI 3, .ref 15, fI kb, .ref 33]) (h_q := h_171) (cl_q := 0) (sl_q := 0) rfl ?_
  refine fw_add rfl ?_
  refine fw_ial (z := 4) rfl g_171_15 (by decide +kernel) (Nat.le_of_ble_eq_true rfl) (by decide +kernel) ?_
  refine ik_Wk 0 (pc_q := 25) (loc_q := [some (.ref 17), some (fI 1)]) (st_q := [fI pb, fI kb, .ref 33]) (h_q := h_171) (cl_q := 0) (sl_q := 0) rfl ?_
  refine fw_call 30 3 0 [.ref 33, fI kb, fI pb] [] rfl rfl rfl (Nat.le_of_ble_eq_true rfl) rfl rfl (fw_rec k_171 rfl (mf_cr_o g_171_33).choose_spec rfl (by decide +kernel)) (cs_setIn (C := 33) (pl := pl) (lo := lo) (s := s) (kd := kb) (qp := pb) (W := W) (by omega) (by omega) (by omega) g_171_7 g_171_33 k_171) ?_
  rintro _ h_172 ⟨rfl, e_172_C, F_172⟩
  have k_172 : cL h_172 := F_172.1.trans k_171
  have fr_172 := hfr_cb fr_171 F_172 rfl
  have g_172_7 := (hfr_g F_172 7 rfl).trans g_171_7
  have g_172_11 := (hfr_g F_172 11 rfl).trans g_171_11
  have g_172_12 := (hfr_g F_172 12 rfl).trans g_171_12
  have g_172_13 := (hfr_g F_172 13 rfl).trans g_171_13
  have g_172_15 := (hfr_g F_172 15 rfl).trans g_171_15
  have g_172_17 := (hfr_g F_172 17 rfl).trans g_171_17
  have g_172_18 := (hfr_g F_172 18 rfl).trans g_171_18
  have g_172_19 := (hfr_g F_172 19 rfl).trans g_171_19
  have g_172_21 := mf_cv_f g_171_21 (hfr_g F_172 21 rfl) (hfr_g F_172 22 rfl) (hfr_g F_172 23 rfl) (hfr_g F_172 24 rfl)
  have g_172_33 : mf_cv h_172 33 W pl kb pb 0 := e_172_C
  refine ik_Wk 0 (pc_q := 28) (loc_q := [some (.ref 17), some (fI 1)]) (st_q := [.ref 33]) (h_q := h_172) (cl_q := 0) (sl_q := 0) rfl ?_
  refine ik_Wk 1 (pc_q := 29) (loc_q := [some (.ref 17), some (fI 1)]) (st_q := []) (h_q := h_172) (cl_q := 0) (sl_q := 0) rfl ?_
  refine ik_Wret rfl rfl ⟨_, _, rfl, rfl, ?_⟩
  refine ik_Wk 0 (pc_q := 10) (loc_q := [some (.ref 17), some (fI lim)]) (st_q := []) (h_q := h_172) (cl_q := 0) (sl_q := 0) rfl ?_
  refine ik_Wk 3 (pc_q := 13) (loc_q := [some (.ref 17), some (fI lim)]) (st_q := [fI 0, .ref 17, .ref 17]) (h_q := h_172) (cl_q := 0) (sl_q := 0) rfl ?_
  refine ik_Wc 77 2 0 [.ref 17, fI 0] [.ref 17] rfl rfl rfl (by decide +kernel) rfl rfl (fw_rec k_172 rfl g_172_17 rfl (Nat.le_of_ble_eq_true rfl)) ?_
  refine ik_Wk 0 (pc_q := 0) (loc_q := [some (.ref 17), some (fI 0)]) (st_q := []) (h_q := h_172) (cl_q := 0) (sl_q := 0) rfl ?_
  refine ik_Wk 1 (pc_q := 1) (loc_q := [some (.ref 17), some (fI 0)]) (st_q := [.ref 17]) (h_q := h_172) (cl_q := 0) (sl_q := 0) rfl ?_
  refine fw_gf rfl rfl g_172_17 rfl ?_
  refine ik_Wk 2 (pc_q := 6) (loc_q := [some (.ref 17), some (fI 0)]) (st_q := [fI 3, fI 0, .ref 18]) (h_q := h_172) (cl_q := 0) (sl_q := 0) rfl ?_
  refine fw_mul rfl ?_
  refine fx_aal (z := 0) rfl g_172_18 (by decide +kernel) (by decide +kernel) rfl ?_
  refine ik_Wret rfl rfl ⟨_, _, rfl, rfl, ?_⟩
  refine ik_Wk 0 (pc_q := 16) (loc_q := [some (.ref 17), some (fI lim)]) (st_q := [.ref 21, .ref 17]) (h_q := h_172) (cl_q := 0) (sl_q := 0) rfl ?_
  refine ik_Wk 1 (pc_q := 17) (loc_q := [some (.ref 17), some (fI lim)]) (st_q := [.ref 17, .ref 21, .ref 17]) (h_q := h_172) (cl_q := 0) (sl_q := 0) rfl ?_
  refine fw_gf rfl rfl g_172_17 rfl ?_
  refine ik_Wk 1 (pc_q := 21) (loc_q := [some (.ref 17), some (fI lim)]) (st_q := [fI 2, .ref 15, .ref 21, .ref 17]) (h_q := h_172) (cl_q := 0) (sl_q := 0) rfl ?_
  refine fw_ial (z := 2) rfl g_172_15 (by decide +kernel) (Nat.le_of_ble_eq_true rfl) (by decide +kernel) ?_
  refine ik_Wk 0 (pc_q := 22) (loc_q := [some (.ref 17), some (fI lim)]) (st_q := [fI fa, .ref 21, .ref 17]) (h_q := h_172) (cl_q := 0) (sl_q := 0) rfl ?_
  refine ik_Wk 2 (pc_q := 24) (loc_q := [some (.ref 17), some (fI lim)]) (st_q := [fI 1, .ref 17, fI fa, .ref 21, .ref 17]) (h_q := h_172) (cl_q := 0) (sl_q := 0) rfl ?_
  refine ik_Wc 77 2 0 [.ref 17, fI 1] [fI fa, .ref 21, .ref 17] rfl rfl rfl (by decide +kernel) rfl rfl (fw_rec k_172 rfl g_172_17 rfl (Nat.le_of_ble_eq_true rfl)) ?_
  refine ik_Wk 0 (pc_q := 0) (loc_q := [some (.ref 17), some (fI 1)]) (st_q := []) (h_q := h_172) (cl_q := 0) (sl_q := 0) rfl ?_
  refine ik_Wk 1 (pc_q := 1) (loc_q := [some (.ref 17), some (fI 1)]) (st_q := [.ref 17]) (h_q := h_172) (cl_q := 0) (sl_q := 0) rfl ?_
  refine fw_gf rfl rfl g_172_17 rfl ?_
  refine ik_Wk 2 (pc_q := 6) (loc_q := [some (.ref 17), some (fI 1)]) (st_q := [fI 3, fI 1, .ref 18]) (h_q := h_172) (cl_q := 0) (sl_q := 0) rfl ?_
  refine fw_mul rfl ?_
  refine fx_aal (z := 3) rfl g_172_18 (by decide +kernel) (by decide +kernel) rfl ?_
  refine ik_Wret rfl rfl ⟨_, _, rfl, rfl, ?_⟩
  refine ik_Wk 0 (pc_q := 27) (loc_q := [some (.ref 17), some (fI lim)]) (st_q := [.ref 33, fI fa, .ref 21, .ref 17]) (h_q := h_172) (cl_q := 0) (sl_q := 0) rfl ?_
  refine ik_Wk 1 (pc_q := 28) (loc_q := [some (.ref 17), some (fI lim)]) (st_q := [.ref 17, .ref 33, fI fa, .ref 21, .ref 17]) (h_q := h_172) (cl_q := 0) (sl_q := 0) rfl ?_
  refine fw_gf rfl rfl g_172_17 rfl ?_
  refine ik_Wk 1 (pc_q := 32) (loc_q := [some (.ref 17), some (fI lim)]) (st_q := [fI 5, .ref 15, .ref 33, fI fa, .ref 21, .ref 17]) (h_q := h_172) (cl_q := 0) (sl_q := 0) rfl ?_
  refine fw_ial (z := 5) rfl g_172_15 (by decide +kernel) (Nat.le_of_ble_eq_true rfl) (by decide +kernel) ?_
  refine ik_Wk 0 (pc_q := 33) (loc_q := [some (.ref 17), some (fI lim)]) (st_q := [fI fb, .ref 33, fI fa, .ref 21, .ref 17]) (h_q := h_172) (cl_q := 0) (sl_q := 0) rfl ?_
  refine ik_Wk 1 (pc_q := 34) (loc_q := [some (.ref 17), some (fI lim)]) (st_q := [fI lim, fI fb, .ref 33, fI fa, .ref 21, .ref 17]) (h_q := h_172) (cl_q := 0) (sl_q := 0) rfl ?_
  refine fw_call 80 6 0 [.ref 17, .ref 21, fI fa, .ref 33, fI fb, fI lim] [] rfl rfl rfl (Nat.le_of_ble_eq_true rfl) rfl rfl (fw_rec k_172 rfl g_172_17 rfl (Nat.le_of_ble_eq_true rfl)) (cs_race (C := 21) (E := 33) (pl := pl) (lo := lo) (s := s) (ka := ka) (pa := pa) (ma := fa) (kb := kb) (pb := pb) (mb := fb) (ua := 0) (ub := 0) (lim := lim) (bo := bo) (la := la) (lb := lb) (wg := wg) (wc := wc) (we := we) (W := W) (by omega) (by omega) (by omega) (by omega) (by omega) (by omega) (by omega) q6 q7 g_172_7 g_172_11 n11 g_172_12 n12 g_172_13 n13 g_172_17 g_172_19 g_172_21 g_172_33 k_172) ?_
  rintro _ h_173 ⟨l0_173, l1_173, l2_173, ua'_173, ub'_173, rfl, e_173_17, e_173_19, e_173_C, e_173_E, p_173_0, p_173_1, F_173⟩
  have k_173 : cL h_173 := F_173.1.trans k_172
  have fr_173 := hfr_cb fr_172 F_173 rfl
  have g_173_7 := (hfr_g F_173 7 rfl).trans g_172_7
  have g_173_11 := (hfr_g F_173 11 rfl).trans g_172_11
  have g_173_12 := (hfr_g F_173 12 rfl).trans g_172_12
  have g_173_13 := (hfr_g F_173 13 rfl).trans g_172_13
  have g_173_15 := (hfr_g F_173 15 rfl).trans g_172_15
  have g_173_18 := (hfr_g F_173 18 rfl).trans g_172_18
  have g_173_17 : cE h_173 17 (.inr (8, [.ref 7, .ref 15, .ref 18, .ref 19, fJ l2_173, .ref 20])) := e_173_17
  have g_173_19 : cE h_173 19 (.inl (.long, fL [l0_173, l1_173])) := e_173_19
  have g_173_21 : mf_cv h_173 21 W pl ka pa ua'_173 := e_173_C
  have g_173_33 : mf_cv h_173 33 W pl kb pb ub'_173 := e_173_E
  refine ik_Wk 0 (pc_q := 37) (loc_q := [some (.ref 17), some (fI lim)]) (st_q := []) (h_q := h_173) (cl_q := 0) (sl_q := 0) rfl ?_
  exact ik_Wret rfl rfl ⟨_, _, rfl, rfl, rfl, rfl, ⟨l0_173, l1_173, l2_173, rfl, g_173_17, g_173_19, (mf_cv_r g_173_21), (mf_cv_r g_173_33), p_173_0, p_173_1, fr_173⟩⟩

theorem cs_firstApartL {h : List ik_E} {pl : Int} {lo : Int} {s : Nat} {kd : Int} {qp : Int} {d : Int} {bo : Int} {wg : List Int} {wc : List Int} {we : List Int} {W : Int → List (Int × Int)} (q0 : 1 ≤ pl ∧ pl ≤ 12) (q1 : 0 ≤ qp ∧ qp < pl) (q2 : 0 ≤ kd ∧ kd ≤ 2) (q3 : 1 ≤ d ∧ d ≤ 1000) (q4 : ∀ x : Int, (0 : Int) ≤ x → x < pl - 1 → mx_wy wg wc we x (W x)) (q5 : ∀ x : Int, (0 : Int) ≤ x → x < pl - 1 → mx_ok pl (W x))  : ∀ (k : Nat) (t : Int) (u0 : Int) (u1 : Int) (u : List ik_E) (u7 : cE u 7 (.inr (0, [fI pl, fI ((s : Nat) : Int), fI lo, .ref 8, .ref 9, .ref 10, .ref 11, .ref 12, .ref 13]))) (u11 : cE u 11 (.inl (.int, fA wg))) (n11 : wg.length = (60 : Nat)) (u12 : cE u 12 (.inl (.int, fA wc))) (n12 : wc.length = (60 : Nat)) (u13 : cE u 13 (.inl (.int, fA we))) (n13 : we.length = (12 : Nat)) (u21 : mf_cv u 21 W pl kd qp u0) (u25 : mf_cv u 25 W pl 0 qp u1) (ul : u.length = (94 : Nat)) (F : hfr [21, 22, 23, 24, 25, 26, 27, 28] h u) (ht : (0 : Int) ≤ t ∧ t ≤ (201 : Int)) (he : mk_kn (mf_cm W (pl - 1) kd qp) (mf_cm W (pl - 1) 0 qp) d 201 0 = mk_kn (mf_cm W (pl - 1) kd qp) (mf_cm W (pl - 1) 0 qp) d (201 - t).toNat t) (hk : 201 - t < (k : Int)), ik_G 82 29 [some (.ref 17), some (fI kd), some (fI qp), some (fI d), some (.ref 21), some (.ref 25), some (fI t)] [] u (fun rv h_q => rv = [fI (mk_kn (mf_cm W (pl - 1) kd qp) (mf_cm W (pl - 1) 0 qp) d 201 0)] ∧ mf_cr h_q 21  ∧ mf_cr h_q 25  ∧ hfr [21, 22, 23, 24, 25, 26, 27, 28] h h_q) := by
  intro k
  induction k with
  | zero => intro t u0 u1 u u7 u11 n11 u12 n12 u13 n13 u21 u25 ul F ht he hk; omega
  | succ k ih =>
    intro t u0 u1 u u7 u11 n11 u12 n12 u13 n13 u21 u25 ul F ht he hk
    refine ik_Wk 1 (pc_q := 31) (loc_q := [some (.ref 17), some (fI kd), some (fI qp), some (fI d), some (.ref 21), some (.ref 25), some (fI t)]) (st_q := [fI t]) (h_q := u) (cl_q := 0) (sl_q := 0) rfl ?_
    refine fw_si rfl (by decide +kernel) ?_
    refine fw_ic_gt rfl rfl (by omega) (by omega) (by omega) (by omega) (fun hc1 => ?_) (fun hc1 => ?_)
    · refine ik_Wk 1 (pc_q := 72) (loc_q := [some (.ref 17), some (fI kd), some (fI qp), some (fI d), some (.ref 21), some (.ref 25), some (fI t)]) (st_q := [fI (-1)]) (h_q := u) (cl_q := 0) (sl_q := 0) rfl ?_
      exact ik_Wret rfl rfl ⟨_, _, rfl, rfl, rfl, rfl, ⟨(by rw [he, show (201 - t).toNat = 0 by omega]; rfl), (mf_cv_r u21), (mf_cv_r u25), F⟩⟩
    · refine ik_Wk 2 (pc_q := 41) (loc_q := [some (.ref 17), some (fI kd), some (fI qp), some (fI d), some (.ref 21), some (.ref 25), some (fI t)]) (st_q := [fI t, .ref 21]) (h_q := u) (cl_q := 0) (sl_q := 0) rfl ?_
      refine fw_call 31 2 0 [.ref 21, fI t] [] rfl rfl rfl (Nat.le_of_ble_eq_true rfl) rfl rfl (fw_rec ul rfl (mf_cv_o u21).choose_spec rfl (by decide +kernel)) (cs_come (C := 21) (pl := pl) (lo := lo) (s := s) (t := t) (kd := kd) (qp := qp) (ut := u0) (wg := wg) (wc := wc) (we := we) (W := W) (by omega) (by omega) (by omega) (by omega) q4 q5 (by omega) u7 u11 n11 u12 n12 u13 n13 u21 ul) ?_
      rintro _ h_174 ⟨u'_174, rfl, e_174_C, p_174_0, F_174⟩
      have k_174 : cL h_174 := F_174.1.trans ul
      have fr_174 := hfr_cb F F_174 rfl
      have g_174_7 := (hfr_g F_174 7 rfl).trans u7
      have g_174_11 := (hfr_g F_174 11 rfl).trans u11
      have g_174_12 := (hfr_g F_174 12 rfl).trans u12
      have g_174_13 := (hfr_g F_174 13 rfl).trans u13
      have g_174_25 := mf_cv_f u25 (hfr_g F_174 25 rfl) (hfr_g F_174 26 rfl) (hfr_g F_174 27 rfl) (hfr_g F_174 28 rfl)
      have g_174_21 : mf_cv h_174 21 W pl kd qp u'_174 := e_174_C
      refine ik_Wk 0 (pc_q := 44) (loc_q := [some (.ref 17), some (fI kd), some (fI qp), some (fI d), some (.ref 21), some (.ref 25), some (fI t)]) (st_q := [fI (mf_ct W pl kd qp t)]) (h_q := h_174) (cl_q := 0) (sl_q := 0) rfl ?_
      have e0 : mf_ct W pl kd qp t = mf_cm W (pl - 1) kd qp t.toNat := if_pos ⟨by omega, by omega⟩
      have b0 := mf_cm_b (k := kd) q5 q1 t.toNat
      refine ik_Wk 2 (pc_q := 48) (loc_q := [some (.ref 17), some (fI kd), some (fI qp), some (fI d), some (.ref 21), some (.ref 25), some (fI t)]) (st_q := [fI t, .ref 25, fI (mf_ct W pl kd qp t)]) (h_q := h_174) (cl_q := 0) (sl_q := 0) rfl ?_
      refine fw_call 31 2 0 [.ref 25, fI t] [fI (mf_ct W pl kd qp t)] rfl rfl rfl (Nat.le_of_ble_eq_true rfl) rfl rfl (fw_rec k_174 rfl (mf_cv_o g_174_25).choose_spec rfl (by decide +kernel)) (cs_come (C := 25) (pl := pl) (lo := lo) (s := s) (t := t) (kd := 0) (qp := qp) (ut := u1) (wg := wg) (wc := wc) (we := we) (W := W) (by omega) (by omega) (by omega) (by omega) q4 q5 (by omega) g_174_7 g_174_11 n11 g_174_12 n12 g_174_13 n13 g_174_25 k_174) ?_
      rintro _ h_175 ⟨u'_175, rfl, e_175_C, p_175_0, F_175⟩
      have k_175 : cL h_175 := F_175.1.trans k_174
      have fr_175 := hfr_cb fr_174 F_175 rfl
      have g_175_7 := (hfr_g F_175 7 rfl).trans g_174_7
      have g_175_11 := (hfr_g F_175 11 rfl).trans g_174_11
      have g_175_12 := (hfr_g F_175 12 rfl).trans g_174_12
      have g_175_13 := (hfr_g F_175 13 rfl).trans g_174_13
      have g_175_21 := mf_cv_f g_174_21 (hfr_g F_175 21 rfl) (hfr_g F_175 22 rfl) (hfr_g F_175 23 rfl) (hfr_g F_175 24 rfl)
      have g_175_25 : mf_cv h_175 25 W pl 0 qp u'_175 := e_175_C
      refine ik_Wk 0 (pc_q := 51) (loc_q := [some (.ref 17), some (fI kd), some (fI qp), some (fI d), some (.ref 21), some (.ref 25), some (fI t)]) (st_q := [fI (mf_ct W pl 0 qp t), fI (mf_ct W pl kd qp t)]) (h_q := h_175) (cl_q := 0) (sl_q := 0) rfl ?_
      have e1 : mf_ct W pl 0 qp t = mf_cm W (pl - 1) 0 qp t.toNat := if_pos ⟨by omega, by omega⟩
      have b1 := mf_cm_b (k := 0) q5 q1 t.toNat
      refine fw_sub rfl ?_
      refine fx_ab rfl rfl rfl ⟨Nat.le_of_ble_eq_true rfl, Nat.le_of_ble_eq_true rfl, Nat.le_of_ble_eq_true rfl⟩ (by omega) (by omega) ?_
      intro mm2 qmm2
      have ea : mk_ab (mf_cm W (pl - 1) kd qp t.toNat - mf_cm W (pl - 1) 0 qp t.toNat) = mm2 := by unfold mk_ab; split <;> omega
      refine fw_ld 1000000 rfl rfl (by decide +kernel) ?_
      refine fx_idiv rfl (by omega) (by omega) (by omega) (by omega) ?_
      refine ik_Wk 1 (pc_q := 59) (loc_q := [some (.ref 17), some (fI kd), some (fI qp), some (fI d), some (.ref 21), some (.ref 25), some (fI t)]) (st_q := [fI d, fI (mm2 / 1000000)]) (h_q := h_175) (cl_q := 0) (sl_q := 0) rfl ?_
      refine fw_ic_lt rfl rfl (by omega) (by omega) (by omega) (by omega) (fun hc3 => ?_) (fun hc3 => ?_)
      · refine fw_inc (a := t) (loc_q := [some (.ref 17), some (fI kd), some (fI qp), some (fI d), some (.ref 21), some (.ref 25), some (fI (t + 1))]) rfl rfl (Nat.le_of_ble_eq_true rfl) rfl ?_
        refine ik_Wk 1 (pc_q := 29) (loc_q := [some (.ref 17), some (fI kd), some (fI qp), some (fI d), some (.ref 21), some (.ref 25), some (fI (t + 1))]) (st_q := []) (h_q := h_175) (cl_q := 0) (sl_q := 0) rfl ?_
        exact ih  (t + 1) u'_174 u'_175 h_175 g_175_7 g_175_11 n11 g_175_12 n12 g_175_13 n13 g_175_21 g_175_25 k_175 fr_175 (by omega) (by rw [he, mk_kn_s (by omega), if_neg (by rw [ea]; omega)]) (by omega)
      · refine ik_Wk 1 (pc_q := 64) (loc_q := [some (.ref 17), some (fI kd), some (fI qp), some (fI d), some (.ref 21), some (.ref 25), some (fI t)]) (st_q := [fI t]) (h_q := h_175) (cl_q := 0) (sl_q := 0) rfl ?_
        exact ik_Wret rfl rfl ⟨_, _, rfl, rfl, rfl, rfl, ⟨(by rw [he, mk_kn_s (by omega), if_pos (by rw [ea]; omega)]), (mf_cv_r g_175_21), (mf_cv_r g_175_25), fr_175⟩⟩

theorem cs_firstApart {h : List ik_E} {pl : Int} {lo : Int} {s : Nat} {kd : Int} {qp : Int} {d : Int} {bo : Int} {wg : List Int} {wc : List Int} {we : List Int} {W : Int → List (Int × Int)} (q0 : 1 ≤ pl ∧ pl ≤ 12) (q1 : 0 ≤ qp ∧ qp < pl) (q2 : 0 ≤ kd ∧ kd ≤ 2) (q3 : 1 ≤ d ∧ d ≤ 1000) (q4 : ∀ x : Int, (0 : Int) ≤ x → x < pl - 1 → mx_wy wg wc we x (W x)) (q5 : ∀ x : Int, (0 : Int) ≤ x → x < pl - 1 → mx_ok pl (W x)) (h7 : cE h 7 (.inr (0, [fI pl, fI ((s : Nat) : Int), fI lo, .ref 8, .ref 9, .ref 10, .ref 11, .ref 12, .ref 13]))) (h11 : cE h 11 (.inl (.int, fA wg))) (n11 : wg.length = (60 : Nat)) (h12 : cE h 12 (.inl (.int, fA wc))) (n12 : wc.length = (60 : Nat)) (h13 : cE h 13 (.inl (.int, fA we))) (n13 : we.length = (12 : Nat)) (h17 : cE h 17 (.inr (8, [.ref 7, .ref 15, .ref 18, .ref 19, fJ bo, .ref 20]))) (h18 : cE h 18 (.inl (.object "SlowerCork$Course", [.ref 21, .ref 25, .ref 29, .ref 33, .ref 37, .ref 41]))) (h21 : mf_cr h 21 ) (h25 : mf_cr h 25 ) (hl : h.length = (94 : Nat)) : ik_F 82 [.ref 17, fI kd, fI qp, fI d] h (fun rv h_q => rv = [fI (mk_kn (mf_cm W (pl - 1) kd qp) (mf_cm W (pl - 1) 0 qp) d 201 0)] ∧ mf_cr h_q 21  ∧ mf_cr h_q 25  ∧ hfr [21, 22, 23, 24, 25, 26, 27, 28] h h_q) := by
  refine ik_Wk 1 (pc_q := 1) (loc_q := [some (.ref 17), some (fI kd), some (fI qp), some (fI d), none, none, none]) (st_q := [.ref 17]) (h_q := h) (cl_q := 0) (sl_q := 0) rfl ?_
  refine fw_gf rfl rfl h17 rfl ?_
  refine ik_Wk 1 (pc_q := 5) (loc_q := [some (.ref 17), some (fI kd), some (fI qp), some (fI d), none, none, none]) (st_q := [fI 0, .ref 18]) (h_q := h) (cl_q := 0) (sl_q := 0) rfl ?_
  refine fx_aal (z := 0) rfl h18 (by decide +kernel) (by decide +kernel) rfl ?_
  refine ik_Wk 2 (pc_q := 8) (loc_q := [some (.ref 17), some (fI kd), some (fI qp), some (fI d), none, none, none]) (st_q := [fI qp, fI kd, .ref 21]) (h_q := h) (cl_q := 0) (sl_q := 0) rfl ?_
  refine fw_call 30 3 0 [.ref 21, fI kd, fI qp] [] rfl rfl rfl (Nat.le_of_ble_eq_true rfl) rfl rfl (fw_rec hl rfl (mf_cr_o h21).choose_spec rfl (by decide +kernel)) (cs_setIn (C := 21) (pl := pl) (lo := lo) (s := s) (kd := kd) (qp := qp) (W := W) (by omega) (by omega) (by omega) h7 h21 hl) ?_
  rintro _ h_176 ⟨rfl, e_176_C, F_176⟩
  have k_176 : cL h_176 := F_176.1.trans hl
  have fr_176 := hfr_cb (hfr_refl [21, 22, 23, 24, 25, 26, 27, 28] h) F_176 rfl
  have g_176_7 := (hfr_g F_176 7 rfl).trans h7
  have g_176_11 := (hfr_g F_176 11 rfl).trans h11
  have g_176_12 := (hfr_g F_176 12 rfl).trans h12
  have g_176_13 := (hfr_g F_176 13 rfl).trans h13
  have g_176_17 := (hfr_g F_176 17 rfl).trans h17
  have g_176_18 := (hfr_g F_176 18 rfl).trans h18
  have g_176_25 := mf_cr_f h25 (hfr_g F_176 25 rfl) (hfr_g F_176 26 rfl) (hfr_g F_176 27 rfl) (hfr_g F_176 28 rfl)
  have g_176_21 : mf_cv h_176 21 W pl kd qp 0 := e_176_C
  refine ik_Wk 0 (pc_q := 11) (loc_q := [some (.ref 17), some (fI kd), some (fI qp), some (fI d), none, none, none]) (st_q := [.ref 21]) (h_q := h_176) (cl_q := 0) (sl_q := 0) rfl ?_
  refine ik_Wk 2 (pc_q := 14) (loc_q := [some (.ref 17), some (fI kd), some (fI qp), some (fI d), some (.ref 21), none, none]) (st_q := [.ref 17]) (h_q := h_176) (cl_q := 0) (sl_q := 0) rfl ?_
  refine fw_gf rfl rfl g_176_17 rfl ?_
  refine ik_Wk 1 (pc_q := 18) (loc_q := [some (.ref 17), some (fI kd), some (fI qp), some (fI d), some (.ref 21), none, none]) (st_q := [fI 1, .ref 18]) (h_q := h_176) (cl_q := 0) (sl_q := 0) rfl ?_
  refine fx_aal (z := 1) rfl g_176_18 (by decide +kernel) (by decide +kernel) rfl ?_
  refine ik_Wk 2 (pc_q := 21) (loc_q := [some (.ref 17), some (fI kd), some (fI qp), some (fI d), some (.ref 21), none, none]) (st_q := [fI qp, fI 0, .ref 25]) (h_q := h_176) (cl_q := 0) (sl_q := 0) rfl ?_
  refine fw_call 30 3 0 [.ref 25, fI 0, fI qp] [] rfl rfl rfl (Nat.le_of_ble_eq_true rfl) rfl rfl (fw_rec k_176 rfl (mf_cr_o g_176_25).choose_spec rfl (by decide +kernel)) (cs_setIn (C := 25) (pl := pl) (lo := lo) (s := s) (kd := 0) (qp := qp) (W := W) (by omega) (by omega) (by omega) g_176_7 g_176_25 k_176) ?_
  rintro _ h_177 ⟨rfl, e_177_C, F_177⟩
  have k_177 : cL h_177 := F_177.1.trans k_176
  have fr_177 := hfr_cb fr_176 F_177 rfl
  have g_177_7 := (hfr_g F_177 7 rfl).trans g_176_7
  have g_177_11 := (hfr_g F_177 11 rfl).trans g_176_11
  have g_177_12 := (hfr_g F_177 12 rfl).trans g_176_12
  have g_177_13 := (hfr_g F_177 13 rfl).trans g_176_13
  have g_177_17 := (hfr_g F_177 17 rfl).trans g_176_17
  have g_177_18 := (hfr_g F_177 18 rfl).trans g_176_18
  have g_177_21 := mf_cv_f g_176_21 (hfr_g F_177 21 rfl) (hfr_g F_177 22 rfl) (hfr_g F_177 23 rfl) (hfr_g F_177 24 rfl)
  have g_177_25 : mf_cv h_177 25 W pl 0 qp 0 := e_177_C
  refine ik_Wk 0 (pc_q := 24) (loc_q := [some (.ref 17), some (fI kd), some (fI qp), some (fI d), some (.ref 21), none, none]) (st_q := [.ref 25]) (h_q := h_177) (cl_q := 0) (sl_q := 0) rfl ?_
  refine ik_Wk 3 (pc_q := 29) (loc_q := [some (.ref 17), some (fI kd), some (fI qp), some (fI d), some (.ref 21), some (.ref 25), some (fI 0)]) (st_q := []) (h_q := h_177) (cl_q := 0) (sl_q := 0) rfl ?_
  exact cs_firstApartL (pl := pl) (lo := lo) (s := s) (kd := kd) (qp := qp) (d := d) (bo := bo) (wg := wg) (wc := wc) (we := we) (W := W) q0 q1 q2 q3 q4 q5  202 0 0 0 h_177 g_177_7 g_177_11 n11 g_177_12 n12 g_177_13 n13 g_177_21 g_177_25 k_177 fr_177 (by omega) rfl (by omega)

theorem cs_fitL {h : List ik_E} {pl : Int} {lo : Int} {s : Nat} {r : Int} {rp : List Int} {rt : List Int} {wg : List Int} {wc : List Int} {we : List Int} {W : Int → List (Int × Int)} (q0 : 0 ≤ r ∧ r ≤ 12) (q1 : pl ≤ 12) (q2 : mk_rr pl r rp rt) (q3 : ∀ x : Int, (0 : Int) ≤ x → x < pl - 1 → mx_wy wg wc we x (W x)) (q4 : ∀ x : Int, (0 : Int) ≤ x → x < pl - 1 → mx_ok pl (W x))  : ∀ (k : Nat) (i : Int) (hw : Int) (x5 : Option Value) (u : List ik_E) (u7 : cE u 7 (.inr (0, [fI pl, fI ((s : Nat) : Int), fI lo, .ref 8, .ref 9, .ref 10, .ref 11, .ref 12, .ref 13]))) (u11 : cE u 11 (.inl (.int, fA wg))) (n11 : wg.length = (60 : Nat)) (u12 : cE u 12 (.inl (.int, fA wc))) (n12 : wc.length = (60 : Nat)) (u13 : cE u 13 (.inl (.int, fA we))) (n13 : we.length = (12 : Nat)) (u51 : cE u 51 (.inr (7, [.ref 7, fI r, .ref 52, .ref 53]))) (u52 : cE u 52 (.inl (.int, fA rp))) (n52 : rp.length = (12 : Nat)) (u53 : cE u 53 (.inl (.int, fA rt))) (n53 : rt.length = (12 : Nat)) (u21 : mf_cr u 21 ) (ul : u.length = (94 : Nat)) (F : hfr [21, 22, 23, 24] h u) (hi : (0 : Int) ≤ i ∧ i ≤ r) (he : hw = mk_ft (mk_J W pl rp rt) i.toNat) (w5 : ik_wl 94 x5 = true) (hk : r - i < (k : Int)), ik_G 70 7 [some (.ref 51), some (.ref 21), some (fJ hw), none, some (fI i), x5, none] [] u (fun rv h_q => rv = [fI (mk_ft (mk_J W pl rp rt) r.toNat)] ∧ mf_cr h_q 21  ∧ hfr [21, 22, 23, 24] h h_q) := by
  intro k
  induction k with
  | zero => intro i hw x5 u u7 u11 n11 u12 n12 u13 n13 u51 u52 n52 u53 n53 u21 ul F hi he w5 hk; omega
  | succ k ih =>
    intro i hw x5 u u7 u11 n11 u12 n12 u13 n13 u51 u52 n52 u53 n53 u21 ul F hi he w5 hk
    refine ik_Wk 2 (pc_q := 10) (loc_q := [some (.ref 51), some (.ref 21), some (fJ hw), none, some (fI i), x5, none]) (st_q := [.ref 51, fI i]) (h_q := u) (cl_q := 0) (sl_q := 0) rfl ?_
    refine fw_gf rfl rfl u51 rfl ?_
    refine fw_ic_ge rfl rfl (by omega) (by omega) (by omega) (by omega) (fun hc1 => ?_) (fun hc1 => ?_)
    · refine ik_Wk 1 (pc_q := 81) (loc_q := [some (.ref 51), some (.ref 21), some (fJ hw), none, some (fI i), x5, none]) (st_q := [fJ hw]) (h_q := u) (cl_q := 0) (sl_q := 0) rfl ?_
      refine fx_l2i rfl ?_
      have ei : i = r := by omega
      rw [ei] at he
      exact ik_Wret rfl rfl ⟨_, _, rfl, rfl, rfl, rfl, ⟨(congrArg (fun z => [fI z]) he), u21, F⟩⟩
    · refine ik_Wk 3 (pc_q := 19) (loc_q := [some (.ref 51), some (.ref 21), some (fJ hw), none, some (fI i), x5, none]) (st_q := [.ref 51, fI 0, .ref 21]) (h_q := u) (cl_q := 0) (sl_q := 0) rfl ?_
      refine fw_gf rfl rfl u51 rfl ?_
      refine ik_Wk 1 (pc_q := 24) (loc_q := [some (.ref 51), some (.ref 21), some (fJ hw), none, some (fI i), x5, none]) (st_q := [fI i, .ref 52, fI 0, .ref 21]) (h_q := u) (cl_q := 0) (sl_q := 0) rfl ?_
      refine fw_ial rfl u52 (by omega) (by omega) (by omega) ?_
      have hr := q2 i.toNat (by omega)
      refine fw_call 30 3 0 [.ref 21, fI 0, fI (rp.getD i.toNat 0)] [] rfl rfl rfl (Nat.le_of_ble_eq_true rfl) rfl rfl (fw_rec ul (fw_ftx rfl wv_n (wl_c rfl (wl_c rfl (wl_c rfl (wl_c rfl (wl_c rfl (wl_c w5 (wl_c rfl wl_n)))))))) (mf_cr_o u21).choose_spec rfl (by decide +kernel)) (cs_setIn (C := 21) (pl := pl) (lo := lo) (s := s) (kd := 0) (qp := rp.getD i.toNat 0) (W := W) (by omega) (by omega) (by omega) u7 u21 ul) ?_
      rintro _ h_178 ⟨rfl, e_178_C, F_178⟩
      have k_178 : cL h_178 := F_178.1.trans ul
      have fr_178 := hfr_cb F F_178 rfl
      have g_178_7 := (hfr_g F_178 7 rfl).trans u7
      have g_178_11 := (hfr_g F_178 11 rfl).trans u11
      have g_178_12 := (hfr_g F_178 12 rfl).trans u12
      have g_178_13 := (hfr_g F_178 13 rfl).trans u13
      have g_178_51 := (hfr_g F_178 51 rfl).trans u51
      have g_178_52 := (hfr_g F_178 52 rfl).trans u52
      have g_178_53 := (hfr_g F_178 53 rfl).trans u53
      have g_178_21 : mf_cv h_178 21 W pl 0 (rp.getD i.toNat 0) 0 := e_178_C
      refine ik_Wk 0 (pc_q := 28) (loc_q := [some (.ref 51), some (.ref 21), some (fJ hw), none, some (fI i), x5, none]) (st_q := [.ref 21]) (h_q := h_178) (cl_q := 0) (sl_q := 0) rfl ?_
      refine ik_Wk 3 (pc_q := 31) (loc_q := [some (.ref 51), some (.ref 21), some (fJ hw), none, some (fI i), x5, none]) (st_q := [.ref 51, .ref 21]) (h_q := h_178) (cl_q := 0) (sl_q := 0) rfl ?_
      refine fw_gf rfl rfl g_178_51 rfl ?_
      refine ik_Wk 1 (pc_q := 36) (loc_q := [some (.ref 51), some (.ref 21), some (fJ hw), none, some (fI i), x5, none]) (st_q := [fI i, .ref 53, .ref 21]) (h_q := h_178) (cl_q := 0) (sl_q := 0) rfl ?_
      refine fw_ial rfl g_178_53 (by omega) (by omega) (by omega) ?_
      refine fw_call 31 2 0 [.ref 21, fI (rt.getD i.toNat 0)] [] rfl rfl rfl (Nat.le_of_ble_eq_true rfl) rfl rfl (fw_rec k_178 (fw_ftx rfl wv_n (wl_c rfl (wl_c rfl (wl_c rfl (wl_c rfl (wl_c rfl (wl_c w5 (wl_c rfl wl_n)))))))) (mf_cv_o g_178_21).choose_spec rfl (by decide +kernel)) (cs_come (C := 21) (pl := pl) (lo := lo) (s := s) (t := rt.getD i.toNat 0) (kd := 0) (qp := (rp.getD i.toNat 0)) (ut := 0) (wg := wg) (wc := wc) (we := we) (W := W) (by omega) (by omega) (by omega) (by omega) q3 q4 (by omega) g_178_7 g_178_11 n11 g_178_12 n12 g_178_13 n13 g_178_21 k_178) ?_
      rintro _ h_179 ⟨u'_179, rfl, e_179_C, p_179_0, F_179⟩
      have k_179 : cL h_179 := F_179.1.trans k_178
      have fr_179 := hfr_cb fr_178 F_179 rfl
      have g_179_7 := (hfr_g F_179 7 rfl).trans g_178_7
      have g_179_11 := (hfr_g F_179 11 rfl).trans g_178_11
      have g_179_12 := (hfr_g F_179 12 rfl).trans g_178_12
      have g_179_13 := (hfr_g F_179 13 rfl).trans g_178_13
      have g_179_51 := (hfr_g F_179 51 rfl).trans g_178_51
      have g_179_52 := (hfr_g F_179 52 rfl).trans g_178_52
      have g_179_53 := (hfr_g F_179 53 rfl).trans g_178_53
      have g_179_21 : mf_cv h_179 21 W pl 0 (rp.getD i.toNat 0) u'_179 := e_179_C
      refine ik_Wk 0 (pc_q := 40) (loc_q := [some (.ref 51), some (.ref 21), some (fJ hw), none, some (fI i), x5, none]) (st_q := [fI (mf_ct W pl 0 (rp.getD i.toNat 0) (rt.getD i.toNat 0))]) (h_q := h_179) (cl_q := 0) (sl_q := 0) rfl ?_
      have e0 : mf_ct W pl 0 (rp.getD i.toNat 0) (rt.getD i.toNat 0) = mf_cm W (pl - 1) 0 (rp.getD i.toNat 0) (rt.getD i.toNat 0).toNat := if_pos ⟨by omega, by omega⟩
      refine ik_Wk 2 (pc_q := 42) (loc_q := [some (.ref 51), some (.ref 21), some (fJ hw), none, some (fI i), x5, none]) (st_q := [.ref 51, .ref 21, fI (mf_ct W pl 0 (rp.getD i.toNat 0) (rt.getD i.toNat 0))]) (h_q := h_179) (cl_q := 0) (sl_q := 0) rfl ?_
      refine fw_gf rfl rfl g_179_51 rfl ?_
      refine ik_Wk 1 (pc_q := 47) (loc_q := [some (.ref 51), some (.ref 21), some (fJ hw), none, some (fI i), x5, none]) (st_q := [fI i, .ref 53, .ref 21, fI (mf_ct W pl 0 (rp.getD i.toNat 0) (rt.getD i.toNat 0))]) (h_q := h_179) (cl_q := 0) (sl_q := 0) rfl ?_
      refine fw_ial rfl g_179_53 (by omega) (by omega) (by omega) ?_
      refine ik_Wk 1 (pc_q := 49) (loc_q := [some (.ref 51), some (.ref 21), some (fJ hw), none, some (fI i), x5, none]) (st_q := [fI 1, fI (rt.getD i.toNat 0), .ref 21, fI (mf_ct W pl 0 (rp.getD i.toNat 0) (rt.getD i.toNat 0))]) (h_q := h_179) (cl_q := 0) (sl_q := 0) rfl ?_
      refine fw_sub rfl ?_
      refine fw_call 31 2 0 [.ref 21, fI ((rt.getD i.toNat 0) - 1)] [fI (mf_ct W pl 0 (rp.getD i.toNat 0) (rt.getD i.toNat 0))] rfl rfl rfl (Nat.le_of_ble_eq_true rfl) rfl rfl (fw_rec k_179 (fw_ftx rfl (wv_c rfl wv_n) (wl_c rfl (wl_c rfl (wl_c rfl (wl_c rfl (wl_c rfl (wl_c w5 (wl_c rfl wl_n)))))))) (mf_cv_o g_179_21).choose_spec rfl (by decide +kernel)) (cs_come (C := 21) (pl := pl) (lo := lo) (s := s) (t := (rt.getD i.toNat 0) - 1) (kd := 0) (qp := (rp.getD i.toNat 0)) (ut := u'_179) (wg := wg) (wc := wc) (we := we) (W := W) (by omega) (by omega) (by omega) (by omega) q3 q4 (by omega) g_179_7 g_179_11 n11 g_179_12 n12 g_179_13 n13 g_179_21 k_179) ?_
      rintro _ h_180 ⟨u'_180, rfl, e_180_C, p_180_0, F_180⟩
      have k_180 : cL h_180 := F_180.1.trans k_179
      have fr_180 := hfr_cb fr_179 F_180 rfl
      have g_180_7 := (hfr_g F_180 7 rfl).trans g_179_7
      have g_180_11 := (hfr_g F_180 11 rfl).trans g_179_11
      have g_180_12 := (hfr_g F_180 12 rfl).trans g_179_12
      have g_180_13 := (hfr_g F_180 13 rfl).trans g_179_13
      have g_180_51 := (hfr_g F_180 51 rfl).trans g_179_51
      have g_180_52 := (hfr_g F_180 52 rfl).trans g_179_52
      have g_180_53 := (hfr_g F_180 53 rfl).trans g_179_53
      have g_180_21 : mf_cv h_180 21 W pl 0 (rp.getD i.toNat 0) u'_180 := e_180_C
      refine ik_Wk 0 (pc_q := 53) (loc_q := [some (.ref 51), some (.ref 21), some (fJ hw), none, some (fI i), x5, none]) (st_q := [fI (mf_ct W pl 0 (rp.getD i.toNat 0) ((rt.getD i.toNat 0) - 1)), fI (mf_ct W pl 0 (rp.getD i.toNat 0) (rt.getD i.toNat 0))]) (h_q := h_180) (cl_q := 0) (sl_q := 0) rfl ?_
      have e1 : mf_ct W pl 0 (rp.getD i.toNat 0) (rt.getD i.toNat 0 - 1) = mf_cm W (pl - 1) 0 (rp.getD i.toNat 0) (rt.getD i.toNat 0 - 1).toNat := if_pos ⟨by omega, by omega⟩
      have hJ : mk_J W pl rp rt i.toNat = mf_ct W pl 0 (rp.getD i.toNat 0) (rt.getD i.toNat 0) - mf_ct W pl 0 (rp.getD i.toNat 0) (rt.getD i.toNat 0 - 1) := by unfold mk_J; rw [e0, e1]
      have hJb := mk_J_b q4 q2 i.toNat (by omega)
      have hfb := mk_ft_b (J := mk_J W pl rp rt) i.toNat (fun j hj => mk_J_b q4 q2 j (by omega))
      have hb0 := mf_cm_b (k := 0) q4 (show 0 ≤ rp.getD i.toNat 0 ∧ rp.getD i.toNat 0 < pl by omega) (rt.getD i.toNat 0).toNat
      have hb1 := mf_cm_b (k := 0) q4 (show 0 ≤ rp.getD i.toNat 0 ∧ rp.getD i.toNat 0 < pl by omega) (rt.getD i.toNat 0 - 1).toNat
      refine fw_sub rfl ?_
      refine fw_i2l rfl (by omega) (by omega) ?_
      refine ik_Wk 1 (pc_q := 57) (loc_q := [some (.ref 51), some (.ref 21), some (fJ hw), none, some (fI i), some (fJ ((mf_ct W pl 0 (rp.getD i.toNat 0) (rt.getD i.toNat 0)) - (mf_ct W pl 0 (rp.getD i.toNat 0) ((rt.getD i.toNat 0) - 1)))), none]) (st_q := []) (h_q := h_180) (cl_q := 0) (sl_q := 0) rfl ?_
      refine fw_lc (z := 1) rfl (by decide +kernel) ?_
      refine ik_Wk 2 (pc_q := 61) (loc_q := [some (.ref 51), some (.ref 21), some (fJ hw), none, some (fI i), some (fJ ((mf_ct W pl 0 (rp.getD i.toNat 0) (rt.getD i.toNat 0)) - (mf_ct W pl 0 (rp.getD i.toNat 0) ((rt.getD i.toNat 0) - 1)))), none]) (st_q := [fJ ((mf_ct W pl 0 (rp.getD i.toNat 0) (rt.getD i.toNat 0)) - (mf_ct W pl 0 (rp.getD i.toNat 0) ((rt.getD i.toNat 0) - 1))), fJ hw, fJ 1]) (h_q := h_180) (cl_q := 0) (sl_q := 0) rfl ?_
      refine fw_l2 1000 rfl rfl (by decide +kernel) ?_
      refine fx_ldiv rfl (by omega) (by omega) (by omega) (by omega) ?_
      refine fw_lmul rfl ?_
      refine fw_l2 1000000 rfl rfl (by decide +kernel) ?_
      have hmm := mk_mul_b (v := hw) (j := (((mf_ct W pl 0 (rp.getD i.toNat 0) (rt.getD i.toNat 0)) - (mf_ct W pl 0 (rp.getD i.toNat 0) ((rt.getD i.toNat 0) - 1))) / 1000)) (by omega) (by omega) (by omega) (by omega)
      refine fx_ldiv rfl (by omega) (by omega) (by omega) (by omega) ?_
      refine fx_mx rfl rfl rfl ⟨Nat.le_of_ble_eq_true rfl, Nat.le_of_ble_eq_true rfl, Nat.le_of_ble_eq_true rfl⟩ (by omega) (by omega) (by omega) (by omega) ?_
      intro mm2 qmm2
      refine ik_Wk 1 (pc_q := 74) (loc_q := [some (.ref 51), some (.ref 21), some (fJ mm2), none, some (fI i), some (fJ ((mf_ct W pl 0 (rp.getD i.toNat 0) (rt.getD i.toNat 0)) - (mf_ct W pl 0 (rp.getD i.toNat 0) ((rt.getD i.toNat 0) - 1)))), none]) (st_q := []) (h_q := h_180) (cl_q := 0) (sl_q := 0) rfl ?_
      refine fw_inc (a := i) (loc_q := [some (.ref 51), some (.ref 21), some (fJ mm2), none, some (fI (i + 1)), some (fJ ((mf_ct W pl 0 (rp.getD i.toNat 0) (rt.getD i.toNat 0)) - (mf_ct W pl 0 (rp.getD i.toNat 0) ((rt.getD i.toNat 0) - 1)))), none]) rfl rfl (Nat.le_of_ble_eq_true rfl) rfl ?_
      refine ik_Wk 1 (pc_q := 7) (loc_q := [some (.ref 51), some (.ref 21), some (fJ mm2), none, some (fI (i + 1)), some (fJ ((mf_ct W pl 0 (rp.getD i.toNat 0) (rt.getD i.toNat 0)) - (mf_ct W pl 0 (rp.getD i.toNat 0) ((rt.getD i.toNat 0) - 1)))), none]) (st_q := []) (h_q := h_180) (cl_q := 0) (sl_q := 0) rfl ?_
      exact ih  (i + 1) mm2 (some (fJ ((mf_ct W pl 0 (rp.getD i.toNat 0) (rt.getD i.toNat 0)) - (mf_ct W pl 0 (rp.getD i.toNat 0) ((rt.getD i.toNat 0) - 1))))) h_180 g_180_7 g_180_11 n11 g_180_12 n12 g_180_13 n13 g_180_51 g_180_52 n52 g_180_53 n53 (mf_cv_r g_180_21) k_180 fr_180 (by omega) (by rw [mk_ft_s (by omega), hJ, ← he]; split <;> omega) rfl (by omega)

theorem cs_fit {h : List ik_E} {pl : Int} {lo : Int} {s : Nat} {r : Int} {rp : List Int} {rt : List Int} {wg : List Int} {wc : List Int} {we : List Int} {W : Int → List (Int × Int)} (q0 : 0 ≤ r ∧ r ≤ 12) (q1 : pl ≤ 12) (q2 : mk_rr pl r rp rt) (q3 : ∀ x : Int, (0 : Int) ≤ x → x < pl - 1 → mx_wy wg wc we x (W x)) (q4 : ∀ x : Int, (0 : Int) ≤ x → x < pl - 1 → mx_ok pl (W x)) (h7 : cE h 7 (.inr (0, [fI pl, fI ((s : Nat) : Int), fI lo, .ref 8, .ref 9, .ref 10, .ref 11, .ref 12, .ref 13]))) (h11 : cE h 11 (.inl (.int, fA wg))) (n11 : wg.length = (60 : Nat)) (h12 : cE h 12 (.inl (.int, fA wc))) (n12 : wc.length = (60 : Nat)) (h13 : cE h 13 (.inl (.int, fA we))) (n13 : we.length = (12 : Nat)) (h51 : cE h 51 (.inr (7, [.ref 7, fI r, .ref 52, .ref 53]))) (h52 : cE h 52 (.inl (.int, fA rp))) (n52 : rp.length = (12 : Nat)) (h53 : cE h 53 (.inl (.int, fA rt))) (n53 : rt.length = (12 : Nat)) (h21 : mf_cr h 21 ) (hl : h.length = (94 : Nat)) : ik_F 70 [.ref 51, .ref 21] h (fun rv h_q => rv = [fI (mk_ft (mk_J W pl rp rt) r.toNat)] ∧ mf_cr h_q 21  ∧ hfr [21, 22, 23, 24] h h_q) := by
  refine fw_l2 1000000000 rfl rfl (by decide +kernel) ?_
  refine ik_Wk 3 (pc_q := 7) (loc_q := [some (.ref 51), some (.ref 21), some (fJ 1000000000), none, some (fI 0), none, none]) (st_q := []) (h_q := h) (cl_q := 0) (sl_q := 0) rfl ?_
  exact cs_fitL (pl := pl) (lo := lo) (s := s) (r := r) (rp := rp) (rt := rt) (wg := wg) (wc := wc) (we := we) (W := W) q0 q1 q2 q3 q4  (r.toNat + 1) 0 1000000000 none h h7 h11 n11 h12 n12 h13 n13 h51 h52 n52 h53 n53 h21 hl (hfr_refl [21, 22, 23, 24] h) (by omega) rfl rfl (by omega)

theorem cs_fitOther {h : List ik_E} {p : Int} {pl : Int} {lo : Int} {s : Nat} {r : Int} {rp : List Int} {rt : List Int} {wg : List Int} {wc : List Int} {we : List Int} {cn : List Int} {go : List Int} {ch : List Int} (q0 : 0 ≤ r ∧ r ≤ 12) (q1 : 0 ≤ pl ∧ pl ≤ 12) (q2 : mk_rr pl r rp rt) (q3 : ∀ x : Int, (0 : Int) ≤ x → x < pl - 1 → mx_wy wg wc we x (mx_w cn go ch s x)) (q4 : mx_rw pl cn go ch) (q5 : True) (q6 : s < 4096) (q7 : (0 : Int) ≤ p ∧ p < pl - 1) (h7 : cE h 7 (.inr (0, [fI pl, fI ((s : Nat) : Int), fI lo, .ref 8, .ref 9, .ref 10, .ref 11, .ref 12, .ref 13]))) (h8 : cE h 8 (.inl (.int, fA cn))) (n8 : cn.length = (12 : Nat)) (h9 : cE h 9 (.inl (.int, fA go))) (n9 : go.length = (48 : Nat)) (h10 : cE h 10 (.inl (.int, fA ch))) (n10 : ch.length = (48 : Nat)) (h11 : cE h 11 (.inl (.int, fA wg))) (n11 : wg.length = (60 : Nat)) (h12 : cE h 12 (.inl (.int, fA wc))) (n12 : wc.length = (60 : Nat)) (h13 : cE h 13 (.inl (.int, fA we))) (n13 : we.length = (12 : Nat)) (h51 : cE h 51 (.inr (7, [.ref 7, fI r, .ref 52, .ref 53]))) (h52 : cE h 52 (.inl (.int, fA rp))) (n52 : rp.length = (12 : Nat)) (h53 : cE h 53 (.inl (.int, fA rt))) (n53 : rt.length = (12 : Nat)) (h21 : mf_cr h 21 ) (hl : h.length = (94 : Nat)) : ik_F 71 [.ref 51, fI p, .ref 21] h (fun rv h_q => ∃ (wg' : List Int) (wc' : List Int) (we' : List Int), rv = [fI (mk_ft (mk_J (fun x => mx_w cn go ch (s ^^^ 1 <<< p.toNat) x) pl rp rt) r.toNat)] ∧ cE h_q 7 (.inr (0, [fI pl, fI ((s : Nat) : Int), fI lo, .ref 8, .ref 9, .ref 10, .ref 11, .ref 12, .ref 13])) ∧ cE h_q 11 (.inl (.int, fA wg')) ∧ wg'.length = (60 : Nat) ∧ cE h_q 12 (.inl (.int, fA wc')) ∧ wc'.length = (60 : Nat) ∧ cE h_q 13 (.inl (.int, fA we')) ∧ we'.length = (12 : Nat) ∧ mf_cr h_q 21  ∧ (∀ x : Int, (0 : Int) ≤ x → x < pl - 1 → mx_wy wg' wc' we' x (mx_w cn go ch s x)) ∧ hfr [7, 11, 12, 13, 21, 22, 23, 24] h h_q) := by
  refine ik_Wk 1 (pc_q := 1) (loc_q := [some (.ref 51), some (fI p), some (.ref 21), none]) (st_q := [.ref 51]) (h_q := h) (cl_q := 0) (sl_q := 0) rfl ?_
  refine fw_gf rfl rfl h51 rfl ?_
  refine ik_Wk 1 (pc_q := 5) (loc_q := [some (.ref 51), some (fI p), some (.ref 21), none]) (st_q := [fI p, .ref 7]) (h_q := h) (cl_q := 0) (sl_q := 0) rfl ?_
  refine fw_call 14 2 0 [.ref 7, fI p] [] rfl rfl rfl (Nat.le_of_ble_eq_true rfl) rfl rfl (fw_rec hl rfl h7 rfl (Nat.le_of_ble_eq_true rfl)) (cs_turn (p := p) (pl := pl) (lo := lo) (s := s) (cn := cn) (go := go) (ch := ch) (wg := wg) (wc := wc) (we := we) (by omega) (by omega) q6 (by have := (q4 p (by omega) (by omega)).1; omega) (mx_rw_ch q4 p (by omega) (by omega)).2 (mx_rw_ch q4 p (by omega) (by omega)).1 h7 h8 n8 h9 n9 h10 n10 h11 n11 h12 n12 h13 n13 hl) ?_
  rintro _ h_181 ⟨wg'_181, wc'_181, rfl, e_181_7, e_181_11, m_181_11, e_181_12, m_181_12, e_181_13, m_181_13, p_181_0, p_181_1, p_181_2, F_181⟩
  have k_181 : cL h_181 := F_181.1.trans hl
  have fr_181 := hfr_cb (hfr_refl [7, 11, 12, 13, 21, 22, 23, 24] h) F_181 rfl
  have g_181_8 := (hfr_g F_181 8 rfl).trans h8
  have g_181_9 := (hfr_g F_181 9 rfl).trans h9
  have g_181_10 := (hfr_g F_181 10 rfl).trans h10
  have g_181_51 := (hfr_g F_181 51 rfl).trans h51
  have g_181_52 := (hfr_g F_181 52 rfl).trans h52
  have g_181_53 := (hfr_g F_181 53 rfl).trans h53
  have g_181_21 := mf_cr_f h21 (hfr_g F_181 21 rfl) (hfr_g F_181 22 rfl) (hfr_g F_181 23 rfl) (hfr_g F_181 24 rfl)
  have g_181_7 : cE h_181 7 (.inr (0, [fI pl, fI ((s ^^^ 1 <<< p.toNat : Nat) : Int), fI lo, .ref 8, .ref 9, .ref 10, .ref 11, .ref 12, .ref 13])) := e_181_7
  have g_181_11 : cE h_181 11 (.inl (.int, fA wg'_181)) := e_181_11
  have g_181_12 : cE h_181 12 (.inl (.int, fA wc'_181)) := e_181_12
  have g_181_13 : cE h_181 13 (.inl (.int, fA (we.set p.toNat (5 * p + ((mx_w cn go ch (s ^^^ 1 <<< p.toNat) p).length : Int))))) := e_181_13
  refine ik_Wk 0 (pc_q := 8) (loc_q := [some (.ref 51), some (fI p), some (.ref 21), none]) (st_q := []) (h_q := h_181) (cl_q := 0) (sl_q := 0) rfl ?_
  have wy_181 : ∀ x : Int, 0 ≤ x → x < pl - 1 → mx_wy wg'_181 wc'_181 (we.set p.toNat (5 * p + ((mx_w cn go ch (s ^^^ 1 <<< p.toNat) p).length : Int))) x (mx_w cn go ch (s ^^^ 1 <<< p.toNat) x) := mx_wy_one (W := (fun x => mx_w cn go ch s x)) (W' := (fun x => mx_w cn go ch (s ^^^ 1 <<< p.toNat) x)) q3 (mx_rw_ok q4 _) (by omega) (by omega) n13 p_181_0 p_181_1 p_181_2 (fun x h0 h1 hx => mx_w_tb (mx_tb_ne (by omega)))
  refine ik_Wk 2 (pc_q := 10) (loc_q := [some (.ref 51), some (fI p), some (.ref 21), none]) (st_q := [.ref 21, .ref 51]) (h_q := h_181) (cl_q := 0) (sl_q := 0) rfl ?_
  refine fw_call 70 2 0 [.ref 51, .ref 21] [] rfl rfl rfl (Nat.le_of_ble_eq_true rfl) rfl rfl (fw_rec k_181 rfl g_181_51 rfl (Nat.le_of_ble_eq_true rfl)) (cs_fit (pl := pl) (lo := lo) (s := s ^^^ 1 <<< p.toNat) (r := r) (rp := rp) (rt := rt) (wg := wg'_181) (wc := wc'_181) (we := we.set p.toNat (5 * p + ((mx_w cn go ch (s ^^^ 1 <<< p.toNat) p).length : Int))) (W := (fun x => mx_w cn go ch (s ^^^ 1 <<< p.toNat) x)) (by omega) (by omega) q2 wy_181 (mx_rw_ok q4 _) g_181_7 g_181_11 m_181_11 g_181_12 m_181_12 g_181_13 m_181_13 g_181_51 g_181_52 n52 g_181_53 n53 g_181_21 k_181) ?_
  rintro _ h_182 ⟨rfl, e_182_21, F_182⟩
  have k_182 : cL h_182 := F_182.1.trans k_181
  have fr_182 := hfr_cb fr_181 F_182 rfl
  have g_182_7 := (hfr_g F_182 7 rfl).trans g_181_7
  have g_182_8 := (hfr_g F_182 8 rfl).trans g_181_8
  have g_182_9 := (hfr_g F_182 9 rfl).trans g_181_9
  have g_182_10 := (hfr_g F_182 10 rfl).trans g_181_10
  have g_182_11 := (hfr_g F_182 11 rfl).trans g_181_11
  have g_182_12 := (hfr_g F_182 12 rfl).trans g_181_12
  have g_182_13 := (hfr_g F_182 13 rfl).trans g_181_13
  have g_182_51 := (hfr_g F_182 51 rfl).trans g_181_51
  have g_182_52 := (hfr_g F_182 52 rfl).trans g_181_52
  have g_182_53 := (hfr_g F_182 53 rfl).trans g_181_53
  have g_182_21 : mf_cr h_182 21  := e_182_21
  refine ik_Wk 0 (pc_q := 13) (loc_q := [some (.ref 51), some (fI p), some (.ref 21), none]) (st_q := [fI (mk_ft (mk_J (fun x => mx_w cn go ch (s ^^^ 1 <<< p.toNat) x) pl rp rt) r.toNat)]) (h_q := h_182) (cl_q := 0) (sl_q := 0) rfl ?_
  refine ik_Wk 2 (pc_q := 15) (loc_q := [some (.ref 51), some (fI p), some (.ref 21), some (fI (mk_ft (mk_J (fun x => mx_w cn go ch (s ^^^ 1 <<< p.toNat) x) pl rp rt) r.toNat))]) (st_q := [.ref 51]) (h_q := h_182) (cl_q := 0) (sl_q := 0) rfl ?_
  refine fw_gf rfl rfl g_182_51 rfl ?_
  refine ik_Wk 1 (pc_q := 19) (loc_q := [some (.ref 51), some (fI p), some (.ref 21), some (fI (mk_ft (mk_J (fun x => mx_w cn go ch (s ^^^ 1 <<< p.toNat) x) pl rp rt) r.toNat))]) (st_q := [fI p, .ref 7]) (h_q := h_182) (cl_q := 0) (sl_q := 0) rfl ?_
  refine fw_call 14 2 0 [.ref 7, fI p] [] rfl rfl rfl (Nat.le_of_ble_eq_true rfl) rfl rfl (fw_rec k_182 rfl g_182_7 rfl (Nat.le_of_ble_eq_true rfl)) (cs_turn (p := p) (pl := pl) (lo := lo) (s := s ^^^ 1 <<< p.toNat) (cn := cn) (go := go) (ch := ch) (wg := wg'_181) (wc := wc'_181) (we := we.set p.toNat (5 * p + ((mx_w cn go ch (s ^^^ 1 <<< p.toNat) p).length : Int))) (by omega) (by omega) (mx_xor_lt q6 (by omega)) (by have := (q4 p (by omega) (by omega)).1; omega) (mx_rw_ch q4 p (by omega) (by omega)).2 (mx_rw_ch q4 p (by omega) (by omega)).1 g_182_7 g_182_8 n8 g_182_9 n9 g_182_10 n10 g_182_11 m_181_11 g_182_12 m_181_12 g_182_13 m_181_13 k_182) ?_
  rintro _ h_183 ⟨wg'_183, wc'_183, rfl, e_183_7, e_183_11, m_183_11, e_183_12, m_183_12, e_183_13, m_183_13, p_183_0, p_183_1, p_183_2, F_183⟩
  have k_183 : cL h_183 := F_183.1.trans k_182
  have fr_183 := hfr_cb fr_182 F_183 rfl
  have g_183_8 := (hfr_g F_183 8 rfl).trans g_182_8
  have g_183_9 := (hfr_g F_183 9 rfl).trans g_182_9
  have g_183_10 := (hfr_g F_183 10 rfl).trans g_182_10
  have g_183_51 := (hfr_g F_183 51 rfl).trans g_182_51
  have g_183_52 := (hfr_g F_183 52 rfl).trans g_182_52
  have g_183_53 := (hfr_g F_183 53 rfl).trans g_182_53
  have g_183_21 := mf_cr_f g_182_21 (hfr_g F_183 21 rfl) (hfr_g F_183 22 rfl) (hfr_g F_183 23 rfl) (hfr_g F_183 24 rfl)
  have g_183_7 : cE h_183 7 (.inr (0, [fI pl, fI (((s ^^^ 1 <<< p.toNat) ^^^ 1 <<< p.toNat : Nat) : Int), fI lo, .ref 8, .ref 9, .ref 10, .ref 11, .ref 12, .ref 13])) := e_183_7
  have g_183_11 : cE h_183 11 (.inl (.int, fA wg'_183)) := e_183_11
  have g_183_12 : cE h_183 12 (.inl (.int, fA wc'_183)) := e_183_12
  have g_183_13 : cE h_183 13 (.inl (.int, fA ((we.set p.toNat (5 * p + ((mx_w cn go ch (s ^^^ 1 <<< p.toNat) p).length : Int))).set p.toNat (5 * p + ((mx_w cn go ch ((s ^^^ 1 <<< p.toNat) ^^^ 1 <<< p.toNat) p).length : Int))))) := e_183_13
  refine ik_Wk 0 (pc_q := 22) (loc_q := [some (.ref 51), some (fI p), some (.ref 21), some (fI (mk_ft (mk_J (fun x => mx_w cn go ch (s ^^^ 1 <<< p.toNat) x) pl rp rt) r.toNat))]) (st_q := []) (h_q := h_183) (cl_q := 0) (sl_q := 0) rfl ?_
  simp only [mx_xor2] at g_183_7 g_183_13 p_183_0
  have hl1 : ((we.set p.toNat (5 * p + ((mx_w cn go ch (s ^^^ 1 <<< p.toNat) p).length : Int))).set p.toNat (5 * p + ((mx_w cn go ch s p).length : Int))).length = 12 := by rw [List.length_set]; exact m_181_13
  have wy_183 : ∀ x : Int, 0 ≤ x → x < pl - 1 → mx_wy wg'_183 wc'_183 ((we.set p.toNat (5 * p + ((mx_w cn go ch (s ^^^ 1 <<< p.toNat) p).length : Int))).set p.toNat (5 * p + ((mx_w cn go ch s p).length : Int))) x (mx_w cn go ch s x) := mx_wy_one (W := (fun x => mx_w cn go ch (s ^^^ 1 <<< p.toNat) x)) (W' := (fun x => mx_w cn go ch s x)) wy_181 (mx_rw_ok q4 _) (by omega) (by omega) m_181_13 p_183_0 p_183_1 p_183_2 (fun x h0 h1 hx => (mx_w_tb (mx_tb_ne (by omega))).symm)
  refine ik_Wk 1 (pc_q := 23) (loc_q := [some (.ref 51), some (fI p), some (.ref 21), some (fI (mk_ft (mk_J (fun x => mx_w cn go ch (s ^^^ 1 <<< p.toNat) x) pl rp rt) r.toNat))]) (st_q := [fI (mk_ft (mk_J (fun x => mx_w cn go ch (s ^^^ 1 <<< p.toNat) x) pl rp rt) r.toNat)]) (h_q := h_183) (cl_q := 0) (sl_q := 0) rfl ?_
  exact ik_Wret rfl rfl ⟨_, _, rfl, rfl, rfl, rfl, ⟨wg'_183, wc'_183, ((we.set p.toNat (5 * p + ((mx_w cn go ch (s ^^^ 1 <<< p.toNat) p).length : Int))).set p.toNat (5 * p + ((mx_w cn go ch s p).length : Int))), rfl, g_183_7, g_183_11, m_183_11, g_183_12, m_183_12, g_183_13, hl1, g_183_21, wy_183, fr_183⟩⟩

theorem cs_findStoneL {h : List ik_E} {pl : Int} {lo : Int} {s : Nat} {r : Int} {rp : List Int} {rt : List Int} {wg : List Int} {wc : List Int} {we : List Int} {cn : List Int} {go : List Int} {ch : List Int} (q0 : 0 ≤ r ∧ r ≤ 12) (q1 : 0 ≤ pl ∧ pl ≤ 12) (q2 : mk_rr pl r rp rt) (q3 : ∀ x : Int, (0 : Int) ≤ x → x < pl - 1 → mx_wy wg wc we x (mx_w cn go ch s x)) (q4 : mx_rw pl cn go ch) (q5 : True) (q6 : s < 4096)  : ∀ (k : Nat) (p : Int) (g : Int) (wh : Int) (wg1 : List Int) (wc1 : List Int) (we1 : List Int) (x5 : Option Value) (u : List ik_E) (u7 : cE u 7 (.inr (0, [fI pl, fI ((s : Nat) : Int), fI lo, .ref 8, .ref 9, .ref 10, .ref 11, .ref 12, .ref 13]))) (u8 : cE u 8 (.inl (.int, fA cn))) (n8 : cn.length = (12 : Nat)) (u9 : cE u 9 (.inl (.int, fA go))) (n9 : go.length = (48 : Nat)) (u10 : cE u 10 (.inl (.int, fA ch))) (n10 : ch.length = (48 : Nat)) (u11 : cE u 11 (.inl (.int, fA wg1))) (n11 : wg1.length = (60 : Nat)) (u12 : cE u 12 (.inl (.int, fA wc1))) (n12 : wc1.length = (60 : Nat)) (u13 : cE u 13 (.inl (.int, fA we1))) (n13 : we1.length = (12 : Nat)) (u51 : cE u 51 (.inr (7, [.ref 7, fI r, .ref 52, .ref 53]))) (u52 : cE u 52 (.inl (.int, fA rp))) (n52 : rp.length = (12 : Nat)) (u53 : cE u 53 (.inl (.int, fA rt))) (n53 : rt.length = (12 : Nat)) (u21 : mf_cr u 21 ) (ul : u.length = (94 : Nat)) (F : hfr [7, 11, 12, 13, 21, 22, 23, 24] h u) (hp : (0 : Int) ≤ p ∧ (p ≤ pl - 1 ∨ p = 0)) (hg : (1 : Int) ≤ g ∧ g ≤ (1000000000 : Int)) (hy : ∀ x : Int, (0 : Int) ≤ x → x < pl - 1 → mx_wy wg1 wc1 we1 x (mx_w cn go ch s x)) (he : mk_so (mk_vs cn go ch s pl rp rt r) (pl - 1).toNat 0 (mk_ft (mk_J (fun x => mx_w cn go ch s x) pl rp rt) r.toNat) (-1) = mk_so (mk_vs cn go ch s pl rp rt r) (pl - 1 - p).toNat p g wh) (w5 : ik_wl 94 x5 = true) (hk : pl - p < (k : Int)), ik_G 72 11 [some (.ref 51), some (.ref 21), some (fI g), some (fI wh), some (fI p), x5] [] u (fun rv h_q => ∃ (wg' : List Int) (wc' : List Int) (we' : List Int), rv = [fI (mk_so (mk_vs cn go ch s pl rp rt r) (pl - 1).toNat 0 (mk_ft (mk_J (fun x => mx_w cn go ch s x) pl rp rt) r.toNat) (-1))] ∧ cE h_q 7 (.inr (0, [fI pl, fI ((s : Nat) : Int), fI lo, .ref 8, .ref 9, .ref 10, .ref 11, .ref 12, .ref 13])) ∧ cE h_q 11 (.inl (.int, fA wg')) ∧ wg'.length = (60 : Nat) ∧ cE h_q 12 (.inl (.int, fA wc')) ∧ wc'.length = (60 : Nat) ∧ cE h_q 13 (.inl (.int, fA we')) ∧ we'.length = (12 : Nat) ∧ mf_cr h_q 21  ∧ (∀ x : Int, (0 : Int) ≤ x → x < pl - 1 → mx_wy wg' wc' we' x (mx_w cn go ch s x)) ∧ hfr [7, 11, 12, 13, 21, 22, 23, 24] h h_q) := by
  intro k
  induction k with
  | zero => intro p g wh wg1 wc1 we1 x5 u u7 u8 n8 u9 n9 u10 n10 u11 n11 u12 n12 u13 n13 u51 u52 n52 u53 n53 u21 ul F hp hg hy he w5 hk; omega
  | succ k ih =>
    intro p g wh wg1 wc1 we1 x5 u u7 u8 n8 u9 n9 u10 n10 u11 n11 u12 n12 u13 n13 u51 u52 n52 u53 n53 u21 ul F hp hg hy he w5 hk
    refine ik_Wk 2 (pc_q := 14) (loc_q := [some (.ref 51), some (.ref 21), some (fI g), some (fI wh), some (fI p), x5]) (st_q := [.ref 51, fI p]) (h_q := u) (cl_q := 0) (sl_q := 0) rfl ?_
    refine fw_gf rfl rfl u51 rfl ?_
    refine ik_Wc 2 1 0 [.ref 7] [fI p] rfl rfl rfl (by decide +kernel) rfl rfl (fw_rec ul (fw_ftx rfl (wv_c rfl wv_n) (wl_c rfl (wl_c rfl (wl_c rfl (wl_c rfl (wl_c rfl (wl_c w5 wl_n))))))) u7 rfl (by decide +kernel)) ?_
    refine ik_Wk 0 (pc_q := 0) (loc_q := [some (.ref 7)]) (st_q := []) (h_q := u) (cl_q := 0) (sl_q := 0) rfl ?_
    refine ik_Wk 1 (pc_q := 1) (loc_q := [some (.ref 7)]) (st_q := [.ref 7]) (h_q := u) (cl_q := 0) (sl_q := 0) rfl ?_
    refine fw_gf rfl rfl u7 rfl ?_
    refine ik_Wk 1 (pc_q := 5) (loc_q := [some (.ref 7)]) (st_q := [fI 1, fI pl]) (h_q := u) (cl_q := 0) (sl_q := 0) rfl ?_
    refine fw_sub rfl ?_
    refine ik_Wret rfl rfl ⟨_, _, rfl, rfl, ?_⟩
    refine ik_Wk 0 (pc_q := 20) (loc_q := [some (.ref 51), some (.ref 21), some (fI g), some (fI wh), some (fI p), x5]) (st_q := [fI (pl - 1), fI p]) (h_q := u) (cl_q := 0) (sl_q := 0) rfl ?_
    refine fw_ic_ge rfl rfl (by omega) (by omega) (by omega) (by omega) (fun hc1 => ?_) (fun hc1 => ?_)
    · refine ik_Wk 1 (pc_q := 51) (loc_q := [some (.ref 51), some (.ref 21), some (fI g), some (fI wh), some (fI p), x5]) (st_q := [fI wh]) (h_q := u) (cl_q := 0) (sl_q := 0) rfl ?_
      have e0 : (pl - 1 - p).toNat = 0 := by omega
      rw [e0] at he
      exact ik_Wret rfl rfl ⟨_, _, rfl, rfl, rfl, rfl, ⟨wg1, wc1, we1, (congrArg (fun z => [fI z]) he.symm), u7, u11, n11, u12, n12, u13, n13, u21, hy, F⟩⟩
    · refine ik_Wk 3 (pc_q := 27) (loc_q := [some (.ref 51), some (.ref 21), some (fI g), some (fI wh), some (fI p), x5]) (st_q := [.ref 21, fI p, .ref 51]) (h_q := u) (cl_q := 0) (sl_q := 0) rfl ?_
      refine fw_call 71 3 0 [.ref 51, fI p, .ref 21] [] rfl rfl rfl (Nat.le_of_ble_eq_true rfl) rfl rfl (fw_rec ul (fw_ftx rfl wv_n (wl_c rfl (wl_c rfl (wl_c rfl (wl_c rfl (wl_c rfl (wl_c w5 wl_n))))))) u51 rfl (by decide +kernel)) (cs_fitOther (p := p) (pl := pl) (lo := lo) (s := s) (r := r) (rp := rp) (rt := rt) (wg := wg1) (wc := wc1) (we := we1) (cn := cn) (go := go) (ch := ch) (by omega) (by omega) q2 hy q4 q5 q6 (by omega) u7 u8 n8 u9 n9 u10 n10 u11 n11 u12 n12 u13 n13 u51 u52 n52 u53 n53 u21 ul) ?_
      rintro _ h_184 ⟨wg'_184, wc'_184, we'_184, rfl, e_184_7, e_184_11, m_184_11, e_184_12, m_184_12, e_184_13, m_184_13, e_184_21, p_184_0, F_184⟩
      have k_184 : cL h_184 := F_184.1.trans ul
      have fr_184 := hfr_cb F F_184 rfl
      have g_184_8 := (hfr_g F_184 8 rfl).trans u8
      have g_184_9 := (hfr_g F_184 9 rfl).trans u9
      have g_184_10 := (hfr_g F_184 10 rfl).trans u10
      have g_184_51 := (hfr_g F_184 51 rfl).trans u51
      have g_184_52 := (hfr_g F_184 52 rfl).trans u52
      have g_184_53 := (hfr_g F_184 53 rfl).trans u53
      have g_184_7 : cE h_184 7 (.inr (0, [fI pl, fI ((s : Nat) : Int), fI lo, .ref 8, .ref 9, .ref 10, .ref 11, .ref 12, .ref 13])) := e_184_7
      have g_184_11 : cE h_184 11 (.inl (.int, fA wg'_184)) := e_184_11
      have g_184_12 : cE h_184 12 (.inl (.int, fA wc'_184)) := e_184_12
      have g_184_13 : cE h_184 13 (.inl (.int, fA we'_184)) := e_184_13
      have g_184_21 : mf_cr h_184 21  := e_184_21
      refine ik_Wk 0 (pc_q := 30) (loc_q := [some (.ref 51), some (.ref 21), some (fI g), some (fI wh), some (fI p), x5]) (st_q := [fI (mk_ft (mk_J (fun x => mx_w cn go ch (s ^^^ 1 <<< p.toNat) x) pl rp rt) r.toNat)]) (h_q := h_184) (cl_q := 0) (sl_q := 0) rfl ?_
      have fb_184 := mk_ft_b (J := mk_J (fun x => mx_w cn go ch (s ^^^ 1 <<< p.toNat) x) pl rp rt) r.toNat (fun j hj => mk_J_b (mx_rw_ok q4 _) q2 j (by omega))
      refine ik_Wk 3 (pc_q := 35) (loc_q := [some (.ref 51), some (.ref 21), some (fI g), some (fI wh), some (fI p), some (fI (mk_ft (mk_J (fun x => mx_w cn go ch (s ^^^ 1 <<< p.toNat) x) pl rp rt) r.toNat))]) (st_q := [fI g, fI (mk_ft (mk_J (fun x => mx_w cn go ch (s ^^^ 1 <<< p.toNat) x) pl rp rt) r.toNat)]) (h_q := h_184) (cl_q := 0) (sl_q := 0) rfl ?_
      refine fw_ic_le rfl rfl (by omega) (by omega) (by omega) (by omega) (fun hc2 => ?_) (fun hc2 => ?_)
      · refine fw_inc (a := p) (loc_q := [some (.ref 51), some (.ref 21), some (fI g), some (fI wh), some (fI (p + 1)), some (fI (mk_ft (mk_J (fun x => mx_w cn go ch (s ^^^ 1 <<< p.toNat) x) pl rp rt) r.toNat))]) rfl rfl (Nat.le_of_ble_eq_true rfl) rfl ?_
        refine ik_Wk 1 (pc_q := 11) (loc_q := [some (.ref 51), some (.ref 21), some (fI g), some (fI wh), some (fI (p + 1)), some (fI (mk_ft (mk_J (fun x => mx_w cn go ch (s ^^^ 1 <<< p.toNat) x) pl rp rt) r.toNat))]) (st_q := []) (h_q := h_184) (cl_q := 0) (sl_q := 0) rfl ?_
        exact ih  (p + 1) g wh wg'_184 wc'_184 we'_184 (some (fI (mk_ft (mk_J (fun x => mx_w cn go ch (s ^^^ 1 <<< p.toNat) x) pl rp rt) r.toNat))) h_184 g_184_7 g_184_8 n8 g_184_9 n9 g_184_10 n10 g_184_11 m_184_11 g_184_12 m_184_12 g_184_13 m_184_13 g_184_51 g_184_52 n52 g_184_53 n53 g_184_21 k_184 fr_184 (by omega) (by omega) p_184_0 (by rw [he, show (pl - 1 - p).toNat = (pl - 1 - (p + 1)).toNat + 1 by omega]; show (if g < (mk_vs cn go ch s pl rp rt r) p then _ else _) = _; rw [if_neg (by show ¬ g < mk_ft (mk_J (fun x => mx_w cn go ch (s ^^^ 1 <<< p.toNat) x) pl rp rt) r.toNat; omega)]) rfl (by omega)
      · refine ik_Wk 4 (pc_q := 44) (loc_q := [some (.ref 51), some (.ref 21), some (fI (mk_ft (mk_J (fun x => mx_w cn go ch (s ^^^ 1 <<< p.toNat) x) pl rp rt) r.toNat)), some (fI p), some (fI p), some (fI (mk_ft (mk_J (fun x => mx_w cn go ch (s ^^^ 1 <<< p.toNat) x) pl rp rt) r.toNat))]) (st_q := []) (h_q := h_184) (cl_q := 0) (sl_q := 0) rfl ?_
        refine fw_inc (a := p) (loc_q := [some (.ref 51), some (.ref 21), some (fI (mk_ft (mk_J (fun x => mx_w cn go ch (s ^^^ 1 <<< p.toNat) x) pl rp rt) r.toNat)), some (fI p), some (fI (p + 1)), some (fI (mk_ft (mk_J (fun x => mx_w cn go ch (s ^^^ 1 <<< p.toNat) x) pl rp rt) r.toNat))]) rfl rfl (Nat.le_of_ble_eq_true rfl) rfl ?_
        refine ik_Wk 1 (pc_q := 11) (loc_q := [some (.ref 51), some (.ref 21), some (fI (mk_ft (mk_J (fun x => mx_w cn go ch (s ^^^ 1 <<< p.toNat) x) pl rp rt) r.toNat)), some (fI p), some (fI (p + 1)), some (fI (mk_ft (mk_J (fun x => mx_w cn go ch (s ^^^ 1 <<< p.toNat) x) pl rp rt) r.toNat))]) (st_q := []) (h_q := h_184) (cl_q := 0) (sl_q := 0) rfl ?_
        exact ih  (p + 1) (mk_ft (mk_J (fun x => mx_w cn go ch (s ^^^ 1 <<< p.toNat) x) pl rp rt) r.toNat) p wg'_184 wc'_184 we'_184 (some (fI (mk_ft (mk_J (fun x => mx_w cn go ch (s ^^^ 1 <<< p.toNat) x) pl rp rt) r.toNat))) h_184 g_184_7 g_184_8 n8 g_184_9 n9 g_184_10 n10 g_184_11 m_184_11 g_184_12 m_184_12 g_184_13 m_184_13 g_184_51 g_184_52 n52 g_184_53 n53 g_184_21 k_184 fr_184 (by omega) (by omega) p_184_0 (by rw [he, show (pl - 1 - p).toNat = (pl - 1 - (p + 1)).toNat + 1 by omega]; show (if g < (mk_vs cn go ch s pl rp rt r) p then _ else _) = _; rw [if_pos (by show g < mk_ft (mk_J (fun x => mx_w cn go ch (s ^^^ 1 <<< p.toNat) x) pl rp rt) r.toNat; omega)]; rfl) rfl (by omega)

theorem cs_findStone {h : List ik_E} {pl : Int} {lo : Int} {s : Nat} {r : Int} {rp : List Int} {rt : List Int} {wg : List Int} {wc : List Int} {we : List Int} {cn : List Int} {go : List Int} {ch : List Int} (q0 : 0 ≤ r ∧ r ≤ 12) (q1 : 0 ≤ pl ∧ pl ≤ 12) (q2 : mk_rr pl r rp rt) (q3 : ∀ x : Int, (0 : Int) ≤ x → x < pl - 1 → mx_wy wg wc we x (mx_w cn go ch s x)) (q4 : mx_rw pl cn go ch) (q5 : True) (q6 : s < 4096) (h7 : cE h 7 (.inr (0, [fI pl, fI ((s : Nat) : Int), fI lo, .ref 8, .ref 9, .ref 10, .ref 11, .ref 12, .ref 13]))) (h8 : cE h 8 (.inl (.int, fA cn))) (n8 : cn.length = (12 : Nat)) (h9 : cE h 9 (.inl (.int, fA go))) (n9 : go.length = (48 : Nat)) (h10 : cE h 10 (.inl (.int, fA ch))) (n10 : ch.length = (48 : Nat)) (h11 : cE h 11 (.inl (.int, fA wg))) (n11 : wg.length = (60 : Nat)) (h12 : cE h 12 (.inl (.int, fA wc))) (n12 : wc.length = (60 : Nat)) (h13 : cE h 13 (.inl (.int, fA we))) (n13 : we.length = (12 : Nat)) (h51 : cE h 51 (.inr (7, [.ref 7, fI r, .ref 52, .ref 53]))) (h52 : cE h 52 (.inl (.int, fA rp))) (n52 : rp.length = (12 : Nat)) (h53 : cE h 53 (.inl (.int, fA rt))) (n53 : rt.length = (12 : Nat)) (h21 : mf_cr h 21 ) (hl : h.length = (94 : Nat)) : ik_F 72 [.ref 51, .ref 21] h (fun rv h_q => ∃ (wg' : List Int) (wc' : List Int) (we' : List Int), rv = [fI (mk_so (mk_vs cn go ch s pl rp rt r) (pl - 1).toNat 0 (mk_ft (mk_J (fun x => mx_w cn go ch s x) pl rp rt) r.toNat) (-1))] ∧ cE h_q 7 (.inr (0, [fI pl, fI ((s : Nat) : Int), fI lo, .ref 8, .ref 9, .ref 10, .ref 11, .ref 12, .ref 13])) ∧ cE h_q 11 (.inl (.int, fA wg')) ∧ wg'.length = (60 : Nat) ∧ cE h_q 12 (.inl (.int, fA wc')) ∧ wc'.length = (60 : Nat) ∧ cE h_q 13 (.inl (.int, fA we')) ∧ we'.length = (12 : Nat) ∧ mf_cr h_q 21  ∧ (∀ x : Int, (0 : Int) ≤ x → x < pl - 1 → mx_wy wg' wc' we' x (mx_w cn go ch s x)) ∧ hfr [7, 11, 12, 13, 21, 22, 23, 24] h h_q) := by
  refine ik_Wk 2 (pc_q := 2) (loc_q := [some (.ref 51), some (.ref 21), none, none, none, none]) (st_q := [.ref 21, .ref 51]) (h_q := h) (cl_q := 0) (sl_q := 0) rfl ?_
  refine fw_call 70 2 0 [.ref 51, .ref 21] [] rfl rfl rfl (Nat.le_of_ble_eq_true rfl) rfl rfl (fw_rec hl rfl h51 rfl (Nat.le_of_ble_eq_true rfl)) (cs_fit (pl := pl) (lo := lo) (s := s) (r := r) (rp := rp) (rt := rt) (wg := wg) (wc := wc) (we := we) (W := (fun x => mx_w cn go ch s x)) (by omega) (by omega) q2 q3 (mx_rw_ok q4 _) h7 h11 n11 h12 n12 h13 n13 h51 h52 n52 h53 n53 h21 hl) ?_
  rintro _ h_185 ⟨rfl, e_185_21, F_185⟩
  have k_185 : cL h_185 := F_185.1.trans hl
  have fr_185 := hfr_cb (hfr_refl [7, 11, 12, 13, 21, 22, 23, 24] h) F_185 rfl
  have g_185_7 := (hfr_g F_185 7 rfl).trans h7
  have g_185_8 := (hfr_g F_185 8 rfl).trans h8
  have g_185_9 := (hfr_g F_185 9 rfl).trans h9
  have g_185_10 := (hfr_g F_185 10 rfl).trans h10
  have g_185_11 := (hfr_g F_185 11 rfl).trans h11
  have g_185_12 := (hfr_g F_185 12 rfl).trans h12
  have g_185_13 := (hfr_g F_185 13 rfl).trans h13
  have g_185_51 := (hfr_g F_185 51 rfl).trans h51
  have g_185_52 := (hfr_g F_185 52 rfl).trans h52
  have g_185_53 := (hfr_g F_185 53 rfl).trans h53
  have g_185_21 : mf_cr h_185 21  := e_185_21
  refine ik_Wk 0 (pc_q := 5) (loc_q := [some (.ref 51), some (.ref 21), none, none, none, none]) (st_q := [fI (mk_ft (mk_J (fun x => mx_w cn go ch s x) pl rp rt) r.toNat)]) (h_q := h_185) (cl_q := 0) (sl_q := 0) rfl ?_
  refine ik_Wk 5 (pc_q := 11) (loc_q := [some (.ref 51), some (.ref 21), some (fI (mk_ft (mk_J (fun x => mx_w cn go ch s x) pl rp rt) r.toNat)), some (fI (-1)), some (fI 0), none]) (st_q := []) (h_q := h_185) (cl_q := 0) (sl_q := 0) rfl ?_
  have fb := mk_ft_b (J := mk_J (fun x => mx_w cn go ch s x) pl rp rt) r.toNat (fun j hj => mk_J_b (mx_rw_ok q4 _) q2 j (by omega))
  exact cs_findStoneL (pl := pl) (lo := lo) (s := s) (r := r) (rp := rp) (rt := rt) (wg := wg) (wc := wc) (we := we) (cn := cn) (go := go) (ch := ch) q0 q1 q2 q3 q4 q5 q6  (pl.toNat + 1) 0 (mk_ft (mk_J (fun x => mx_w cn go ch s x) pl rp rt) r.toNat) (-1) wg wc we none h_185 g_185_7 g_185_8 n8 g_185_9 n9 g_185_10 n10 g_185_11 n11 g_185_12 n12 g_185_13 n13 g_185_51 g_185_52 n52 g_185_53 n53 g_185_21 k_185 fr_185 (by omega) fb q3 (by rw [Int.sub_zero]) rfl (by omega)

end

/-! 38zj.most -/
noncomputable section
/-! the class: where a stone changes most, where to set in, where to dig (written by wip/fx/u12.py) -/
theorem cs_most0L {h : List ik_E} {pl : Int} {lo : Int} {s : Nat} {ka : Int} {pa : Int} {fa : Int} {kb : Int} {pb : Int} {fb : Int} {bo : Int} {la : Int} {lb : Int} {t0 : Int} {t1 : Int} {t2 : Int} {t3 : Int} {wg : List Int} {wc : List Int} {we : List Int} {cn : List Int} {go : List Int} {ch : List Int} (q0 : 2 ≤ pl ∧ pl ≤ 12) (q1 : 0 ≤ ka ∧ ka ≤ 2 ∧ 0 ≤ kb ∧ kb ≤ 2) (q2 : 0 ≤ pa ∧ pa < pl - 1) (q3 : 0 ≤ pb ∧ pb < pl - 1) (q4 : 0 ≤ fa ∧ fa ≤ 30 ∧ 0 ≤ fb ∧ fb ≤ 30) (q5 : ∀ x : Int, (0 : Int) ≤ x → x < pl - 1 → mx_wy wg wc we x (mx_w cn go ch s x)) (q6 : mx_rw pl cn go ch) (q7 : True) (q8 : s < 4096) {nw : Int} (hnw : nw = mk_lw cn go ch s pl ka pa fa kb pb fb 0) (hnb : (0 : Int) ≤ nw ∧ nw ≤ (1000000 : Int)) : ∀ (k : Nat) (p : Int) (b : Int) (y : Int) (l0 : Int) (l1 : Int) (l2 : Int) (wg1 : List Int) (wc1 : List Int) (we1 : List Int) (x4 : Option Value) (u : List ik_E) (u7 : cE u 7 (.inr (0, [fI pl, fI ((s : Nat) : Int), fI lo, .ref 8, .ref 9, .ref 10, .ref 11, .ref 12, .ref 13]))) (u8 : cE u 8 (.inl (.int, fA cn))) (n8 : cn.length = (12 : Nat)) (u9 : cE u 9 (.inl (.int, fA go))) (n9 : go.length = (48 : Nat)) (u10 : cE u 10 (.inl (.int, fA ch))) (n10 : ch.length = (48 : Nat)) (u11 : cE u 11 (.inl (.int, fA wg1))) (n11 : wg1.length = (60 : Nat)) (u12 : cE u 12 (.inl (.int, fA wc1))) (n12 : wc1.length = (60 : Nat)) (u13 : cE u 13 (.inl (.int, fA we1))) (n13 : we1.length = (12 : Nat)) (u15 : cE u 15 (.inl (.int, fA [ka, pa, fa, kb, pb, fb]))) (u17 : cE u 17 (.inr (8, [.ref 7, .ref 15, .ref 18, .ref 19, fJ l2, .ref 20]))) (u18 : cE u 18 (.inl (.object "SlowerCork$Course", [.ref 21, .ref 25, .ref 29, .ref 33, .ref 37, .ref 41]))) (u19 : cE u 19 (.inl (.long, fL [l0, l1]))) (u20 : cE u 20 (.inl (.int, fA [b, y, -1, -1]))) (u21 : mf_cr u 21 ) (u33 : mf_cr u 33 ) (ul : u.length = (94 : Nat)) (F : hfr [7, 11, 12, 13, 17, 19, 20, 21, 22, 23, 24, 33, 34, 35, 36] h u) (hp : (0 : Int) ≤ p ∧ p ≤ pl - 1) (hyb : (-1000000 : Int) ≤ y ∧ y ≤ (1000000 : Int)) (hy : ∀ x : Int, (0 : Int) ≤ x → x < pl - 1 → mx_wy wg1 wc1 we1 x (mx_w cn go ch s x)) (he : (mk_mo (mk_vm cn go ch s pl ka pa fa kb pb fb 0) (pl - 1).toNat 0 (-1) 0) = mk_mo (mk_vm cn go ch s pl ka pa fa kb pb fb 0) (pl - 1 - p).toNat p b y) (w4 : ik_wl 94 x4 = true) (hk : pl - p < (k : Int)), ik_G 85 22 [some (.ref 17), some (fI 0), some (fI nw), some (fI p), x4] [] u (fun rv h_q => ∃ (l0 : Int) (l1 : Int) (l2 : Int) (wg' : List Int) (wc' : List Int) (we' : List Int), rv = [] ∧ cE h_q 7 (.inr (0, [fI pl, fI ((s : Nat) : Int), fI lo, .ref 8, .ref 9, .ref 10, .ref 11, .ref 12, .ref 13])) ∧ cE h_q 11 (.inl (.int, fA wg')) ∧ wg'.length = (60 : Nat) ∧ cE h_q 12 (.inl (.int, fA wc')) ∧ wc'.length = (60 : Nat) ∧ cE h_q 13 (.inl (.int, fA we')) ∧ we'.length = (12 : Nat) ∧ cE h_q 17 (.inr (8, [.ref 7, .ref 15, .ref 18, .ref 19, fJ l2, .ref 20])) ∧ cE h_q 19 (.inl (.long, fL [l0, l1])) ∧ cE h_q 20 (.inl (.int, fA [(mk_mo (mk_vm cn go ch s pl ka pa fa kb pb fb 0) (pl - 1).toNat 0 (-1) 0).1, (mk_mo (mk_vm cn go ch s pl ka pa fa kb pb fb 0) (pl - 1).toNat 0 (-1) 0).2, -1, -1])) ∧ mf_cr h_q 21  ∧ mf_cr h_q 33  ∧ (∀ x : Int, (0 : Int) ≤ x → x < pl - 1 → mx_wy wg' wc' we' x (mx_w cn go ch s x)) ∧ hfr [7, 11, 12, 13, 17, 19, 20, 21, 22, 23, 24, 33, 34, 35, 36] h h_q) := by
  intro k
  induction k with
  | zero => intro p b y l0 l1 l2 wg1 wc1 we1 x4 u u7 u8 n8 u9 n9 u10 n10 u11 n11 u12 n12 u13 n13 u15 u17 u18 u19 u20 u21 u33 ul F hp hyb hy he w4 hk; omega
  | succ k ih =>
    intro p b y l0 l1 l2 wg1 wc1 we1 x4 u u7 u8 n8 u9 n9 u10 n10 u11 n11 u12 n12 u13 n13 u15 u17 u18 u19 u20 u21 u33 ul F hp hyb hy he w4 hk
    refine ik_Wk 2 (pc_q := 24) (loc_q := [some (.ref 17), some (fI 0), some (fI nw), some (fI p), x4]) (st_q := [.ref 17, fI p]) (h_q := u) (cl_q := 0) (sl_q := 0) rfl ?_
    refine fw_gf rfl rfl u17 rfl ?_
    refine ik_Wc 2 1 0 [.ref 7] [fI p] rfl rfl rfl (by decide +kernel) rfl rfl (fw_rec ul (fw_ftx rfl (wv_c rfl wv_n) (wl_c rfl (wl_c rfl (wl_c rfl (wl_c rfl (wl_c w4 wl_n)))))) u7 rfl (by decide +kernel)) ?_
    refine ik_Wk 0 (pc_q := 0) (loc_q := [some (.ref 7)]) (st_q := []) (h_q := u) (cl_q := 0) (sl_q := 0) rfl ?_
    refine ik_Wk 1 (pc_q := 1) (loc_q := [some (.ref 7)]) (st_q := [.ref 7]) (h_q := u) (cl_q := 0) (sl_q := 0) rfl ?_
    refine fw_gf rfl rfl u7 rfl ?_
    refine ik_Wk 1 (pc_q := 5) (loc_q := [some (.ref 7)]) (st_q := [fI 1, fI pl]) (h_q := u) (cl_q := 0) (sl_q := 0) rfl ?_
    refine fw_sub rfl ?_
    refine ik_Wret rfl rfl ⟨_, _, rfl, rfl, ?_⟩
    refine ik_Wk 0 (pc_q := 30) (loc_q := [some (.ref 17), some (fI 0), some (fI nw), some (fI p), x4]) (st_q := [fI (pl - 1), fI p]) (h_q := u) (cl_q := 0) (sl_q := 0) rfl ?_
    refine fw_ic_ge rfl rfl (by omega) (by omega) (by omega) (by omega) (fun hc1 => ?_) (fun hc1 => ?_)
    · have e0 : (pl - 1 - p).toNat = 0 := by omega
      rw [e0] at he
      rw [he]
      exact ik_Wret rfl rfl ⟨_, _, rfl, rfl, rfl, rfl, ⟨l0, l1, l2, wg1, wc1, we1, rfl, u7, u11, n11, u12, n12, u13, n13, u17, u19, u20, u21, u33, hy, F⟩⟩
    · refine ik_Wk 1 (pc_q := 34) (loc_q := [some (.ref 17), some (fI 0), some (fI nw), some (fI p), x4]) (st_q := [.ref 17]) (h_q := u) (cl_q := 0) (sl_q := 0) rfl ?_
      refine fw_gf rfl rfl u17 rfl ?_
      refine ik_Wk 1 (pc_q := 38) (loc_q := [some (.ref 17), some (fI 0), some (fI nw), some (fI p), x4]) (st_q := [fI p, .ref 7]) (h_q := u) (cl_q := 0) (sl_q := 0) rfl ?_
      refine fw_call 14 2 0 [.ref 7, fI p] [] rfl rfl rfl (Nat.le_of_ble_eq_true rfl) rfl rfl (fw_rec ul (fw_ftx rfl wv_n (wl_c rfl (wl_c rfl (wl_c rfl (wl_c rfl (wl_c w4 wl_n)))))) u7 rfl (by decide +kernel)) (cs_turn (p := p) (pl := pl) (lo := lo) (s := s) (cn := cn) (go := go) (ch := ch) (wg := wg1) (wc := wc1) (we := we1) (by omega) (by omega) q8 (by have := (q6 p (by omega) (by omega)).1; omega) (mx_rw_ch q6 p (by omega) (by omega)).2 (mx_rw_ch q6 p (by omega) (by omega)).1 u7 u8 n8 u9 n9 u10 n10 u11 n11 u12 n12 u13 n13 ul) ?_
      rintro _ h_186 ⟨wg'_186, wc'_186, rfl, e_186_7, e_186_11, m_186_11, e_186_12, m_186_12, e_186_13, m_186_13, p_186_0, p_186_1, p_186_2, F_186⟩
      have k_186 : cL h_186 := F_186.1.trans ul
      have fr_186 := hfr_cb F F_186 rfl
      have g_186_8 := (hfr_g F_186 8 rfl).trans u8
      have g_186_9 := (hfr_g F_186 9 rfl).trans u9
      have g_186_10 := (hfr_g F_186 10 rfl).trans u10
      have g_186_15 := (hfr_g F_186 15 rfl).trans u15
      have g_186_17 := (hfr_g F_186 17 rfl).trans u17
      have g_186_18 := (hfr_g F_186 18 rfl).trans u18
      have g_186_19 := (hfr_g F_186 19 rfl).trans u19
      have g_186_20 := (hfr_g F_186 20 rfl).trans u20
      have g_186_21 := mf_cr_f u21 (hfr_g F_186 21 rfl) (hfr_g F_186 22 rfl) (hfr_g F_186 23 rfl) (hfr_g F_186 24 rfl)
      have g_186_33 := mf_cr_f u33 (hfr_g F_186 33 rfl) (hfr_g F_186 34 rfl) (hfr_g F_186 35 rfl) (hfr_g F_186 36 rfl)
      have g_186_7 : cE h_186 7 (.inr (0, [fI pl, fI ((s ^^^ 1 <<< p.toNat : Nat) : Int), fI lo, .ref 8, .ref 9, .ref 10, .ref 11, .ref 12, .ref 13])) := e_186_7
      have g_186_11 : cE h_186 11 (.inl (.int, fA wg'_186)) := e_186_11
      have g_186_12 : cE h_186 12 (.inl (.int, fA wc'_186)) := e_186_12
      have g_186_13 : cE h_186 13 (.inl (.int, fA (we1.set p.toNat (5 * p + ((mx_w cn go ch (s ^^^ 1 <<< p.toNat) p).length : Int))))) := e_186_13
      refine ik_Wk 0 (pc_q := 41) (loc_q := [some (.ref 17), some (fI 0), some (fI nw), some (fI p), x4]) (st_q := []) (h_q := h_186) (cl_q := 0) (sl_q := 0) rfl ?_
      have wy_186 : ∀ x : Int, 0 ≤ x → x < pl - 1 → mx_wy wg'_186 wc'_186 (we1.set p.toNat (5 * p + ((mx_w cn go ch (s ^^^ 1 <<< p.toNat) p).length : Int))) x (mx_w cn go ch (s ^^^ 1 <<< p.toNat) x) := mx_wy_one (W := (fun x => mx_w cn go ch s x)) (W' := (fun x => mx_w cn go ch (s ^^^ 1 <<< p.toNat) x)) hy (mx_rw_ok q6 _) (by omega) (by omega) n13 p_186_0 p_186_1 p_186_2 (fun x h0 h1 hx => mx_w_tb (mx_tb_ne (by omega)))
      refine ik_Wk 1 (pc_q := 42) (loc_q := [some (.ref 17), some (fI 0), some (fI nw), some (fI p), x4]) (st_q := [.ref 17]) (h_q := h_186) (cl_q := 0) (sl_q := 0) rfl ?_
      refine fw_ld 1000000 rfl rfl (by decide +kernel) ?_
      refine fw_call 79 2 0 [.ref 17, fI 1000000] [] rfl rfl rfl (Nat.le_of_ble_eq_true rfl) rfl rfl (fw_rec k_186 (fw_ftx rfl wv_n (wl_c rfl (wl_c rfl (wl_c rfl (wl_c rfl (wl_c w4 wl_n)))))) g_186_17 rfl (by decide +kernel)) (cs_raceAsSet (pl := pl) (lo := lo) (s := s ^^^ 1 <<< p.toNat) (ka := ka) (pa := pa) (fa := fa) (kb := kb) (pb := pb) (fb := fb) (lim := 1000000) (bo := l2) (la := l0) (lb := l1) (wg := wg'_186) (wc := wc'_186) (we := we1.set p.toNat (5 * p + ((mx_w cn go ch (s ^^^ 1 <<< p.toNat) p).length : Int))) (W := (fun x => mx_w cn go ch (s ^^^ 1 <<< p.toNat) x)) (by omega) (by omega) (by omega) (by omega) (by omega) (by omega) wy_186 (mx_rw_ok q6 _) g_186_7 g_186_11 m_186_11 g_186_12 m_186_12 g_186_13 m_186_13 g_186_15 g_186_17 g_186_18 g_186_19 g_186_21 g_186_33 k_186) ?_
      rintro _ h_187 ⟨l0_187, l1_187, l2_187, rfl, e_187_17, e_187_19, e_187_21, e_187_33, p_187_0, p_187_1, F_187⟩
      have k_187 : cL h_187 := F_187.1.trans k_186
      have fr_187 := hfr_cb fr_186 F_187 rfl
      have g_187_7 := (hfr_g F_187 7 rfl).trans g_186_7
      have g_187_8 := (hfr_g F_187 8 rfl).trans g_186_8
      have g_187_9 := (hfr_g F_187 9 rfl).trans g_186_9
      have g_187_10 := (hfr_g F_187 10 rfl).trans g_186_10
      have g_187_11 := (hfr_g F_187 11 rfl).trans g_186_11
      have g_187_12 := (hfr_g F_187 12 rfl).trans g_186_12
      have g_187_13 := (hfr_g F_187 13 rfl).trans g_186_13
      have g_187_15 := (hfr_g F_187 15 rfl).trans g_186_15
      have g_187_18 := (hfr_g F_187 18 rfl).trans g_186_18
      have g_187_20 := (hfr_g F_187 20 rfl).trans g_186_20
      have g_187_17 : cE h_187 17 (.inr (8, [.ref 7, .ref 15, .ref 18, .ref 19, fJ l2_187, .ref 20])) := e_187_17
      have g_187_19 : cE h_187 19 (.inl (.long, fL [l0_187, l1_187])) := e_187_19
      have g_187_21 : mf_cr h_187 21  := e_187_21
      have g_187_33 : mf_cr h_187 33  := e_187_33
      refine ik_Wk 0 (pc_q := 47) (loc_q := [some (.ref 17), some (fI 0), some (fI nw), some (fI p), x4]) (st_q := []) (h_q := h_187) (cl_q := 0) (sl_q := 0) rfl ?_
      have ka_187 := mr_ok_cm (W := (fun x => mx_w cn go ch (s ^^^ 1 <<< p.toNat) x)) (k := ka) (mx_rw_ok q6 _) q2
      have kb_187 := mr_ok_cm (W := (fun x => mx_w cn go ch (s ^^^ 1 <<< p.toNat) x)) (k := kb) (mx_rw_ok q6 _) q3
      have Fa_187 := mr_F_b ka_187 kb_187 fa (show 0 ≤ fb by omega)
      have Fb_187 := mr_F_b kb_187 ka_187 fb (show 0 ≤ fa by omega)
      have el_187 : l0_187 = mr_F0 (mf_cm (fun x => mx_w cn go ch (s ^^^ 1 <<< p.toNat) x) (pl - 1) ka pa) fa (mf_cm (fun x => mx_w cn go ch (s ^^^ 1 <<< p.toNat) x) (pl - 1) kb pb) fb ∧ l1_187 = mr_F0 (mf_cm (fun x => mx_w cn go ch (s ^^^ 1 <<< p.toNat) x) (pl - 1) kb pb) fb (mf_cm (fun x => mx_w cn go ch (s ^^^ 1 <<< p.toNat) x) (pl - 1) ka pa) fa := by
        rcases p_187_1 with e | e
        · exact ⟨e.1, e.2.1⟩
        · omega
      have ew_187 : (l0_187 / 1000 : Int) = (mr_w (mf_cm (fun x => mx_w cn go ch (s ^^^ 1 <<< p.toNat) x) (pl - 1) ka pa) fa (mf_cm (fun x => mx_w cn go ch (s ^^^ 1 <<< p.toNat) x) (pl - 1) kb pb) fb 0 : Int) := by rw [mr_w_0, el_187.1]
      have wb_187 := mr_w_b ka_187 kb_187 (show 0 ≤ fa by omega) (show 0 ≤ fb by omega) 0
      have ev : (mk_vm cn go ch s pl ka pa fa kb pb fb 0) p = (l0_187 / 1000 - nw : Int) := by show mk_lw cn go ch (s ^^^ 1 <<< p.toNat) pl ka pa fa kb pb fb 0 - mk_lw cn go ch s pl ka pa fa kb pb fb 0 = _; rw [← hnw, ew_187]; rfl
      refine ik_Wk 1 (pc_q := 48) (loc_q := [some (.ref 17), some (fI 0), some (fI nw), some (fI p), x4]) (st_q := [.ref 17]) (h_q := h_187) (cl_q := 0) (sl_q := 0) rfl ?_
      refine fw_gf rfl rfl g_187_17 rfl ?_
      refine ik_Wk 1 (pc_q := 52) (loc_q := [some (.ref 17), some (fI 0), some (fI nw), some (fI p), x4]) (st_q := [fI p, .ref 7]) (h_q := h_187) (cl_q := 0) (sl_q := 0) rfl ?_
      refine fw_call 14 2 0 [.ref 7, fI p] [] rfl rfl rfl (Nat.le_of_ble_eq_true rfl) rfl rfl (fw_rec k_187 (fw_ftx rfl wv_n (wl_c rfl (wl_c rfl (wl_c rfl (wl_c rfl (wl_c w4 wl_n)))))) g_187_7 rfl (by decide +kernel)) (cs_turn (p := p) (pl := pl) (lo := lo) (s := s ^^^ 1 <<< p.toNat) (cn := cn) (go := go) (ch := ch) (wg := wg'_186) (wc := wc'_186) (we := we1.set p.toNat (5 * p + ((mx_w cn go ch (s ^^^ 1 <<< p.toNat) p).length : Int))) (by omega) (by omega) (mx_xor_lt q8 (by omega)) (by have := (q6 p (by omega) (by omega)).1; omega) (mx_rw_ch q6 p (by omega) (by omega)).2 (mx_rw_ch q6 p (by omega) (by omega)).1 g_187_7 g_187_8 n8 g_187_9 n9 g_187_10 n10 g_187_11 m_186_11 g_187_12 m_186_12 g_187_13 m_186_13 k_187) ?_
      rintro _ h_188 ⟨wg'_188, wc'_188, rfl, e_188_7, e_188_11, m_188_11, e_188_12, m_188_12, e_188_13, m_188_13, p_188_0, p_188_1, p_188_2, F_188⟩
      have k_188 : cL h_188 := F_188.1.trans k_187
      have fr_188 := hfr_cb fr_187 F_188 rfl
      have g_188_8 := (hfr_g F_188 8 rfl).trans g_187_8
      have g_188_9 := (hfr_g F_188 9 rfl).trans g_187_9
      have g_188_10 := (hfr_g F_188 10 rfl).trans g_187_10
      have g_188_15 := (hfr_g F_188 15 rfl).trans g_187_15
      have g_188_17 := (hfr_g F_188 17 rfl).trans g_187_17
      have g_188_18 := (hfr_g F_188 18 rfl).trans g_187_18
      have g_188_19 := (hfr_g F_188 19 rfl).trans g_187_19
      have g_188_20 := (hfr_g F_188 20 rfl).trans g_187_20
      have g_188_21 := mf_cr_f g_187_21 (hfr_g F_188 21 rfl) (hfr_g F_188 22 rfl) (hfr_g F_188 23 rfl) (hfr_g F_188 24 rfl)
      have g_188_33 := mf_cr_f g_187_33 (hfr_g F_188 33 rfl) (hfr_g F_188 34 rfl) (hfr_g F_188 35 rfl) (hfr_g F_188 36 rfl)
      have g_188_7 : cE h_188 7 (.inr (0, [fI pl, fI (((s ^^^ 1 <<< p.toNat) ^^^ 1 <<< p.toNat : Nat) : Int), fI lo, .ref 8, .ref 9, .ref 10, .ref 11, .ref 12, .ref 13])) := e_188_7
      have g_188_11 : cE h_188 11 (.inl (.int, fA wg'_188)) := e_188_11
      have g_188_12 : cE h_188 12 (.inl (.int, fA wc'_188)) := e_188_12
      have g_188_13 : cE h_188 13 (.inl (.int, fA ((we1.set p.toNat (5 * p + ((mx_w cn go ch (s ^^^ 1 <<< p.toNat) p).length : Int))).set p.toNat (5 * p + ((mx_w cn go ch ((s ^^^ 1 <<< p.toNat) ^^^ 1 <<< p.toNat) p).length : Int))))) := e_188_13
      refine ik_Wk 0 (pc_q := 55) (loc_q := [some (.ref 17), some (fI 0), some (fI nw), some (fI p), x4]) (st_q := []) (h_q := h_188) (cl_q := 0) (sl_q := 0) rfl ?_
      simp only [mx_xor2] at g_188_7 g_188_13 p_188_0
      have hl2 : ((we1.set p.toNat (5 * p + ((mx_w cn go ch (s ^^^ 1 <<< p.toNat) p).length : Int))).set p.toNat (5 * p + ((mx_w cn go ch s p).length : Int))).length = 12 := by rw [List.length_set]; exact m_186_13
      have wy_188 : ∀ x : Int, 0 ≤ x → x < pl - 1 → mx_wy wg'_188 wc'_188 ((we1.set p.toNat (5 * p + ((mx_w cn go ch (s ^^^ 1 <<< p.toNat) p).length : Int))).set p.toNat (5 * p + ((mx_w cn go ch s p).length : Int))) x (mx_w cn go ch s x) := mx_wy_one (W := (fun x => mx_w cn go ch (s ^^^ 1 <<< p.toNat) x)) (W' := (fun x => mx_w cn go ch s x)) wy_186 (mx_rw_ok q6 _) (by omega) (by omega) m_186_13 p_188_0 p_188_1 p_188_2 (fun x h0 h1 hx => (mx_w_tb (mx_tb_ne (by omega))).symm)
      refine ik_Wk 2 (pc_q := 57) (loc_q := [some (.ref 17), some (fI 0), some (fI nw), some (fI p), x4]) (st_q := [fI 0, .ref 17]) (h_q := h_188) (cl_q := 0) (sl_q := 0) rfl ?_
      refine ik_Wc 74 2 0 [.ref 17, fI 0] [] rfl rfl rfl (by decide +kernel) rfl rfl (fw_rec k_188 (fw_ftx rfl wv_n (wl_c rfl (wl_c rfl (wl_c rfl (wl_c rfl (wl_c w4 wl_n)))))) g_188_17 rfl (by decide +kernel)) ?_
      refine ik_Wk 0 (pc_q := 0) (loc_q := [some (.ref 17), some (fI 0)]) (st_q := []) (h_q := h_188) (cl_q := 0) (sl_q := 0) rfl ?_
      refine ik_Wk 1 (pc_q := 1) (loc_q := [some (.ref 17), some (fI 0)]) (st_q := [.ref 17]) (h_q := h_188) (cl_q := 0) (sl_q := 0) rfl ?_
      refine fw_gf rfl rfl g_188_17 rfl ?_
      refine ik_Wk 1 (pc_q := 5) (loc_q := [some (.ref 17), some (fI 0)]) (st_q := [fI 0, .ref 19]) (h_q := h_188) (cl_q := 0) (sl_q := 0) rfl ?_
      refine fx_lal (z := 0) rfl g_188_19 (by decide +kernel) (Nat.le_of_ble_eq_true rfl) (by decide +kernel) ?_
      refine ik_Wk 0 (pc_q := 6) (loc_q := [some (.ref 17), some (fI 0)]) (st_q := [fJ l0_187]) (h_q := h_188) (cl_q := 0) (sl_q := 0) rfl ?_
      refine fw_l2 1000 rfl rfl (by decide +kernel) ?_
      refine fx_ldiv rfl (by omega) (by omega) (by omega) (by omega) ?_
      refine fx_l2i rfl ?_
      refine ik_Wret rfl rfl ⟨_, _, rfl, rfl, ?_⟩
      refine ik_Wk 0 (pc_q := 60) (loc_q := [some (.ref 17), some (fI 0), some (fI nw), some (fI p), x4]) (st_q := [fI (l0_187 / 1000)]) (h_q := h_188) (cl_q := 0) (sl_q := 0) rfl ?_
      refine ik_Wk 1 (pc_q := 61) (loc_q := [some (.ref 17), some (fI 0), some (fI nw), some (fI p), x4]) (st_q := [fI nw, fI (l0_187 / 1000)]) (h_q := h_188) (cl_q := 0) (sl_q := 0) rfl ?_
      refine fw_sub rfl ?_
      refine ik_Wk 2 (pc_q := 65) (loc_q := [some (.ref 17), some (fI 0), some (fI nw), some (fI p), some (fI ((l0_187 / 1000) - nw))]) (st_q := [fI p]) (h_q := h_188) (cl_q := 0) (sl_q := 0) rfl ?_
      refine fw_if_eq rfl rfl (by omega) (by omega) (fun hc3 => ?_) (fun hc3 => ?_)
      · refine ik_Wk 5 (pc_q := 91) (loc_q := [some (.ref 17), some (fI 0), some (fI nw), some (fI p), some (fI ((l0_187 / 1000) - nw))]) (st_q := [fI (-1), fI (-1), fI ((l0_187 / 1000) - nw), fI p, .ref 17]) (h_q := h_188) (cl_q := 0) (sl_q := 0) rfl ?_
        refine ik_Wc 88 5 0 [.ref 17, fI p, fI ((l0_187 / 1000) - nw), fI (-1), fI (-1)] [] rfl rfl rfl (by decide +kernel) rfl rfl (fw_rec k_188 rfl g_188_17 rfl (Nat.le_of_ble_eq_true rfl)) ?_
        refine ik_Wk 0 (pc_q := 0) (loc_q := [some (.ref 17), some (fI p), some (fI ((l0_187 / 1000) - nw)), some (fI (-1)), some (fI (-1))]) (st_q := []) (h_q := h_188) (cl_q := 0) (sl_q := 0) rfl ?_
        refine ik_Wk 1 (pc_q := 1) (loc_q := [some (.ref 17), some (fI p), some (fI ((l0_187 / 1000) - nw)), some (fI (-1)), some (fI (-1))]) (st_q := [.ref 17]) (h_q := h_188) (cl_q := 0) (sl_q := 0) rfl ?_
        refine fw_gf rfl rfl g_188_17 rfl ?_
        refine ik_Wk 2 (pc_q := 6) (loc_q := [some (.ref 17), some (fI p), some (fI ((l0_187 / 1000) - nw)), some (fI (-1)), some (fI (-1))]) (st_q := [fI p, fI 0, .ref 20]) (h_q := h_188) (cl_q := 0) (sl_q := 0) rfl ?_
        refine fx_ias (z := 0) rfl g_188_20 (by decide +kernel) (Nat.le_of_ble_eq_true rfl) (by decide +kernel) ?_
        intro h_189 e_189 f_189 l_189
        have k_189 : cL h_189 := l_189.trans k_188
        have fr_189 := hfr_wb fr_188 f_189 l_189 rfl
        clear l_189
        have g_189_7 := (f_189 7 (Nat.ne_of_beq_eq_false rfl)).trans g_188_7
        have g_189_8 := (f_189 8 (Nat.ne_of_beq_eq_false rfl)).trans g_188_8
        have g_189_9 := (f_189 9 (Nat.ne_of_beq_eq_false rfl)).trans g_188_9
        have g_189_10 := (f_189 10 (Nat.ne_of_beq_eq_false rfl)).trans g_188_10
        have g_189_11 := (f_189 11 (Nat.ne_of_beq_eq_false rfl)).trans g_188_11
        have g_189_12 := (f_189 12 (Nat.ne_of_beq_eq_false rfl)).trans g_188_12
        have g_189_13 := (f_189 13 (Nat.ne_of_beq_eq_false rfl)).trans g_188_13
        have g_189_15 := (f_189 15 (Nat.ne_of_beq_eq_false rfl)).trans g_188_15
        have g_189_17 := (f_189 17 (Nat.ne_of_beq_eq_false rfl)).trans g_188_17
        have g_189_18 := (f_189 18 (Nat.ne_of_beq_eq_false rfl)).trans g_188_18
        have g_189_19 := (f_189 19 (Nat.ne_of_beq_eq_false rfl)).trans g_188_19
        have g_189_21 := mf_cr_f g_188_21 (f_189 21 (Nat.ne_of_beq_eq_false rfl)) (f_189 22 (Nat.ne_of_beq_eq_false rfl)) (f_189 23 (Nat.ne_of_beq_eq_false rfl)) (f_189 24 (Nat.ne_of_beq_eq_false rfl))
        have g_189_33 := mf_cr_f g_188_33 (f_189 33 (Nat.ne_of_beq_eq_false rfl)) (f_189 34 (Nat.ne_of_beq_eq_false rfl)) (f_189 35 (Nat.ne_of_beq_eq_false rfl)) (f_189 36 (Nat.ne_of_beq_eq_false rfl))
        have g_189_20 : cE h_189 20 (.inl (.int, fA [p, y, -1, -1])) := e_189
        refine ik_Wk 1 (pc_q := 8) (loc_q := [some (.ref 17), some (fI p), some (fI ((l0_187 / 1000) - nw)), some (fI (-1)), some (fI (-1))]) (st_q := [.ref 17]) (h_q := h_189) (cl_q := 0) (sl_q := 0) rfl ?_
        refine fw_gf rfl rfl g_189_17 rfl ?_
        refine ik_Wk 2 (pc_q := 13) (loc_q := [some (.ref 17), some (fI p), some (fI ((l0_187 / 1000) - nw)), some (fI (-1)), some (fI (-1))]) (st_q := [fI ((l0_187 / 1000) - nw), fI 1, .ref 20]) (h_q := h_189) (cl_q := 0) (sl_q := 0) rfl ?_
        refine fx_ias (z := 1) rfl g_189_20 (by decide +kernel) (Nat.le_of_ble_eq_true rfl) (by decide +kernel) ?_
        intro h_190 e_190 f_190 l_190
        have k_190 : cL h_190 := l_190.trans k_189
        have fr_190 := hfr_wb fr_189 f_190 l_190 rfl
        clear l_190
        have g_190_7 := (f_190 7 (Nat.ne_of_beq_eq_false rfl)).trans g_189_7
        have g_190_8 := (f_190 8 (Nat.ne_of_beq_eq_false rfl)).trans g_189_8
        have g_190_9 := (f_190 9 (Nat.ne_of_beq_eq_false rfl)).trans g_189_9
        have g_190_10 := (f_190 10 (Nat.ne_of_beq_eq_false rfl)).trans g_189_10
        have g_190_11 := (f_190 11 (Nat.ne_of_beq_eq_false rfl)).trans g_189_11
        have g_190_12 := (f_190 12 (Nat.ne_of_beq_eq_false rfl)).trans g_189_12
        have g_190_13 := (f_190 13 (Nat.ne_of_beq_eq_false rfl)).trans g_189_13
        have g_190_15 := (f_190 15 (Nat.ne_of_beq_eq_false rfl)).trans g_189_15
        have g_190_17 := (f_190 17 (Nat.ne_of_beq_eq_false rfl)).trans g_189_17
        have g_190_18 := (f_190 18 (Nat.ne_of_beq_eq_false rfl)).trans g_189_18
        have g_190_19 := (f_190 19 (Nat.ne_of_beq_eq_false rfl)).trans g_189_19
        have g_190_21 := mf_cr_f g_189_21 (f_190 21 (Nat.ne_of_beq_eq_false rfl)) (f_190 22 (Nat.ne_of_beq_eq_false rfl)) (f_190 23 (Nat.ne_of_beq_eq_false rfl)) (f_190 24 (Nat.ne_of_beq_eq_false rfl))
        have g_190_33 := mf_cr_f g_189_33 (f_190 33 (Nat.ne_of_beq_eq_false rfl)) (f_190 34 (Nat.ne_of_beq_eq_false rfl)) (f_190 35 (Nat.ne_of_beq_eq_false rfl)) (f_190 36 (Nat.ne_of_beq_eq_false rfl))
        have g_190_20 : cE h_190 20 (.inl (.int, fA [p, (l0_187 / 1000) - nw, -1, -1])) := e_190
        refine ik_Wk 1 (pc_q := 15) (loc_q := [some (.ref 17), some (fI p), some (fI ((l0_187 / 1000) - nw)), some (fI (-1)), some (fI (-1))]) (st_q := [.ref 17]) (h_q := h_190) (cl_q := 0) (sl_q := 0) rfl ?_
        refine fw_gf rfl rfl g_190_17 rfl ?_
        refine ik_Wk 2 (pc_q := 20) (loc_q := [some (.ref 17), some (fI p), some (fI ((l0_187 / 1000) - nw)), some (fI (-1)), some (fI (-1))]) (st_q := [fI (-1), fI 2, .ref 20]) (h_q := h_190) (cl_q := 0) (sl_q := 0) rfl ?_
        refine fx_ias (z := 2) rfl g_190_20 (by decide +kernel) (Nat.le_of_ble_eq_true rfl) (by decide +kernel) ?_
        intro h_191 e_191 f_191 l_191
        have k_191 : cL h_191 := l_191.trans k_190
        have fr_191 := hfr_wb fr_190 f_191 l_191 rfl
        clear l_191
        have g_191_7 := (f_191 7 (Nat.ne_of_beq_eq_false rfl)).trans g_190_7
        have g_191_8 := (f_191 8 (Nat.ne_of_beq_eq_false rfl)).trans g_190_8
        have g_191_9 := (f_191 9 (Nat.ne_of_beq_eq_false rfl)).trans g_190_9
        have g_191_10 := (f_191 10 (Nat.ne_of_beq_eq_false rfl)).trans g_190_10
        have g_191_11 := (f_191 11 (Nat.ne_of_beq_eq_false rfl)).trans g_190_11
        have g_191_12 := (f_191 12 (Nat.ne_of_beq_eq_false rfl)).trans g_190_12
        have g_191_13 := (f_191 13 (Nat.ne_of_beq_eq_false rfl)).trans g_190_13
        have g_191_15 := (f_191 15 (Nat.ne_of_beq_eq_false rfl)).trans g_190_15
        have g_191_17 := (f_191 17 (Nat.ne_of_beq_eq_false rfl)).trans g_190_17
        have g_191_18 := (f_191 18 (Nat.ne_of_beq_eq_false rfl)).trans g_190_18
        have g_191_19 := (f_191 19 (Nat.ne_of_beq_eq_false rfl)).trans g_190_19
        have g_191_21 := mf_cr_f g_190_21 (f_191 21 (Nat.ne_of_beq_eq_false rfl)) (f_191 22 (Nat.ne_of_beq_eq_false rfl)) (f_191 23 (Nat.ne_of_beq_eq_false rfl)) (f_191 24 (Nat.ne_of_beq_eq_false rfl))
        have g_191_33 := mf_cr_f g_190_33 (f_191 33 (Nat.ne_of_beq_eq_false rfl)) (f_191 34 (Nat.ne_of_beq_eq_false rfl)) (f_191 35 (Nat.ne_of_beq_eq_false rfl)) (f_191 36 (Nat.ne_of_beq_eq_false rfl))
        have g_191_20 : cE h_191 20 (.inl (.int, fA [p, (l0_187 / 1000) - nw, -1, -1])) := e_191
        refine ik_Wk 1 (pc_q := 22) (loc_q := [some (.ref 17), some (fI p), some (fI ((l0_187 / 1000) - nw)), some (fI (-1)), some (fI (-1))]) (st_q := [.ref 17]) (h_q := h_191) (cl_q := 0) (sl_q := 0) rfl ?_
        refine fw_gf rfl rfl g_191_17 rfl ?_
        refine ik_Wk 2 (pc_q := 28) (loc_q := [some (.ref 17), some (fI p), some (fI ((l0_187 / 1000) - nw)), some (fI (-1)), some (fI (-1))]) (st_q := [fI (-1), fI 3, .ref 20]) (h_q := h_191) (cl_q := 0) (sl_q := 0) rfl ?_
        refine fx_ias (z := 3) rfl g_191_20 (by decide +kernel) (Nat.le_of_ble_eq_true rfl) (by decide +kernel) ?_
        intro h_192 e_192 f_192 l_192
        have k_192 : cL h_192 := l_192.trans k_191
        have fr_192 := hfr_wb fr_191 f_192 l_192 rfl
        clear l_192
        have g_192_7 := (f_192 7 (Nat.ne_of_beq_eq_false rfl)).trans g_191_7
        have g_192_8 := (f_192 8 (Nat.ne_of_beq_eq_false rfl)).trans g_191_8
        have g_192_9 := (f_192 9 (Nat.ne_of_beq_eq_false rfl)).trans g_191_9
        have g_192_10 := (f_192 10 (Nat.ne_of_beq_eq_false rfl)).trans g_191_10
        have g_192_11 := (f_192 11 (Nat.ne_of_beq_eq_false rfl)).trans g_191_11
        have g_192_12 := (f_192 12 (Nat.ne_of_beq_eq_false rfl)).trans g_191_12
        have g_192_13 := (f_192 13 (Nat.ne_of_beq_eq_false rfl)).trans g_191_13
        have g_192_15 := (f_192 15 (Nat.ne_of_beq_eq_false rfl)).trans g_191_15
        have g_192_17 := (f_192 17 (Nat.ne_of_beq_eq_false rfl)).trans g_191_17
        have g_192_18 := (f_192 18 (Nat.ne_of_beq_eq_false rfl)).trans g_191_18
        have g_192_19 := (f_192 19 (Nat.ne_of_beq_eq_false rfl)).trans g_191_19
        have g_192_21 := mf_cr_f g_191_21 (f_192 21 (Nat.ne_of_beq_eq_false rfl)) (f_192 22 (Nat.ne_of_beq_eq_false rfl)) (f_192 23 (Nat.ne_of_beq_eq_false rfl)) (f_192 24 (Nat.ne_of_beq_eq_false rfl))
        have g_192_33 := mf_cr_f g_191_33 (f_192 33 (Nat.ne_of_beq_eq_false rfl)) (f_192 34 (Nat.ne_of_beq_eq_false rfl)) (f_192 35 (Nat.ne_of_beq_eq_false rfl)) (f_192 36 (Nat.ne_of_beq_eq_false rfl))
        have g_192_20 : cE h_192 20 (.inl (.int, fA [p, (l0_187 / 1000) - nw, -1, -1])) := e_192
        refine ik_Wret rfl rfl ⟨_, _, rfl, rfl, ?_⟩
        refine ik_Wk 0 (pc_q := 94) (loc_q := [some (.ref 17), some (fI 0), some (fI nw), some (fI p), some (fI ((l0_187 / 1000) - nw))]) (st_q := []) (h_q := h_192) (cl_q := 0) (sl_q := 0) rfl ?_
        refine fw_inc (a := p) (loc_q := [some (.ref 17), some (fI 0), some (fI nw), some (fI (p + 1)), some (fI ((l0_187 / 1000) - nw))]) rfl rfl (Nat.le_of_ble_eq_true rfl) rfl ?_
        refine ik_Wk 1 (pc_q := 22) (loc_q := [some (.ref 17), some (fI 0), some (fI nw), some (fI (p + 1)), some (fI ((l0_187 / 1000) - nw))]) (st_q := []) (h_q := h_192) (cl_q := 0) (sl_q := 0) rfl ?_
        exact ih  (p + 1) p ((l0_187 / 1000) - nw) l0_187 l1_187 l2_187 wg'_188 wc'_188 ((we1.set p.toNat (5 * p + ((mx_w cn go ch (s ^^^ 1 <<< p.toNat) p).length : Int))).set p.toNat (5 * p + ((mx_w cn go ch s p).length : Int))) (some (fI ((l0_187 / 1000) - nw))) h_192 g_192_7 g_192_8 n8 g_192_9 n9 g_192_10 n10 g_192_11 m_188_11 g_192_12 m_188_12 g_192_13 hl2 g_192_15 g_192_17 g_192_18 g_192_19 g_192_20 g_192_21 g_192_33 k_192 fr_192 (by omega) (by omega) wy_188 (by rw [he, show (pl - 1 - p).toNat = (pl - 1 - (p + 1)).toNat + 1 by omega]; show (if p = 0 ∨ mk_ab y < mk_ab ((mk_vm cn go ch s pl ka pa fa kb pb fb 0) p) then _ else _) = _; rw [ev, if_pos (by omega)]) rfl (by omega)
      · refine ik_Wk 1 (pc_q := 70) (loc_q := [some (.ref 17), some (fI 0), some (fI nw), some (fI p), some (fI ((l0_187 / 1000) - nw))]) (st_q := [fI ((l0_187 / 1000) - nw)]) (h_q := h_188) (cl_q := 0) (sl_q := 0) rfl ?_
        refine fx_ab rfl rfl rfl ⟨Nat.le_of_ble_eq_true rfl, Nat.le_of_ble_eq_true rfl, Nat.le_of_ble_eq_true rfl⟩ (by omega) (by omega) ?_
        intro mm4 qmm4
        have ab1 : mk_ab ((l0_187 / 1000) - nw) = mm4 := by unfold mk_ab; split <;> omega
        refine ik_Wk 1 (pc_q := 74) (loc_q := [some (.ref 17), some (fI 0), some (fI nw), some (fI p), some (fI ((l0_187 / 1000) - nw))]) (st_q := [.ref 17, fI mm4]) (h_q := h_188) (cl_q := 0) (sl_q := 0) rfl ?_
        refine fw_gf rfl rfl g_188_17 rfl ?_
        refine ik_Wk 1 (pc_q := 78) (loc_q := [some (.ref 17), some (fI 0), some (fI nw), some (fI p), some (fI ((l0_187 / 1000) - nw))]) (st_q := [fI 1, .ref 20, fI mm4]) (h_q := h_188) (cl_q := 0) (sl_q := 0) rfl ?_
        refine fw_ial (z := 1) rfl g_188_20 (by decide +kernel) (Nat.le_of_ble_eq_true rfl) (by decide +kernel) ?_
        refine ik_Wk 0 (pc_q := 79) (loc_q := [some (.ref 17), some (fI 0), some (fI nw), some (fI p), some (fI ((l0_187 / 1000) - nw))]) (st_q := [fI y, fI mm4]) (h_q := h_188) (cl_q := 0) (sl_q := 0) rfl ?_
        refine fx_ab rfl rfl rfl ⟨Nat.le_of_ble_eq_true rfl, Nat.le_of_ble_eq_true rfl, Nat.le_of_ble_eq_true rfl⟩ (by omega) (by omega) ?_
        intro mm5 qmm5
        have ab0 : mk_ab y = mm5 := by unfold mk_ab; split <;> omega
        refine fw_ic_le rfl rfl (by omega) (by omega) (by omega) (by omega) (fun hc6 => ?_) (fun hc6 => ?_)
        · refine fw_inc (a := p) (loc_q := [some (.ref 17), some (fI 0), some (fI nw), some (fI (p + 1)), some (fI ((l0_187 / 1000) - nw))]) rfl rfl (Nat.le_of_ble_eq_true rfl) rfl ?_
          refine ik_Wk 1 (pc_q := 22) (loc_q := [some (.ref 17), some (fI 0), some (fI nw), some (fI (p + 1)), some (fI ((l0_187 / 1000) - nw))]) (st_q := []) (h_q := h_188) (cl_q := 0) (sl_q := 0) rfl ?_
          exact ih  (p + 1) b y l0_187 l1_187 l2_187 wg'_188 wc'_188 ((we1.set p.toNat (5 * p + ((mx_w cn go ch (s ^^^ 1 <<< p.toNat) p).length : Int))).set p.toNat (5 * p + ((mx_w cn go ch s p).length : Int))) (some (fI ((l0_187 / 1000) - nw))) h_188 g_188_7 g_188_8 n8 g_188_9 n9 g_188_10 n10 g_188_11 m_188_11 g_188_12 m_188_12 g_188_13 hl2 g_188_15 g_188_17 g_188_18 g_188_19 g_188_20 g_188_21 g_188_33 k_188 fr_188 (by omega) (by omega) wy_188 (by rw [he, show (pl - 1 - p).toNat = (pl - 1 - (p + 1)).toNat + 1 by omega]; show (if p = 0 ∨ mk_ab y < mk_ab ((mk_vm cn go ch s pl ka pa fa kb pb fb 0) p) then _ else _) = _; rw [ev, if_neg (by rw [ab0, ab1]; omega)]) rfl (by omega)
        · refine ik_Wk 5 (pc_q := 91) (loc_q := [some (.ref 17), some (fI 0), some (fI nw), some (fI p), some (fI ((l0_187 / 1000) - nw))]) (st_q := [fI (-1), fI (-1), fI ((l0_187 / 1000) - nw), fI p, .ref 17]) (h_q := h_188) (cl_q := 0) (sl_q := 0) rfl ?_
          refine ik_Wc 88 5 0 [.ref 17, fI p, fI ((l0_187 / 1000) - nw), fI (-1), fI (-1)] [] rfl rfl rfl (by decide +kernel) rfl rfl (fw_rec k_188 rfl g_188_17 rfl (Nat.le_of_ble_eq_true rfl)) ?_
          refine ik_Wk 0 (pc_q := 0) (loc_q := [some (.ref 17), some (fI p), some (fI ((l0_187 / 1000) - nw)), some (fI (-1)), some (fI (-1))]) (st_q := []) (h_q := h_188) (cl_q := 0) (sl_q := 0) rfl ?_
          refine ik_Wk 1 (pc_q := 1) (loc_q := [some (.ref 17), some (fI p), some (fI ((l0_187 / 1000) - nw)), some (fI (-1)), some (fI (-1))]) (st_q := [.ref 17]) (h_q := h_188) (cl_q := 0) (sl_q := 0) rfl ?_
          refine fw_gf rfl rfl g_188_17 rfl ?_
          refine ik_Wk 2 (pc_q := 6) (loc_q := [some (.ref 17), some (fI p), some (fI ((l0_187 / 1000) - nw)), some (fI (-1)), some (fI (-1))]) (st_q := [fI p, fI 0, .ref 20]) (h_q := h_188) (cl_q := 0) (sl_q := 0) rfl ?_
          refine fx_ias (z := 0) rfl g_188_20 (by decide +kernel) (Nat.le_of_ble_eq_true rfl) (by decide +kernel) ?_
          intro h_193 e_193 f_193 l_193
          have k_193 : cL h_193 := l_193.trans k_188
          have fr_193 := hfr_wb fr_188 f_193 l_193 rfl
          clear l_193
          have g_193_7 := (f_193 7 (Nat.ne_of_beq_eq_false rfl)).trans g_188_7
          have g_193_8 := (f_193 8 (Nat.ne_of_beq_eq_false rfl)).trans g_188_8
          have g_193_9 := (f_193 9 (Nat.ne_of_beq_eq_false rfl)).trans g_188_9
          have g_193_10 := (f_193 10 (Nat.ne_of_beq_eq_false rfl)).trans g_188_10
          have g_193_11 := (f_193 11 (Nat.ne_of_beq_eq_false rfl)).trans g_188_11
          have g_193_12 := (f_193 12 (Nat.ne_of_beq_eq_false rfl)).trans g_188_12
          have g_193_13 := (f_193 13 (Nat.ne_of_beq_eq_false rfl)).trans g_188_13
          have g_193_15 := (f_193 15 (Nat.ne_of_beq_eq_false rfl)).trans g_188_15
          have g_193_17 := (f_193 17 (Nat.ne_of_beq_eq_false rfl)).trans g_188_17
          have g_193_18 := (f_193 18 (Nat.ne_of_beq_eq_false rfl)).trans g_188_18
          have g_193_19 := (f_193 19 (Nat.ne_of_beq_eq_false rfl)).trans g_188_19
          have g_193_21 := mf_cr_f g_188_21 (f_193 21 (Nat.ne_of_beq_eq_false rfl)) (f_193 22 (Nat.ne_of_beq_eq_false rfl)) (f_193 23 (Nat.ne_of_beq_eq_false rfl)) (f_193 24 (Nat.ne_of_beq_eq_false rfl))
          have g_193_33 := mf_cr_f g_188_33 (f_193 33 (Nat.ne_of_beq_eq_false rfl)) (f_193 34 (Nat.ne_of_beq_eq_false rfl)) (f_193 35 (Nat.ne_of_beq_eq_false rfl)) (f_193 36 (Nat.ne_of_beq_eq_false rfl))
          have g_193_20 : cE h_193 20 (.inl (.int, fA [p, y, -1, -1])) := e_193
          refine ik_Wk 1 (pc_q := 8) (loc_q := [some (.ref 17), some (fI p), some (fI ((l0_187 / 1000) - nw)), some (fI (-1)), some (fI (-1))]) (st_q := [.ref 17]) (h_q := h_193) (cl_q := 0) (sl_q := 0) rfl ?_
          refine fw_gf rfl rfl g_193_17 rfl ?_
          refine ik_Wk 2 (pc_q := 13) (loc_q := [some (.ref 17), some (fI p), some (fI ((l0_187 / 1000) - nw)), some (fI (-1)), some (fI (-1))]) (st_q := [fI ((l0_187 / 1000) - nw), fI 1, .ref 20]) (h_q := h_193) (cl_q := 0) (sl_q := 0) rfl ?_
          refine fx_ias (z := 1) rfl g_193_20 (by decide +kernel) (Nat.le_of_ble_eq_true rfl) (by decide +kernel) ?_
          intro h_194 e_194 f_194 l_194
          have k_194 : cL h_194 := l_194.trans k_193
          have fr_194 := hfr_wb fr_193 f_194 l_194 rfl
          clear l_194
          have g_194_7 := (f_194 7 (Nat.ne_of_beq_eq_false rfl)).trans g_193_7
          have g_194_8 := (f_194 8 (Nat.ne_of_beq_eq_false rfl)).trans g_193_8
          have g_194_9 := (f_194 9 (Nat.ne_of_beq_eq_false rfl)).trans g_193_9
          have g_194_10 := (f_194 10 (Nat.ne_of_beq_eq_false rfl)).trans g_193_10
          have g_194_11 := (f_194 11 (Nat.ne_of_beq_eq_false rfl)).trans g_193_11
          have g_194_12 := (f_194 12 (Nat.ne_of_beq_eq_false rfl)).trans g_193_12
          have g_194_13 := (f_194 13 (Nat.ne_of_beq_eq_false rfl)).trans g_193_13
          have g_194_15 := (f_194 15 (Nat.ne_of_beq_eq_false rfl)).trans g_193_15
          have g_194_17 := (f_194 17 (Nat.ne_of_beq_eq_false rfl)).trans g_193_17
          have g_194_18 := (f_194 18 (Nat.ne_of_beq_eq_false rfl)).trans g_193_18
          have g_194_19 := (f_194 19 (Nat.ne_of_beq_eq_false rfl)).trans g_193_19
          have g_194_21 := mf_cr_f g_193_21 (f_194 21 (Nat.ne_of_beq_eq_false rfl)) (f_194 22 (Nat.ne_of_beq_eq_false rfl)) (f_194 23 (Nat.ne_of_beq_eq_false rfl)) (f_194 24 (Nat.ne_of_beq_eq_false rfl))
          have g_194_33 := mf_cr_f g_193_33 (f_194 33 (Nat.ne_of_beq_eq_false rfl)) (f_194 34 (Nat.ne_of_beq_eq_false rfl)) (f_194 35 (Nat.ne_of_beq_eq_false rfl)) (f_194 36 (Nat.ne_of_beq_eq_false rfl))
          have g_194_20 : cE h_194 20 (.inl (.int, fA [p, (l0_187 / 1000) - nw, -1, -1])) := e_194
          refine ik_Wk 1 (pc_q := 15) (loc_q := [some (.ref 17), some (fI p), some (fI ((l0_187 / 1000) - nw)), some (fI (-1)), some (fI (-1))]) (st_q := [.ref 17]) (h_q := h_194) (cl_q := 0) (sl_q := 0) rfl ?_
          refine fw_gf rfl rfl g_194_17 rfl ?_
          refine ik_Wk 2 (pc_q := 20) (loc_q := [some (.ref 17), some (fI p), some (fI ((l0_187 / 1000) - nw)), some (fI (-1)), some (fI (-1))]) (st_q := [fI (-1), fI 2, .ref 20]) (h_q := h_194) (cl_q := 0) (sl_q := 0) rfl ?_
          refine fx_ias (z := 2) rfl g_194_20 (by decide +kernel) (Nat.le_of_ble_eq_true rfl) (by decide +kernel) ?_
          intro h_195 e_195 f_195 l_195
          have k_195 : cL h_195 := l_195.trans k_194
          have fr_195 := hfr_wb fr_194 f_195 l_195 rfl
          clear l_195
          have g_195_7 := (f_195 7 (Nat.ne_of_beq_eq_false rfl)).trans g_194_7
          have g_195_8 := (f_195 8 (Nat.ne_of_beq_eq_false rfl)).trans g_194_8
          have g_195_9 := (f_195 9 (Nat.ne_of_beq_eq_false rfl)).trans g_194_9
          have g_195_10 := (f_195 10 (Nat.ne_of_beq_eq_false rfl)).trans g_194_10
          have g_195_11 := (f_195 11 (Nat.ne_of_beq_eq_false rfl)).trans g_194_11
          have g_195_12 := (f_195 12 (Nat.ne_of_beq_eq_false rfl)).trans g_194_12
          have g_195_13 := (f_195 13 (Nat.ne_of_beq_eq_false rfl)).trans g_194_13
          have g_195_15 := (f_195 15 (Nat.ne_of_beq_eq_false rfl)).trans g_194_15
          have g_195_17 := (f_195 17 (Nat.ne_of_beq_eq_false rfl)).trans g_194_17
          have g_195_18 := (f_195 18 (Nat.ne_of_beq_eq_false rfl)).trans g_194_18
          have g_195_19 := (f_195 19 (Nat.ne_of_beq_eq_false rfl)).trans g_194_19
          have g_195_21 := mf_cr_f g_194_21 (f_195 21 (Nat.ne_of_beq_eq_false rfl)) (f_195 22 (Nat.ne_of_beq_eq_false rfl)) (f_195 23 (Nat.ne_of_beq_eq_false rfl)) (f_195 24 (Nat.ne_of_beq_eq_false rfl))
          have g_195_33 := mf_cr_f g_194_33 (f_195 33 (Nat.ne_of_beq_eq_false rfl)) (f_195 34 (Nat.ne_of_beq_eq_false rfl)) (f_195 35 (Nat.ne_of_beq_eq_false rfl)) (f_195 36 (Nat.ne_of_beq_eq_false rfl))
          have g_195_20 : cE h_195 20 (.inl (.int, fA [p, (l0_187 / 1000) - nw, -1, -1])) := e_195
          refine ik_Wk 1 (pc_q := 22) (loc_q := [some (.ref 17), some (fI p), some (fI ((l0_187 / 1000) - nw)), some (fI (-1)), some (fI (-1))]) (st_q := [.ref 17]) (h_q := h_195) (cl_q := 0) (sl_q := 0) rfl ?_
          refine fw_gf rfl rfl g_195_17 rfl ?_
          refine ik_Wk 2 (pc_q := 28) (loc_q := [some (.ref 17), some (fI p), some (fI ((l0_187 / 1000) - nw)), some (fI (-1)), some (fI (-1))]) (st_q := [fI (-1), fI 3, .ref 20]) (h_q := h_195) (cl_q := 0) (sl_q := 0) rfl ?_
          refine fx_ias (z := 3) rfl g_195_20 (by decide +kernel) (Nat.le_of_ble_eq_true rfl) (by decide +kernel) ?_
          intro h_196 e_196 f_196 l_196
          have k_196 : cL h_196 := l_196.trans k_195
          have fr_196 := hfr_wb fr_195 f_196 l_196 rfl
          clear l_196
          have g_196_7 := (f_196 7 (Nat.ne_of_beq_eq_false rfl)).trans g_195_7
          have g_196_8 := (f_196 8 (Nat.ne_of_beq_eq_false rfl)).trans g_195_8
          have g_196_9 := (f_196 9 (Nat.ne_of_beq_eq_false rfl)).trans g_195_9
          have g_196_10 := (f_196 10 (Nat.ne_of_beq_eq_false rfl)).trans g_195_10
          have g_196_11 := (f_196 11 (Nat.ne_of_beq_eq_false rfl)).trans g_195_11
          have g_196_12 := (f_196 12 (Nat.ne_of_beq_eq_false rfl)).trans g_195_12
          have g_196_13 := (f_196 13 (Nat.ne_of_beq_eq_false rfl)).trans g_195_13
          have g_196_15 := (f_196 15 (Nat.ne_of_beq_eq_false rfl)).trans g_195_15
          have g_196_17 := (f_196 17 (Nat.ne_of_beq_eq_false rfl)).trans g_195_17
          have g_196_18 := (f_196 18 (Nat.ne_of_beq_eq_false rfl)).trans g_195_18
          have g_196_19 := (f_196 19 (Nat.ne_of_beq_eq_false rfl)).trans g_195_19
          have g_196_21 := mf_cr_f g_195_21 (f_196 21 (Nat.ne_of_beq_eq_false rfl)) (f_196 22 (Nat.ne_of_beq_eq_false rfl)) (f_196 23 (Nat.ne_of_beq_eq_false rfl)) (f_196 24 (Nat.ne_of_beq_eq_false rfl))
          have g_196_33 := mf_cr_f g_195_33 (f_196 33 (Nat.ne_of_beq_eq_false rfl)) (f_196 34 (Nat.ne_of_beq_eq_false rfl)) (f_196 35 (Nat.ne_of_beq_eq_false rfl)) (f_196 36 (Nat.ne_of_beq_eq_false rfl))
          have g_196_20 : cE h_196 20 (.inl (.int, fA [p, (l0_187 / 1000) - nw, -1, -1])) := e_196
          refine ik_Wret rfl rfl ⟨_, _, rfl, rfl, ?_⟩
          refine ik_Wk 0 (pc_q := 94) (loc_q := [some (.ref 17), some (fI 0), some (fI nw), some (fI p), some (fI ((l0_187 / 1000) - nw))]) (st_q := []) (h_q := h_196) (cl_q := 0) (sl_q := 0) rfl ?_
          refine fw_inc (a := p) (loc_q := [some (.ref 17), some (fI 0), some (fI nw), some (fI (p + 1)), some (fI ((l0_187 / 1000) - nw))]) rfl rfl (Nat.le_of_ble_eq_true rfl) rfl ?_
          refine ik_Wk 1 (pc_q := 22) (loc_q := [some (.ref 17), some (fI 0), some (fI nw), some (fI (p + 1)), some (fI ((l0_187 / 1000) - nw))]) (st_q := []) (h_q := h_196) (cl_q := 0) (sl_q := 0) rfl ?_
          exact ih  (p + 1) p ((l0_187 / 1000) - nw) l0_187 l1_187 l2_187 wg'_188 wc'_188 ((we1.set p.toNat (5 * p + ((mx_w cn go ch (s ^^^ 1 <<< p.toNat) p).length : Int))).set p.toNat (5 * p + ((mx_w cn go ch s p).length : Int))) (some (fI ((l0_187 / 1000) - nw))) h_196 g_196_7 g_196_8 n8 g_196_9 n9 g_196_10 n10 g_196_11 m_188_11 g_196_12 m_188_12 g_196_13 hl2 g_196_15 g_196_17 g_196_18 g_196_19 g_196_20 g_196_21 g_196_33 k_196 fr_196 (by omega) (by omega) wy_188 (by rw [he, show (pl - 1 - p).toNat = (pl - 1 - (p + 1)).toNat + 1 by omega]; show (if p = 0 ∨ mk_ab y < mk_ab ((mk_vm cn go ch s pl ka pa fa kb pb fb 0) p) then _ else _) = _; rw [ev, if_pos (by rw [ab0, ab1]; omega)]) rfl (by omega)

theorem cs_most0 {h : List ik_E} {pl : Int} {lo : Int} {s : Nat} {ka : Int} {pa : Int} {fa : Int} {kb : Int} {pb : Int} {fb : Int} {bo : Int} {la : Int} {lb : Int} {t0 : Int} {t1 : Int} {t2 : Int} {t3 : Int} {wg : List Int} {wc : List Int} {we : List Int} {cn : List Int} {go : List Int} {ch : List Int} (q0 : 2 ≤ pl ∧ pl ≤ 12) (q1 : 0 ≤ ka ∧ ka ≤ 2 ∧ 0 ≤ kb ∧ kb ≤ 2) (q2 : 0 ≤ pa ∧ pa < pl - 1) (q3 : 0 ≤ pb ∧ pb < pl - 1) (q4 : 0 ≤ fa ∧ fa ≤ 30 ∧ 0 ≤ fb ∧ fb ≤ 30) (q5 : ∀ x : Int, (0 : Int) ≤ x → x < pl - 1 → mx_wy wg wc we x (mx_w cn go ch s x)) (q6 : mx_rw pl cn go ch) (q7 : True) (q8 : s < 4096) (h7 : cE h 7 (.inr (0, [fI pl, fI ((s : Nat) : Int), fI lo, .ref 8, .ref 9, .ref 10, .ref 11, .ref 12, .ref 13]))) (h8 : cE h 8 (.inl (.int, fA cn))) (n8 : cn.length = (12 : Nat)) (h9 : cE h 9 (.inl (.int, fA go))) (n9 : go.length = (48 : Nat)) (h10 : cE h 10 (.inl (.int, fA ch))) (n10 : ch.length = (48 : Nat)) (h11 : cE h 11 (.inl (.int, fA wg))) (n11 : wg.length = (60 : Nat)) (h12 : cE h 12 (.inl (.int, fA wc))) (n12 : wc.length = (60 : Nat)) (h13 : cE h 13 (.inl (.int, fA we))) (n13 : we.length = (12 : Nat)) (h15 : cE h 15 (.inl (.int, fA [ka, pa, fa, kb, pb, fb]))) (h17 : cE h 17 (.inr (8, [.ref 7, .ref 15, .ref 18, .ref 19, fJ bo, .ref 20]))) (h18 : cE h 18 (.inl (.object "SlowerCork$Course", [.ref 21, .ref 25, .ref 29, .ref 33, .ref 37, .ref 41]))) (h19 : cE h 19 (.inl (.long, fL [la, lb]))) (h20 : cE h 20 (.inl (.int, fA [t0, t1, t2, t3]))) (h21 : mf_cr h 21 ) (h33 : mf_cr h 33 ) (hl : h.length = (94 : Nat)) : ik_F 85 [.ref 17, fI 0] h (fun rv h_q => ∃ (l0 : Int) (l1 : Int) (l2 : Int) (wg' : List Int) (wc' : List Int) (we' : List Int), rv = [] ∧ cE h_q 7 (.inr (0, [fI pl, fI ((s : Nat) : Int), fI lo, .ref 8, .ref 9, .ref 10, .ref 11, .ref 12, .ref 13])) ∧ cE h_q 11 (.inl (.int, fA wg')) ∧ wg'.length = (60 : Nat) ∧ cE h_q 12 (.inl (.int, fA wc')) ∧ wc'.length = (60 : Nat) ∧ cE h_q 13 (.inl (.int, fA we')) ∧ we'.length = (12 : Nat) ∧ cE h_q 17 (.inr (8, [.ref 7, .ref 15, .ref 18, .ref 19, fJ l2, .ref 20])) ∧ cE h_q 19 (.inl (.long, fL [l0, l1])) ∧ cE h_q 20 (.inl (.int, fA [(mk_mo (mk_vm cn go ch s pl ka pa fa kb pb fb 0) (pl - 1).toNat 0 (-1) 0).1, (mk_mo (mk_vm cn go ch s pl ka pa fa kb pb fb 0) (pl - 1).toNat 0 (-1) 0).2, -1, -1])) ∧ mf_cr h_q 21  ∧ mf_cr h_q 33  ∧ (∀ x : Int, (0 : Int) ≤ x → x < pl - 1 → mx_wy wg' wc' we' x (mx_w cn go ch s x)) ∧ hfr [7, 11, 12, 13, 17, 19, 20, 21, 22, 23, 24, 33, 34, 35, 36] h h_q) := by
  refine ik_Wk 1 (pc_q := 1) (loc_q := [some (.ref 17), some (fI 0), none, none, none]) (st_q := [.ref 17]) (h_q := h) (cl_q := 0) (sl_q := 0) rfl ?_
  refine fw_ld 1000000 rfl rfl (by decide +kernel) ?_
  refine fw_call 79 2 0 [.ref 17, fI 1000000] [] rfl rfl rfl (Nat.le_of_ble_eq_true rfl) rfl rfl (fw_rec hl rfl h17 rfl (Nat.le_of_ble_eq_true rfl)) (cs_raceAsSet (pl := pl) (lo := lo) (s := s) (ka := ka) (pa := pa) (fa := fa) (kb := kb) (pb := pb) (fb := fb) (lim := 1000000) (bo := bo) (la := la) (lb := lb) (wg := wg) (wc := wc) (we := we) (W := (fun x => mx_w cn go ch s x)) (by omega) (by omega) (by omega) (by omega) (by omega) (by omega) q5 (mx_rw_ok q6 _) h7 h11 n11 h12 n12 h13 n13 h15 h17 h18 h19 h21 h33 hl) ?_
  rintro _ h_197 ⟨l0_197, l1_197, l2_197, rfl, e_197_17, e_197_19, e_197_21, e_197_33, p_197_0, p_197_1, F_197⟩
  have k_197 : cL h_197 := F_197.1.trans hl
  have fr_197 := hfr_cb (hfr_refl [7, 11, 12, 13, 17, 19, 20, 21, 22, 23, 24, 33, 34, 35, 36] h) F_197 rfl
  have g_197_7 := (hfr_g F_197 7 rfl).trans h7
  have g_197_8 := (hfr_g F_197 8 rfl).trans h8
  have g_197_9 := (hfr_g F_197 9 rfl).trans h9
  have g_197_10 := (hfr_g F_197 10 rfl).trans h10
  have g_197_11 := (hfr_g F_197 11 rfl).trans h11
  have g_197_12 := (hfr_g F_197 12 rfl).trans h12
  have g_197_13 := (hfr_g F_197 13 rfl).trans h13
  have g_197_15 := (hfr_g F_197 15 rfl).trans h15
  have g_197_18 := (hfr_g F_197 18 rfl).trans h18
  have g_197_20 := (hfr_g F_197 20 rfl).trans h20
  have g_197_17 : cE h_197 17 (.inr (8, [.ref 7, .ref 15, .ref 18, .ref 19, fJ l2_197, .ref 20])) := e_197_17
  have g_197_19 : cE h_197 19 (.inl (.long, fL [l0_197, l1_197])) := e_197_19
  have g_197_21 : mf_cr h_197 21  := e_197_21
  have g_197_33 : mf_cr h_197 33  := e_197_33
  refine ik_Wk 0 (pc_q := 6) (loc_q := [some (.ref 17), some (fI 0), none, none, none]) (st_q := []) (h_q := h_197) (cl_q := 0) (sl_q := 0) rfl ?_
  have ka_197 := mr_ok_cm (W := (fun x => mx_w cn go ch s x)) (k := ka) (mx_rw_ok q6 _) q2
  have kb_197 := mr_ok_cm (W := (fun x => mx_w cn go ch s x)) (k := kb) (mx_rw_ok q6 _) q3
  have Fa_197 := mr_F_b ka_197 kb_197 fa (show 0 ≤ fb by omega)
  have Fb_197 := mr_F_b kb_197 ka_197 fb (show 0 ≤ fa by omega)
  have el_197 : l0_197 = mr_F0 (mf_cm (fun x => mx_w cn go ch s x) (pl - 1) ka pa) fa (mf_cm (fun x => mx_w cn go ch s x) (pl - 1) kb pb) fb ∧ l1_197 = mr_F0 (mf_cm (fun x => mx_w cn go ch s x) (pl - 1) kb pb) fb (mf_cm (fun x => mx_w cn go ch s x) (pl - 1) ka pa) fa := by
    rcases p_197_1 with e | e
    · exact ⟨e.1, e.2.1⟩
    · omega
  have ew_197 : (l0_197 / 1000 : Int) = (mr_w (mf_cm (fun x => mx_w cn go ch s x) (pl - 1) ka pa) fa (mf_cm (fun x => mx_w cn go ch s x) (pl - 1) kb pb) fb 0 : Int) := by rw [mr_w_0, el_197.1]
  have wb_197 := mr_w_b ka_197 kb_197 (show 0 ≤ fa by omega) (show 0 ≤ fb by omega) 0
  refine ik_Wk 2 (pc_q := 8) (loc_q := [some (.ref 17), some (fI 0), none, none, none]) (st_q := [fI 0, .ref 17]) (h_q := h_197) (cl_q := 0) (sl_q := 0) rfl ?_
  refine ik_Wc 74 2 0 [.ref 17, fI 0] [] rfl rfl rfl (by decide +kernel) rfl rfl (fw_rec k_197 rfl g_197_17 rfl (Nat.le_of_ble_eq_true rfl)) ?_
  refine ik_Wk 0 (pc_q := 0) (loc_q := [some (.ref 17), some (fI 0)]) (st_q := []) (h_q := h_197) (cl_q := 0) (sl_q := 0) rfl ?_
  refine ik_Wk 1 (pc_q := 1) (loc_q := [some (.ref 17), some (fI 0)]) (st_q := [.ref 17]) (h_q := h_197) (cl_q := 0) (sl_q := 0) rfl ?_
  refine fw_gf rfl rfl g_197_17 rfl ?_
  refine ik_Wk 1 (pc_q := 5) (loc_q := [some (.ref 17), some (fI 0)]) (st_q := [fI 0, .ref 19]) (h_q := h_197) (cl_q := 0) (sl_q := 0) rfl ?_
  refine fx_lal (z := 0) rfl g_197_19 (by decide +kernel) (Nat.le_of_ble_eq_true rfl) (by decide +kernel) ?_
  refine ik_Wk 0 (pc_q := 6) (loc_q := [some (.ref 17), some (fI 0)]) (st_q := [fJ l0_197]) (h_q := h_197) (cl_q := 0) (sl_q := 0) rfl ?_
  refine fw_l2 1000 rfl rfl (by decide +kernel) ?_
  refine fx_ldiv rfl (by omega) (by omega) (by omega) (by omega) ?_
  refine fx_l2i rfl ?_
  refine ik_Wret rfl rfl ⟨_, _, rfl, rfl, ?_⟩
  refine ik_Wk 0 (pc_q := 11) (loc_q := [some (.ref 17), some (fI 0), none, none, none]) (st_q := [fI (l0_197 / 1000)]) (h_q := h_197) (cl_q := 0) (sl_q := 0) rfl ?_
  refine ik_Wk 6 (pc_q := 17) (loc_q := [some (.ref 17), some (fI 0), some (fI (l0_197 / 1000)), none, none]) (st_q := [fI (-1), fI (-1), fI 0, fI (-1), .ref 17]) (h_q := h_197) (cl_q := 0) (sl_q := 0) rfl ?_
  refine ik_Wc 88 5 0 [.ref 17, fI (-1), fI 0, fI (-1), fI (-1)] [] rfl rfl rfl (by decide +kernel) rfl rfl (fw_rec k_197 rfl g_197_17 rfl (Nat.le_of_ble_eq_true rfl)) ?_
  refine ik_Wk 0 (pc_q := 0) (loc_q := [some (.ref 17), some (fI (-1)), some (fI 0), some (fI (-1)), some (fI (-1))]) (st_q := []) (h_q := h_197) (cl_q := 0) (sl_q := 0) rfl ?_
  refine ik_Wk 1 (pc_q := 1) (loc_q := [some (.ref 17), some (fI (-1)), some (fI 0), some (fI (-1)), some (fI (-1))]) (st_q := [.ref 17]) (h_q := h_197) (cl_q := 0) (sl_q := 0) rfl ?_
  refine fw_gf rfl rfl g_197_17 rfl ?_
  refine ik_Wk 2 (pc_q := 6) (loc_q := [some (.ref 17), some (fI (-1)), some (fI 0), some (fI (-1)), some (fI (-1))]) (st_q := [fI (-1), fI 0, .ref 20]) (h_q := h_197) (cl_q := 0) (sl_q := 0) rfl ?_
  refine fx_ias (z := 0) rfl g_197_20 (by decide +kernel) (Nat.le_of_ble_eq_true rfl) (by decide +kernel) ?_
  intro h_198 e_198 f_198 l_198
  have k_198 : cL h_198 := l_198.trans k_197
  have fr_198 := hfr_wb fr_197 f_198 l_198 rfl
  clear l_198
  have g_198_7 := (f_198 7 (Nat.ne_of_beq_eq_false rfl)).trans g_197_7
  have g_198_8 := (f_198 8 (Nat.ne_of_beq_eq_false rfl)).trans g_197_8
  have g_198_9 := (f_198 9 (Nat.ne_of_beq_eq_false rfl)).trans g_197_9
  have g_198_10 := (f_198 10 (Nat.ne_of_beq_eq_false rfl)).trans g_197_10
  have g_198_11 := (f_198 11 (Nat.ne_of_beq_eq_false rfl)).trans g_197_11
  have g_198_12 := (f_198 12 (Nat.ne_of_beq_eq_false rfl)).trans g_197_12
  have g_198_13 := (f_198 13 (Nat.ne_of_beq_eq_false rfl)).trans g_197_13
  have g_198_15 := (f_198 15 (Nat.ne_of_beq_eq_false rfl)).trans g_197_15
  have g_198_17 := (f_198 17 (Nat.ne_of_beq_eq_false rfl)).trans g_197_17
  have g_198_18 := (f_198 18 (Nat.ne_of_beq_eq_false rfl)).trans g_197_18
  have g_198_19 := (f_198 19 (Nat.ne_of_beq_eq_false rfl)).trans g_197_19
  have g_198_21 := mf_cr_f g_197_21 (f_198 21 (Nat.ne_of_beq_eq_false rfl)) (f_198 22 (Nat.ne_of_beq_eq_false rfl)) (f_198 23 (Nat.ne_of_beq_eq_false rfl)) (f_198 24 (Nat.ne_of_beq_eq_false rfl))
  have g_198_33 := mf_cr_f g_197_33 (f_198 33 (Nat.ne_of_beq_eq_false rfl)) (f_198 34 (Nat.ne_of_beq_eq_false rfl)) (f_198 35 (Nat.ne_of_beq_eq_false rfl)) (f_198 36 (Nat.ne_of_beq_eq_false rfl))
  have g_198_20 : cE h_198 20 (.inl (.int, fA [-1, t1, t2, t3])) := e_198
  refine ik_Wk 1 (pc_q := 8) (loc_q := [some (.ref 17), some (fI (-1)), some (fI 0), some (fI (-1)), some (fI (-1))]) (st_q := [.ref 17]) (h_q := h_198) (cl_q := 0) (sl_q := 0) rfl ?_
  refine fw_gf rfl rfl g_198_17 rfl ?_
  refine ik_Wk 2 (pc_q := 13) (loc_q := [some (.ref 17), some (fI (-1)), some (fI 0), some (fI (-1)), some (fI (-1))]) (st_q := [fI 0, fI 1, .ref 20]) (h_q := h_198) (cl_q := 0) (sl_q := 0) rfl ?_
  refine fx_ias (z := 1) rfl g_198_20 (by decide +kernel) (Nat.le_of_ble_eq_true rfl) (by decide +kernel) ?_
  intro h_199 e_199 f_199 l_199
  have k_199 : cL h_199 := l_199.trans k_198
  have fr_199 := hfr_wb fr_198 f_199 l_199 rfl
  clear l_199
  have g_199_7 := (f_199 7 (Nat.ne_of_beq_eq_false rfl)).trans g_198_7
  have g_199_8 := (f_199 8 (Nat.ne_of_beq_eq_false rfl)).trans g_198_8
  have g_199_9 := (f_199 9 (Nat.ne_of_beq_eq_false rfl)).trans g_198_9
  have g_199_10 := (f_199 10 (Nat.ne_of_beq_eq_false rfl)).trans g_198_10
  have g_199_11 := (f_199 11 (Nat.ne_of_beq_eq_false rfl)).trans g_198_11
  have g_199_12 := (f_199 12 (Nat.ne_of_beq_eq_false rfl)).trans g_198_12
  have g_199_13 := (f_199 13 (Nat.ne_of_beq_eq_false rfl)).trans g_198_13
  have g_199_15 := (f_199 15 (Nat.ne_of_beq_eq_false rfl)).trans g_198_15
  have g_199_17 := (f_199 17 (Nat.ne_of_beq_eq_false rfl)).trans g_198_17
  have g_199_18 := (f_199 18 (Nat.ne_of_beq_eq_false rfl)).trans g_198_18
  have g_199_19 := (f_199 19 (Nat.ne_of_beq_eq_false rfl)).trans g_198_19
  have g_199_21 := mf_cr_f g_198_21 (f_199 21 (Nat.ne_of_beq_eq_false rfl)) (f_199 22 (Nat.ne_of_beq_eq_false rfl)) (f_199 23 (Nat.ne_of_beq_eq_false rfl)) (f_199 24 (Nat.ne_of_beq_eq_false rfl))
  have g_199_33 := mf_cr_f g_198_33 (f_199 33 (Nat.ne_of_beq_eq_false rfl)) (f_199 34 (Nat.ne_of_beq_eq_false rfl)) (f_199 35 (Nat.ne_of_beq_eq_false rfl)) (f_199 36 (Nat.ne_of_beq_eq_false rfl))
  have g_199_20 : cE h_199 20 (.inl (.int, fA [-1, 0, t2, t3])) := e_199
  refine ik_Wk 1 (pc_q := 15) (loc_q := [some (.ref 17), some (fI (-1)), some (fI 0), some (fI (-1)), some (fI (-1))]) (st_q := [.ref 17]) (h_q := h_199) (cl_q := 0) (sl_q := 0) rfl ?_
  refine fw_gf rfl rfl g_199_17 rfl ?_
  refine ik_Wk 2 (pc_q := 20) (loc_q := [some (.ref 17), some (fI (-1)), some (fI 0), some (fI (-1)), some (fI (-1))]) (st_q := [fI (-1), fI 2, .ref 20]) (h_q := h_199) (cl_q := 0) (sl_q := 0) rfl ?_
  refine fx_ias (z := 2) rfl g_199_20 (by decide +kernel) (Nat.le_of_ble_eq_true rfl) (by decide +kernel) ?_
  intro h_200 e_200 f_200 l_200
  have k_200 : cL h_200 := l_200.trans k_199
  have fr_200 := hfr_wb fr_199 f_200 l_200 rfl
  clear l_200
  have g_200_7 := (f_200 7 (Nat.ne_of_beq_eq_false rfl)).trans g_199_7
  have g_200_8 := (f_200 8 (Nat.ne_of_beq_eq_false rfl)).trans g_199_8
  have g_200_9 := (f_200 9 (Nat.ne_of_beq_eq_false rfl)).trans g_199_9
  have g_200_10 := (f_200 10 (Nat.ne_of_beq_eq_false rfl)).trans g_199_10
  have g_200_11 := (f_200 11 (Nat.ne_of_beq_eq_false rfl)).trans g_199_11
  have g_200_12 := (f_200 12 (Nat.ne_of_beq_eq_false rfl)).trans g_199_12
  have g_200_13 := (f_200 13 (Nat.ne_of_beq_eq_false rfl)).trans g_199_13
  have g_200_15 := (f_200 15 (Nat.ne_of_beq_eq_false rfl)).trans g_199_15
  have g_200_17 := (f_200 17 (Nat.ne_of_beq_eq_false rfl)).trans g_199_17
  have g_200_18 := (f_200 18 (Nat.ne_of_beq_eq_false rfl)).trans g_199_18
  have g_200_19 := (f_200 19 (Nat.ne_of_beq_eq_false rfl)).trans g_199_19
  have g_200_21 := mf_cr_f g_199_21 (f_200 21 (Nat.ne_of_beq_eq_false rfl)) (f_200 22 (Nat.ne_of_beq_eq_false rfl)) (f_200 23 (Nat.ne_of_beq_eq_false rfl)) (f_200 24 (Nat.ne_of_beq_eq_false rfl))
  have g_200_33 := mf_cr_f g_199_33 (f_200 33 (Nat.ne_of_beq_eq_false rfl)) (f_200 34 (Nat.ne_of_beq_eq_false rfl)) (f_200 35 (Nat.ne_of_beq_eq_false rfl)) (f_200 36 (Nat.ne_of_beq_eq_false rfl))
  have g_200_20 : cE h_200 20 (.inl (.int, fA [-1, 0, -1, t3])) := e_200
  refine ik_Wk 1 (pc_q := 22) (loc_q := [some (.ref 17), some (fI (-1)), some (fI 0), some (fI (-1)), some (fI (-1))]) (st_q := [.ref 17]) (h_q := h_200) (cl_q := 0) (sl_q := 0) rfl ?_
  refine fw_gf rfl rfl g_200_17 rfl ?_
  refine ik_Wk 2 (pc_q := 28) (loc_q := [some (.ref 17), some (fI (-1)), some (fI 0), some (fI (-1)), some (fI (-1))]) (st_q := [fI (-1), fI 3, .ref 20]) (h_q := h_200) (cl_q := 0) (sl_q := 0) rfl ?_
  refine fx_ias (z := 3) rfl g_200_20 (by decide +kernel) (Nat.le_of_ble_eq_true rfl) (by decide +kernel) ?_
  intro h_201 e_201 f_201 l_201
  have k_201 : cL h_201 := l_201.trans k_200
  have fr_201 := hfr_wb fr_200 f_201 l_201 rfl
  clear l_201
  have g_201_7 := (f_201 7 (Nat.ne_of_beq_eq_false rfl)).trans g_200_7
  have g_201_8 := (f_201 8 (Nat.ne_of_beq_eq_false rfl)).trans g_200_8
  have g_201_9 := (f_201 9 (Nat.ne_of_beq_eq_false rfl)).trans g_200_9
  have g_201_10 := (f_201 10 (Nat.ne_of_beq_eq_false rfl)).trans g_200_10
  have g_201_11 := (f_201 11 (Nat.ne_of_beq_eq_false rfl)).trans g_200_11
  have g_201_12 := (f_201 12 (Nat.ne_of_beq_eq_false rfl)).trans g_200_12
  have g_201_13 := (f_201 13 (Nat.ne_of_beq_eq_false rfl)).trans g_200_13
  have g_201_15 := (f_201 15 (Nat.ne_of_beq_eq_false rfl)).trans g_200_15
  have g_201_17 := (f_201 17 (Nat.ne_of_beq_eq_false rfl)).trans g_200_17
  have g_201_18 := (f_201 18 (Nat.ne_of_beq_eq_false rfl)).trans g_200_18
  have g_201_19 := (f_201 19 (Nat.ne_of_beq_eq_false rfl)).trans g_200_19
  have g_201_21 := mf_cr_f g_200_21 (f_201 21 (Nat.ne_of_beq_eq_false rfl)) (f_201 22 (Nat.ne_of_beq_eq_false rfl)) (f_201 23 (Nat.ne_of_beq_eq_false rfl)) (f_201 24 (Nat.ne_of_beq_eq_false rfl))
  have g_201_33 := mf_cr_f g_200_33 (f_201 33 (Nat.ne_of_beq_eq_false rfl)) (f_201 34 (Nat.ne_of_beq_eq_false rfl)) (f_201 35 (Nat.ne_of_beq_eq_false rfl)) (f_201 36 (Nat.ne_of_beq_eq_false rfl))
  have g_201_20 : cE h_201 20 (.inl (.int, fA [-1, 0, -1, -1])) := e_201
  refine ik_Wret rfl rfl ⟨_, _, rfl, rfl, ?_⟩
  refine ik_Wk 0 (pc_q := 20) (loc_q := [some (.ref 17), some (fI 0), some (fI (l0_197 / 1000)), none, none]) (st_q := []) (h_q := h_201) (cl_q := 0) (sl_q := 0) rfl ?_
  refine ik_Wk 2 (pc_q := 22) (loc_q := [some (.ref 17), some (fI 0), some (fI (l0_197 / 1000)), some (fI 0), none]) (st_q := []) (h_q := h_201) (cl_q := 0) (sl_q := 0) rfl ?_
  exact cs_most0L (pl := pl) (lo := lo) (s := s) (ka := ka) (pa := pa) (fa := fa) (kb := kb) (pb := pb) (fb := fb) (bo := bo) (la := la) (lb := lb) (t0 := t0) (t1 := t1) (t2 := t2) (t3 := t3) (wg := wg) (wc := wc) (we := we) (cn := cn) (go := go) (ch := ch) q0 q1 q2 q3 q4 q5 q6 q7 q8 (nw := l0_197 / 1000) ew_197 (by omega) (pl.toNat + 1) 0 (-1) 0 l0_197 l1_197 l2_197 wg wc we none h_201 g_201_7 g_201_8 n8 g_201_9 n9 g_201_10 n10 g_201_11 n11 g_201_12 n12 g_201_13 n13 g_201_15 g_201_17 g_201_18 g_201_19 g_201_20 g_201_21 g_201_33 k_201 fr_201 (by omega) (by omega) q5 (by rw [Int.sub_zero]) rfl (by omega)

theorem cs_most1L {h : List ik_E} {pl : Int} {lo : Int} {s : Nat} {ka : Int} {pa : Int} {fa : Int} {kb : Int} {pb : Int} {fb : Int} {bo : Int} {la : Int} {lb : Int} {t0 : Int} {t1 : Int} {t2 : Int} {t3 : Int} {wg : List Int} {wc : List Int} {we : List Int} {cn : List Int} {go : List Int} {ch : List Int} (q0 : 2 ≤ pl ∧ pl ≤ 12) (q1 : 0 ≤ ka ∧ ka ≤ 2 ∧ 0 ≤ kb ∧ kb ≤ 2) (q2 : 0 ≤ pa ∧ pa < pl - 1) (q3 : 0 ≤ pb ∧ pb < pl - 1) (q4 : 0 ≤ fa ∧ fa ≤ 30 ∧ 0 ≤ fb ∧ fb ≤ 30) (q5 : ∀ x : Int, (0 : Int) ≤ x → x < pl - 1 → mx_wy wg wc we x (mx_w cn go ch s x)) (q6 : mx_rw pl cn go ch) (q7 : True) (q8 : s < 4096) {nw : Int} (hnw : nw = mk_lw cn go ch s pl ka pa fa kb pb fb 1) (hnb : (0 : Int) ≤ nw ∧ nw ≤ (1000000 : Int)) : ∀ (k : Nat) (p : Int) (b : Int) (y : Int) (l0 : Int) (l1 : Int) (l2 : Int) (wg1 : List Int) (wc1 : List Int) (we1 : List Int) (x4 : Option Value) (u : List ik_E) (u7 : cE u 7 (.inr (0, [fI pl, fI ((s : Nat) : Int), fI lo, .ref 8, .ref 9, .ref 10, .ref 11, .ref 12, .ref 13]))) (u8 : cE u 8 (.inl (.int, fA cn))) (n8 : cn.length = (12 : Nat)) (u9 : cE u 9 (.inl (.int, fA go))) (n9 : go.length = (48 : Nat)) (u10 : cE u 10 (.inl (.int, fA ch))) (n10 : ch.length = (48 : Nat)) (u11 : cE u 11 (.inl (.int, fA wg1))) (n11 : wg1.length = (60 : Nat)) (u12 : cE u 12 (.inl (.int, fA wc1))) (n12 : wc1.length = (60 : Nat)) (u13 : cE u 13 (.inl (.int, fA we1))) (n13 : we1.length = (12 : Nat)) (u15 : cE u 15 (.inl (.int, fA [ka, pa, fa, kb, pb, fb]))) (u17 : cE u 17 (.inr (8, [.ref 7, .ref 15, .ref 18, .ref 19, fJ l2, .ref 20]))) (u18 : cE u 18 (.inl (.object "SlowerCork$Course", [.ref 21, .ref 25, .ref 29, .ref 33, .ref 37, .ref 41]))) (u19 : cE u 19 (.inl (.long, fL [l0, l1]))) (u20 : cE u 20 (.inl (.int, fA [b, y, -1, -1]))) (u21 : mf_cr u 21 ) (u33 : mf_cr u 33 ) (ul : u.length = (94 : Nat)) (F : hfr [7, 11, 12, 13, 17, 19, 20, 21, 22, 23, 24, 33, 34, 35, 36] h u) (hp : (0 : Int) ≤ p ∧ p ≤ pl - 1) (hyb : (-1000000 : Int) ≤ y ∧ y ≤ (1000000 : Int)) (hy : ∀ x : Int, (0 : Int) ≤ x → x < pl - 1 → mx_wy wg1 wc1 we1 x (mx_w cn go ch s x)) (he : (mk_mo (mk_vm cn go ch s pl ka pa fa kb pb fb 1) (pl - 1).toNat 0 (-1) 0) = mk_mo (mk_vm cn go ch s pl ka pa fa kb pb fb 1) (pl - 1 - p).toNat p b y) (w4 : ik_wl 94 x4 = true) (hk : pl - p < (k : Int)), ik_G 85 22 [some (.ref 17), some (fI 1), some (fI nw), some (fI p), x4] [] u (fun rv h_q => ∃ (l0 : Int) (l1 : Int) (l2 : Int) (wg' : List Int) (wc' : List Int) (we' : List Int), rv = [] ∧ cE h_q 7 (.inr (0, [fI pl, fI ((s : Nat) : Int), fI lo, .ref 8, .ref 9, .ref 10, .ref 11, .ref 12, .ref 13])) ∧ cE h_q 11 (.inl (.int, fA wg')) ∧ wg'.length = (60 : Nat) ∧ cE h_q 12 (.inl (.int, fA wc')) ∧ wc'.length = (60 : Nat) ∧ cE h_q 13 (.inl (.int, fA we')) ∧ we'.length = (12 : Nat) ∧ cE h_q 17 (.inr (8, [.ref 7, .ref 15, .ref 18, .ref 19, fJ l2, .ref 20])) ∧ cE h_q 19 (.inl (.long, fL [l0, l1])) ∧ cE h_q 20 (.inl (.int, fA [(mk_mo (mk_vm cn go ch s pl ka pa fa kb pb fb 1) (pl - 1).toNat 0 (-1) 0).1, (mk_mo (mk_vm cn go ch s pl ka pa fa kb pb fb 1) (pl - 1).toNat 0 (-1) 0).2, -1, -1])) ∧ mf_cr h_q 21  ∧ mf_cr h_q 33  ∧ (∀ x : Int, (0 : Int) ≤ x → x < pl - 1 → mx_wy wg' wc' we' x (mx_w cn go ch s x)) ∧ hfr [7, 11, 12, 13, 17, 19, 20, 21, 22, 23, 24, 33, 34, 35, 36] h h_q) := by
  intro k
  induction k with
  | zero => intro p b y l0 l1 l2 wg1 wc1 we1 x4 u u7 u8 n8 u9 n9 u10 n10 u11 n11 u12 n12 u13 n13 u15 u17 u18 u19 u20 u21 u33 ul F hp hyb hy he w4 hk; omega
  | succ k ih =>
    intro p b y l0 l1 l2 wg1 wc1 we1 x4 u u7 u8 n8 u9 n9 u10 n10 u11 n11 u12 n12 u13 n13 u15 u17 u18 u19 u20 u21 u33 ul F hp hyb hy he w4 hk
    refine ik_Wk 2 (pc_q := 24) (loc_q := [some (.ref 17), some (fI 1), some (fI nw), some (fI p), x4]) (st_q := [.ref 17, fI p]) (h_q := u) (cl_q := 0) (sl_q := 0) rfl ?_
    refine fw_gf rfl rfl u17 rfl ?_
    refine ik_Wc 2 1 0 [.ref 7] [fI p] rfl rfl rfl (by decide +kernel) rfl rfl (fw_rec ul (fw_ftx rfl (wv_c rfl wv_n) (wl_c rfl (wl_c rfl (wl_c rfl (wl_c rfl (wl_c w4 wl_n)))))) u7 rfl (by decide +kernel)) ?_
    refine ik_Wk 0 (pc_q := 0) (loc_q := [some (.ref 7)]) (st_q := []) (h_q := u) (cl_q := 0) (sl_q := 0) rfl ?_
    refine ik_Wk 1 (pc_q := 1) (loc_q := [some (.ref 7)]) (st_q := [.ref 7]) (h_q := u) (cl_q := 0) (sl_q := 0) rfl ?_
    refine fw_gf rfl rfl u7 rfl ?_
    refine ik_Wk 1 (pc_q := 5) (loc_q := [some (.ref 7)]) (st_q := [fI 1, fI pl]) (h_q := u) (cl_q := 0) (sl_q := 0) rfl ?_
    refine fw_sub rfl ?_
    refine ik_Wret rfl rfl ⟨_, _, rfl, rfl, ?_⟩
    refine ik_Wk 0 (pc_q := 30) (loc_q := [some (.ref 17), some (fI 1), some (fI nw), some (fI p), x4]) (st_q := [fI (pl - 1), fI p]) (h_q := u) (cl_q := 0) (sl_q := 0) rfl ?_
    refine fw_ic_ge rfl rfl (by omega) (by omega) (by omega) (by omega) (fun hc1 => ?_) (fun hc1 => ?_)
    · have e0 : (pl - 1 - p).toNat = 0 := by omega
      rw [e0] at he
      rw [he]
      exact ik_Wret rfl rfl ⟨_, _, rfl, rfl, rfl, rfl, ⟨l0, l1, l2, wg1, wc1, we1, rfl, u7, u11, n11, u12, n12, u13, n13, u17, u19, u20, u21, u33, hy, F⟩⟩
    · refine ik_Wk 1 (pc_q := 34) (loc_q := [some (.ref 17), some (fI 1), some (fI nw), some (fI p), x4]) (st_q := [.ref 17]) (h_q := u) (cl_q := 0) (sl_q := 0) rfl ?_
      refine fw_gf rfl rfl u17 rfl ?_
      refine ik_Wk 1 (pc_q := 38) (loc_q := [some (.ref 17), some (fI 1), some (fI nw), some (fI p), x4]) (st_q := [fI p, .ref 7]) (h_q := u) (cl_q := 0) (sl_q := 0) rfl ?_
      refine fw_call 14 2 0 [.ref 7, fI p] [] rfl rfl rfl (Nat.le_of_ble_eq_true rfl) rfl rfl (fw_rec ul (fw_ftx rfl wv_n (wl_c rfl (wl_c rfl (wl_c rfl (wl_c rfl (wl_c w4 wl_n)))))) u7 rfl (by decide +kernel)) (cs_turn (p := p) (pl := pl) (lo := lo) (s := s) (cn := cn) (go := go) (ch := ch) (wg := wg1) (wc := wc1) (we := we1) (by omega) (by omega) q8 (by have := (q6 p (by omega) (by omega)).1; omega) (mx_rw_ch q6 p (by omega) (by omega)).2 (mx_rw_ch q6 p (by omega) (by omega)).1 u7 u8 n8 u9 n9 u10 n10 u11 n11 u12 n12 u13 n13 ul) ?_
      rintro _ h_202 ⟨wg'_202, wc'_202, rfl, e_202_7, e_202_11, m_202_11, e_202_12, m_202_12, e_202_13, m_202_13, p_202_0, p_202_1, p_202_2, F_202⟩
      have k_202 : cL h_202 := F_202.1.trans ul
      have fr_202 := hfr_cb F F_202 rfl
      have g_202_8 := (hfr_g F_202 8 rfl).trans u8
      have g_202_9 := (hfr_g F_202 9 rfl).trans u9
      have g_202_10 := (hfr_g F_202 10 rfl).trans u10
      have g_202_15 := (hfr_g F_202 15 rfl).trans u15
      have g_202_17 := (hfr_g F_202 17 rfl).trans u17
      have g_202_18 := (hfr_g F_202 18 rfl).trans u18
      have g_202_19 := (hfr_g F_202 19 rfl).trans u19
      have g_202_20 := (hfr_g F_202 20 rfl).trans u20
      have g_202_21 := mf_cr_f u21 (hfr_g F_202 21 rfl) (hfr_g F_202 22 rfl) (hfr_g F_202 23 rfl) (hfr_g F_202 24 rfl)
      have g_202_33 := mf_cr_f u33 (hfr_g F_202 33 rfl) (hfr_g F_202 34 rfl) (hfr_g F_202 35 rfl) (hfr_g F_202 36 rfl)
      have g_202_7 : cE h_202 7 (.inr (0, [fI pl, fI ((s ^^^ 1 <<< p.toNat : Nat) : Int), fI lo, .ref 8, .ref 9, .ref 10, .ref 11, .ref 12, .ref 13])) := e_202_7
      have g_202_11 : cE h_202 11 (.inl (.int, fA wg'_202)) := e_202_11
      have g_202_12 : cE h_202 12 (.inl (.int, fA wc'_202)) := e_202_12
      have g_202_13 : cE h_202 13 (.inl (.int, fA (we1.set p.toNat (5 * p + ((mx_w cn go ch (s ^^^ 1 <<< p.toNat) p).length : Int))))) := e_202_13
      refine ik_Wk 0 (pc_q := 41) (loc_q := [some (.ref 17), some (fI 1), some (fI nw), some (fI p), x4]) (st_q := []) (h_q := h_202) (cl_q := 0) (sl_q := 0) rfl ?_
      have wy_202 : ∀ x : Int, 0 ≤ x → x < pl - 1 → mx_wy wg'_202 wc'_202 (we1.set p.toNat (5 * p + ((mx_w cn go ch (s ^^^ 1 <<< p.toNat) p).length : Int))) x (mx_w cn go ch (s ^^^ 1 <<< p.toNat) x) := mx_wy_one (W := (fun x => mx_w cn go ch s x)) (W' := (fun x => mx_w cn go ch (s ^^^ 1 <<< p.toNat) x)) hy (mx_rw_ok q6 _) (by omega) (by omega) n13 p_202_0 p_202_1 p_202_2 (fun x h0 h1 hx => mx_w_tb (mx_tb_ne (by omega)))
      refine ik_Wk 1 (pc_q := 42) (loc_q := [some (.ref 17), some (fI 1), some (fI nw), some (fI p), x4]) (st_q := [.ref 17]) (h_q := h_202) (cl_q := 0) (sl_q := 0) rfl ?_
      refine fw_ld 1000000 rfl rfl (by decide +kernel) ?_
      refine fw_call 79 2 0 [.ref 17, fI 1000000] [] rfl rfl rfl (Nat.le_of_ble_eq_true rfl) rfl rfl (fw_rec k_202 (fw_ftx rfl wv_n (wl_c rfl (wl_c rfl (wl_c rfl (wl_c rfl (wl_c w4 wl_n)))))) g_202_17 rfl (by decide +kernel)) (cs_raceAsSet (pl := pl) (lo := lo) (s := s ^^^ 1 <<< p.toNat) (ka := ka) (pa := pa) (fa := fa) (kb := kb) (pb := pb) (fb := fb) (lim := 1000000) (bo := l2) (la := l0) (lb := l1) (wg := wg'_202) (wc := wc'_202) (we := we1.set p.toNat (5 * p + ((mx_w cn go ch (s ^^^ 1 <<< p.toNat) p).length : Int))) (W := (fun x => mx_w cn go ch (s ^^^ 1 <<< p.toNat) x)) (by omega) (by omega) (by omega) (by omega) (by omega) (by omega) wy_202 (mx_rw_ok q6 _) g_202_7 g_202_11 m_202_11 g_202_12 m_202_12 g_202_13 m_202_13 g_202_15 g_202_17 g_202_18 g_202_19 g_202_21 g_202_33 k_202) ?_
      rintro _ h_203 ⟨l0_203, l1_203, l2_203, rfl, e_203_17, e_203_19, e_203_21, e_203_33, p_203_0, p_203_1, F_203⟩
      have k_203 : cL h_203 := F_203.1.trans k_202
      have fr_203 := hfr_cb fr_202 F_203 rfl
      have g_203_7 := (hfr_g F_203 7 rfl).trans g_202_7
      have g_203_8 := (hfr_g F_203 8 rfl).trans g_202_8
      have g_203_9 := (hfr_g F_203 9 rfl).trans g_202_9
      have g_203_10 := (hfr_g F_203 10 rfl).trans g_202_10
      have g_203_11 := (hfr_g F_203 11 rfl).trans g_202_11
      have g_203_12 := (hfr_g F_203 12 rfl).trans g_202_12
      have g_203_13 := (hfr_g F_203 13 rfl).trans g_202_13
      have g_203_15 := (hfr_g F_203 15 rfl).trans g_202_15
      have g_203_18 := (hfr_g F_203 18 rfl).trans g_202_18
      have g_203_20 := (hfr_g F_203 20 rfl).trans g_202_20
      have g_203_17 : cE h_203 17 (.inr (8, [.ref 7, .ref 15, .ref 18, .ref 19, fJ l2_203, .ref 20])) := e_203_17
      have g_203_19 : cE h_203 19 (.inl (.long, fL [l0_203, l1_203])) := e_203_19
      have g_203_21 : mf_cr h_203 21  := e_203_21
      have g_203_33 : mf_cr h_203 33  := e_203_33
      refine ik_Wk 0 (pc_q := 47) (loc_q := [some (.ref 17), some (fI 1), some (fI nw), some (fI p), x4]) (st_q := []) (h_q := h_203) (cl_q := 0) (sl_q := 0) rfl ?_
      have ka_203 := mr_ok_cm (W := (fun x => mx_w cn go ch (s ^^^ 1 <<< p.toNat) x)) (k := ka) (mx_rw_ok q6 _) q2
      have kb_203 := mr_ok_cm (W := (fun x => mx_w cn go ch (s ^^^ 1 <<< p.toNat) x)) (k := kb) (mx_rw_ok q6 _) q3
      have Fa_203 := mr_F_b ka_203 kb_203 fa (show 0 ≤ fb by omega)
      have Fb_203 := mr_F_b kb_203 ka_203 fb (show 0 ≤ fa by omega)
      have el_203 : l0_203 = mr_F0 (mf_cm (fun x => mx_w cn go ch (s ^^^ 1 <<< p.toNat) x) (pl - 1) ka pa) fa (mf_cm (fun x => mx_w cn go ch (s ^^^ 1 <<< p.toNat) x) (pl - 1) kb pb) fb ∧ l1_203 = mr_F0 (mf_cm (fun x => mx_w cn go ch (s ^^^ 1 <<< p.toNat) x) (pl - 1) kb pb) fb (mf_cm (fun x => mx_w cn go ch (s ^^^ 1 <<< p.toNat) x) (pl - 1) ka pa) fa := by
        rcases p_203_1 with e | e
        · exact ⟨e.1, e.2.1⟩
        · omega
      have ew_203 : (l1_203 / 1000 : Int) = (mr_w (mf_cm (fun x => mx_w cn go ch (s ^^^ 1 <<< p.toNat) x) (pl - 1) ka pa) fa (mf_cm (fun x => mx_w cn go ch (s ^^^ 1 <<< p.toNat) x) (pl - 1) kb pb) fb 1 : Int) := by rw [mr_w_1, el_203.2]
      have wb_203 := mr_w_b ka_203 kb_203 (show 0 ≤ fa by omega) (show 0 ≤ fb by omega) 1
      have ev : (mk_vm cn go ch s pl ka pa fa kb pb fb 1) p = (l1_203 / 1000 - nw : Int) := by show mk_lw cn go ch (s ^^^ 1 <<< p.toNat) pl ka pa fa kb pb fb 1 - mk_lw cn go ch s pl ka pa fa kb pb fb 1 = _; rw [← hnw, ew_203]; rfl
      refine ik_Wk 1 (pc_q := 48) (loc_q := [some (.ref 17), some (fI 1), some (fI nw), some (fI p), x4]) (st_q := [.ref 17]) (h_q := h_203) (cl_q := 0) (sl_q := 0) rfl ?_
      refine fw_gf rfl rfl g_203_17 rfl ?_
      refine ik_Wk 1 (pc_q := 52) (loc_q := [some (.ref 17), some (fI 1), some (fI nw), some (fI p), x4]) (st_q := [fI p, .ref 7]) (h_q := h_203) (cl_q := 0) (sl_q := 0) rfl ?_
      refine fw_call 14 2 0 [.ref 7, fI p] [] rfl rfl rfl (Nat.le_of_ble_eq_true rfl) rfl rfl (fw_rec k_203 (fw_ftx rfl wv_n (wl_c rfl (wl_c rfl (wl_c rfl (wl_c rfl (wl_c w4 wl_n)))))) g_203_7 rfl (by decide +kernel)) (cs_turn (p := p) (pl := pl) (lo := lo) (s := s ^^^ 1 <<< p.toNat) (cn := cn) (go := go) (ch := ch) (wg := wg'_202) (wc := wc'_202) (we := we1.set p.toNat (5 * p + ((mx_w cn go ch (s ^^^ 1 <<< p.toNat) p).length : Int))) (by omega) (by omega) (mx_xor_lt q8 (by omega)) (by have := (q6 p (by omega) (by omega)).1; omega) (mx_rw_ch q6 p (by omega) (by omega)).2 (mx_rw_ch q6 p (by omega) (by omega)).1 g_203_7 g_203_8 n8 g_203_9 n9 g_203_10 n10 g_203_11 m_202_11 g_203_12 m_202_12 g_203_13 m_202_13 k_203) ?_
      rintro _ h_204 ⟨wg'_204, wc'_204, rfl, e_204_7, e_204_11, m_204_11, e_204_12, m_204_12, e_204_13, m_204_13, p_204_0, p_204_1, p_204_2, F_204⟩
      have k_204 : cL h_204 := F_204.1.trans k_203
      have fr_204 := hfr_cb fr_203 F_204 rfl
      have g_204_8 := (hfr_g F_204 8 rfl).trans g_203_8
      have g_204_9 := (hfr_g F_204 9 rfl).trans g_203_9
      have g_204_10 := (hfr_g F_204 10 rfl).trans g_203_10
      have g_204_15 := (hfr_g F_204 15 rfl).trans g_203_15
      have g_204_17 := (hfr_g F_204 17 rfl).trans g_203_17
      have g_204_18 := (hfr_g F_204 18 rfl).trans g_203_18
      have g_204_19 := (hfr_g F_204 19 rfl).trans g_203_19
      have g_204_20 := (hfr_g F_204 20 rfl).trans g_203_20
      have g_204_21 := mf_cr_f g_203_21 (hfr_g F_204 21 rfl) (hfr_g F_204 22 rfl) (hfr_g F_204 23 rfl) (hfr_g F_204 24 rfl)
      have g_204_33 := mf_cr_f g_203_33 (hfr_g F_204 33 rfl) (hfr_g F_204 34 rfl) (hfr_g F_204 35 rfl) (hfr_g F_204 36 rfl)
      have g_204_7 : cE h_204 7 (.inr (0, [fI pl, fI (((s ^^^ 1 <<< p.toNat) ^^^ 1 <<< p.toNat : Nat) : Int), fI lo, .ref 8, .ref 9, .ref 10, .ref 11, .ref 12, .ref 13])) := e_204_7
      have g_204_11 : cE h_204 11 (.inl (.int, fA wg'_204)) := e_204_11
      have g_204_12 : cE h_204 12 (.inl (.int, fA wc'_204)) := e_204_12
      have g_204_13 : cE h_204 13 (.inl (.int, fA ((we1.set p.toNat (5 * p + ((mx_w cn go ch (s ^^^ 1 <<< p.toNat) p).length : Int))).set p.toNat (5 * p + ((mx_w cn go ch ((s ^^^ 1 <<< p.toNat) ^^^ 1 <<< p.toNat) p).length : Int))))) := e_204_13
      refine ik_Wk 0 (pc_q := 55) (loc_q := [some (.ref 17), some (fI 1), some (fI nw), some (fI p), x4]) (st_q := []) (h_q := h_204) (cl_q := 0) (sl_q := 0) rfl ?_
      simp only [mx_xor2] at g_204_7 g_204_13 p_204_0
      have hl2 : ((we1.set p.toNat (5 * p + ((mx_w cn go ch (s ^^^ 1 <<< p.toNat) p).length : Int))).set p.toNat (5 * p + ((mx_w cn go ch s p).length : Int))).length = 12 := by rw [List.length_set]; exact m_202_13
      have wy_204 : ∀ x : Int, 0 ≤ x → x < pl - 1 → mx_wy wg'_204 wc'_204 ((we1.set p.toNat (5 * p + ((mx_w cn go ch (s ^^^ 1 <<< p.toNat) p).length : Int))).set p.toNat (5 * p + ((mx_w cn go ch s p).length : Int))) x (mx_w cn go ch s x) := mx_wy_one (W := (fun x => mx_w cn go ch (s ^^^ 1 <<< p.toNat) x)) (W' := (fun x => mx_w cn go ch s x)) wy_202 (mx_rw_ok q6 _) (by omega) (by omega) m_202_13 p_204_0 p_204_1 p_204_2 (fun x h0 h1 hx => (mx_w_tb (mx_tb_ne (by omega))).symm)
      refine ik_Wk 2 (pc_q := 57) (loc_q := [some (.ref 17), some (fI 1), some (fI nw), some (fI p), x4]) (st_q := [fI 1, .ref 17]) (h_q := h_204) (cl_q := 0) (sl_q := 0) rfl ?_
      refine ik_Wc 74 2 0 [.ref 17, fI 1] [] rfl rfl rfl (by decide +kernel) rfl rfl (fw_rec k_204 (fw_ftx rfl wv_n (wl_c rfl (wl_c rfl (wl_c rfl (wl_c rfl (wl_c w4 wl_n)))))) g_204_17 rfl (by decide +kernel)) ?_
      refine ik_Wk 0 (pc_q := 0) (loc_q := [some (.ref 17), some (fI 1)]) (st_q := []) (h_q := h_204) (cl_q := 0) (sl_q := 0) rfl ?_
      refine ik_Wk 1 (pc_q := 1) (loc_q := [some (.ref 17), some (fI 1)]) (st_q := [.ref 17]) (h_q := h_204) (cl_q := 0) (sl_q := 0) rfl ?_
      refine fw_gf rfl rfl g_204_17 rfl ?_
      refine ik_Wk 1 (pc_q := 5) (loc_q := [some (.ref 17), some (fI 1)]) (st_q := [fI 1, .ref 19]) (h_q := h_204) (cl_q := 0) (sl_q := 0) rfl ?_
      refine fx_lal (z := 1) rfl g_204_19 (by decide +kernel) (Nat.le_of_ble_eq_true rfl) (by decide +kernel) ?_
      refine ik_Wk 0 (pc_q := 6) (loc_q := [some (.ref 17), some (fI 1)]) (st_q := [fJ l1_203]) (h_q := h_204) (cl_q := 0) (sl_q := 0) rfl ?_
      refine fw_l2 1000 rfl rfl (by decide +kernel) ?_
      refine fx_ldiv rfl (by omega) (by omega) (by omega) (by omega) ?_
      refine fx_l2i rfl ?_
      refine ik_Wret rfl rfl ⟨_, _, rfl, rfl, ?_⟩
      refine ik_Wk 0 (pc_q := 60) (loc_q := [some (.ref 17), some (fI 1), some (fI nw), some (fI p), x4]) (st_q := [fI (l1_203 / 1000)]) (h_q := h_204) (cl_q := 0) (sl_q := 0) rfl ?_
      refine ik_Wk 1 (pc_q := 61) (loc_q := [some (.ref 17), some (fI 1), some (fI nw), some (fI p), x4]) (st_q := [fI nw, fI (l1_203 / 1000)]) (h_q := h_204) (cl_q := 0) (sl_q := 0) rfl ?_
      refine fw_sub rfl ?_
      refine ik_Wk 2 (pc_q := 65) (loc_q := [some (.ref 17), some (fI 1), some (fI nw), some (fI p), some (fI ((l1_203 / 1000) - nw))]) (st_q := [fI p]) (h_q := h_204) (cl_q := 0) (sl_q := 0) rfl ?_
      refine fw_if_eq rfl rfl (by omega) (by omega) (fun hc3 => ?_) (fun hc3 => ?_)
      · refine ik_Wk 5 (pc_q := 91) (loc_q := [some (.ref 17), some (fI 1), some (fI nw), some (fI p), some (fI ((l1_203 / 1000) - nw))]) (st_q := [fI (-1), fI (-1), fI ((l1_203 / 1000) - nw), fI p, .ref 17]) (h_q := h_204) (cl_q := 0) (sl_q := 0) rfl ?_
        refine ik_Wc 88 5 0 [.ref 17, fI p, fI ((l1_203 / 1000) - nw), fI (-1), fI (-1)] [] rfl rfl rfl (by decide +kernel) rfl rfl (fw_rec k_204 rfl g_204_17 rfl (Nat.le_of_ble_eq_true rfl)) ?_
        refine ik_Wk 0 (pc_q := 0) (loc_q := [some (.ref 17), some (fI p), some (fI ((l1_203 / 1000) - nw)), some (fI (-1)), some (fI (-1))]) (st_q := []) (h_q := h_204) (cl_q := 0) (sl_q := 0) rfl ?_
        refine ik_Wk 1 (pc_q := 1) (loc_q := [some (.ref 17), some (fI p), some (fI ((l1_203 / 1000) - nw)), some (fI (-1)), some (fI (-1))]) (st_q := [.ref 17]) (h_q := h_204) (cl_q := 0) (sl_q := 0) rfl ?_
        refine fw_gf rfl rfl g_204_17 rfl ?_
        refine ik_Wk 2 (pc_q := 6) (loc_q := [some (.ref 17), some (fI p), some (fI ((l1_203 / 1000) - nw)), some (fI (-1)), some (fI (-1))]) (st_q := [fI p, fI 0, .ref 20]) (h_q := h_204) (cl_q := 0) (sl_q := 0) rfl ?_
        refine fx_ias (z := 0) rfl g_204_20 (by decide +kernel) (Nat.le_of_ble_eq_true rfl) (by decide +kernel) ?_
        intro h_205 e_205 f_205 l_205
        have k_205 : cL h_205 := l_205.trans k_204
        have fr_205 := hfr_wb fr_204 f_205 l_205 rfl
        clear l_205
        have g_205_7 := (f_205 7 (Nat.ne_of_beq_eq_false rfl)).trans g_204_7
        have g_205_8 := (f_205 8 (Nat.ne_of_beq_eq_false rfl)).trans g_204_8
        have g_205_9 := (f_205 9 (Nat.ne_of_beq_eq_false rfl)).trans g_204_9
        have g_205_10 := (f_205 10 (Nat.ne_of_beq_eq_false rfl)).trans g_204_10
        have g_205_11 := (f_205 11 (Nat.ne_of_beq_eq_false rfl)).trans g_204_11
        have g_205_12 := (f_205 12 (Nat.ne_of_beq_eq_false rfl)).trans g_204_12
        have g_205_13 := (f_205 13 (Nat.ne_of_beq_eq_false rfl)).trans g_204_13
        have g_205_15 := (f_205 15 (Nat.ne_of_beq_eq_false rfl)).trans g_204_15
        have g_205_17 := (f_205 17 (Nat.ne_of_beq_eq_false rfl)).trans g_204_17
        have g_205_18 := (f_205 18 (Nat.ne_of_beq_eq_false rfl)).trans g_204_18
        have g_205_19 := (f_205 19 (Nat.ne_of_beq_eq_false rfl)).trans g_204_19
        have g_205_21 := mf_cr_f g_204_21 (f_205 21 (Nat.ne_of_beq_eq_false rfl)) (f_205 22 (Nat.ne_of_beq_eq_false rfl)) (f_205 23 (Nat.ne_of_beq_eq_false rfl)) (f_205 24 (Nat.ne_of_beq_eq_false rfl))
        have g_205_33 := mf_cr_f g_204_33 (f_205 33 (Nat.ne_of_beq_eq_false rfl)) (f_205 34 (Nat.ne_of_beq_eq_false rfl)) (f_205 35 (Nat.ne_of_beq_eq_false rfl)) (f_205 36 (Nat.ne_of_beq_eq_false rfl))
        have g_205_20 : cE h_205 20 (.inl (.int, fA [p, y, -1, -1])) := e_205
        refine ik_Wk 1 (pc_q := 8) (loc_q := [some (.ref 17), some (fI p), some (fI ((l1_203 / 1000) - nw)), some (fI (-1)), some (fI (-1))]) (st_q := [.ref 17]) (h_q := h_205) (cl_q := 0) (sl_q := 0) rfl ?_
        refine fw_gf rfl rfl g_205_17 rfl ?_
        refine ik_Wk 2 (pc_q := 13) (loc_q := [some (.ref 17), some (fI p), some (fI ((l1_203 / 1000) - nw)), some (fI (-1)), some (fI (-1))]) (st_q := [fI ((l1_203 / 1000) - nw), fI 1, .ref 20]) (h_q := h_205) (cl_q := 0) (sl_q := 0) rfl ?_
        refine fx_ias (z := 1) rfl g_205_20 (by decide +kernel) (Nat.le_of_ble_eq_true rfl) (by decide +kernel) ?_
        intro h_206 e_206 f_206 l_206
        have k_206 : cL h_206 := l_206.trans k_205
        have fr_206 := hfr_wb fr_205 f_206 l_206 rfl
        clear l_206
        have g_206_7 := (f_206 7 (Nat.ne_of_beq_eq_false rfl)).trans g_205_7
        have g_206_8 := (f_206 8 (Nat.ne_of_beq_eq_false rfl)).trans g_205_8
        have g_206_9 := (f_206 9 (Nat.ne_of_beq_eq_false rfl)).trans g_205_9
        have g_206_10 := (f_206 10 (Nat.ne_of_beq_eq_false rfl)).trans g_205_10
        have g_206_11 := (f_206 11 (Nat.ne_of_beq_eq_false rfl)).trans g_205_11
        have g_206_12 := (f_206 12 (Nat.ne_of_beq_eq_false rfl)).trans g_205_12
        have g_206_13 := (f_206 13 (Nat.ne_of_beq_eq_false rfl)).trans g_205_13
        have g_206_15 := (f_206 15 (Nat.ne_of_beq_eq_false rfl)).trans g_205_15
        have g_206_17 := (f_206 17 (Nat.ne_of_beq_eq_false rfl)).trans g_205_17
        have g_206_18 := (f_206 18 (Nat.ne_of_beq_eq_false rfl)).trans g_205_18
        have g_206_19 := (f_206 19 (Nat.ne_of_beq_eq_false rfl)).trans g_205_19
        have g_206_21 := mf_cr_f g_205_21 (f_206 21 (Nat.ne_of_beq_eq_false rfl)) (f_206 22 (Nat.ne_of_beq_eq_false rfl)) (f_206 23 (Nat.ne_of_beq_eq_false rfl)) (f_206 24 (Nat.ne_of_beq_eq_false rfl))
        have g_206_33 := mf_cr_f g_205_33 (f_206 33 (Nat.ne_of_beq_eq_false rfl)) (f_206 34 (Nat.ne_of_beq_eq_false rfl)) (f_206 35 (Nat.ne_of_beq_eq_false rfl)) (f_206 36 (Nat.ne_of_beq_eq_false rfl))
        have g_206_20 : cE h_206 20 (.inl (.int, fA [p, (l1_203 / 1000) - nw, -1, -1])) := e_206
        refine ik_Wk 1 (pc_q := 15) (loc_q := [some (.ref 17), some (fI p), some (fI ((l1_203 / 1000) - nw)), some (fI (-1)), some (fI (-1))]) (st_q := [.ref 17]) (h_q := h_206) (cl_q := 0) (sl_q := 0) rfl ?_
        refine fw_gf rfl rfl g_206_17 rfl ?_
        refine ik_Wk 2 (pc_q := 20) (loc_q := [some (.ref 17), some (fI p), some (fI ((l1_203 / 1000) - nw)), some (fI (-1)), some (fI (-1))]) (st_q := [fI (-1), fI 2, .ref 20]) (h_q := h_206) (cl_q := 0) (sl_q := 0) rfl ?_
        refine fx_ias (z := 2) rfl g_206_20 (by decide +kernel) (Nat.le_of_ble_eq_true rfl) (by decide +kernel) ?_
        intro h_207 e_207 f_207 l_207
        have k_207 : cL h_207 := l_207.trans k_206
        have fr_207 := hfr_wb fr_206 f_207 l_207 rfl
        clear l_207
        have g_207_7 := (f_207 7 (Nat.ne_of_beq_eq_false rfl)).trans g_206_7
        have g_207_8 := (f_207 8 (Nat.ne_of_beq_eq_false rfl)).trans g_206_8
        have g_207_9 := (f_207 9 (Nat.ne_of_beq_eq_false rfl)).trans g_206_9
        have g_207_10 := (f_207 10 (Nat.ne_of_beq_eq_false rfl)).trans g_206_10
        have g_207_11 := (f_207 11 (Nat.ne_of_beq_eq_false rfl)).trans g_206_11
        have g_207_12 := (f_207 12 (Nat.ne_of_beq_eq_false rfl)).trans g_206_12
        have g_207_13 := (f_207 13 (Nat.ne_of_beq_eq_false rfl)).trans g_206_13
        have g_207_15 := (f_207 15 (Nat.ne_of_beq_eq_false rfl)).trans g_206_15
        have g_207_17 := (f_207 17 (Nat.ne_of_beq_eq_false rfl)).trans g_206_17
        have g_207_18 := (f_207 18 (Nat.ne_of_beq_eq_false rfl)).trans g_206_18
        have g_207_19 := (f_207 19 (Nat.ne_of_beq_eq_false rfl)).trans g_206_19
        have g_207_21 := mf_cr_f g_206_21 (f_207 21 (Nat.ne_of_beq_eq_false rfl)) (f_207 22 (Nat.ne_of_beq_eq_false rfl)) (f_207 23 (Nat.ne_of_beq_eq_false rfl)) (f_207 24 (Nat.ne_of_beq_eq_false rfl))
        have g_207_33 := mf_cr_f g_206_33 (f_207 33 (Nat.ne_of_beq_eq_false rfl)) (f_207 34 (Nat.ne_of_beq_eq_false rfl)) (f_207 35 (Nat.ne_of_beq_eq_false rfl)) (f_207 36 (Nat.ne_of_beq_eq_false rfl))
        have g_207_20 : cE h_207 20 (.inl (.int, fA [p, (l1_203 / 1000) - nw, -1, -1])) := e_207
        refine ik_Wk 1 (pc_q := 22) (loc_q := [some (.ref 17), some (fI p), some (fI ((l1_203 / 1000) - nw)), some (fI (-1)), some (fI (-1))]) (st_q := [.ref 17]) (h_q := h_207) (cl_q := 0) (sl_q := 0) rfl ?_
        refine fw_gf rfl rfl g_207_17 rfl ?_
        refine ik_Wk 2 (pc_q := 28) (loc_q := [some (.ref 17), some (fI p), some (fI ((l1_203 / 1000) - nw)), some (fI (-1)), some (fI (-1))]) (st_q := [fI (-1), fI 3, .ref 20]) (h_q := h_207) (cl_q := 0) (sl_q := 0) rfl ?_
        refine fx_ias (z := 3) rfl g_207_20 (by decide +kernel) (Nat.le_of_ble_eq_true rfl) (by decide +kernel) ?_
        intro h_208 e_208 f_208 l_208
        have k_208 : cL h_208 := l_208.trans k_207
        have fr_208 := hfr_wb fr_207 f_208 l_208 rfl
        clear l_208
        have g_208_7 := (f_208 7 (Nat.ne_of_beq_eq_false rfl)).trans g_207_7
        have g_208_8 := (f_208 8 (Nat.ne_of_beq_eq_false rfl)).trans g_207_8
        have g_208_9 := (f_208 9 (Nat.ne_of_beq_eq_false rfl)).trans g_207_9
        have g_208_10 := (f_208 10 (Nat.ne_of_beq_eq_false rfl)).trans g_207_10
        have g_208_11 := (f_208 11 (Nat.ne_of_beq_eq_false rfl)).trans g_207_11
        have g_208_12 := (f_208 12 (Nat.ne_of_beq_eq_false rfl)).trans g_207_12
        have g_208_13 := (f_208 13 (Nat.ne_of_beq_eq_false rfl)).trans g_207_13
        have g_208_15 := (f_208 15 (Nat.ne_of_beq_eq_false rfl)).trans g_207_15
        have g_208_17 := (f_208 17 (Nat.ne_of_beq_eq_false rfl)).trans g_207_17
        have g_208_18 := (f_208 18 (Nat.ne_of_beq_eq_false rfl)).trans g_207_18
        have g_208_19 := (f_208 19 (Nat.ne_of_beq_eq_false rfl)).trans g_207_19
        have g_208_21 := mf_cr_f g_207_21 (f_208 21 (Nat.ne_of_beq_eq_false rfl)) (f_208 22 (Nat.ne_of_beq_eq_false rfl)) (f_208 23 (Nat.ne_of_beq_eq_false rfl)) (f_208 24 (Nat.ne_of_beq_eq_false rfl))
        have g_208_33 := mf_cr_f g_207_33 (f_208 33 (Nat.ne_of_beq_eq_false rfl)) (f_208 34 (Nat.ne_of_beq_eq_false rfl)) (f_208 35 (Nat.ne_of_beq_eq_false rfl)) (f_208 36 (Nat.ne_of_beq_eq_false rfl))
        have g_208_20 : cE h_208 20 (.inl (.int, fA [p, (l1_203 / 1000) - nw, -1, -1])) := e_208
        refine ik_Wret rfl rfl ⟨_, _, rfl, rfl, ?_⟩
        refine ik_Wk 0 (pc_q := 94) (loc_q := [some (.ref 17), some (fI 1), some (fI nw), some (fI p), some (fI ((l1_203 / 1000) - nw))]) (st_q := []) (h_q := h_208) (cl_q := 0) (sl_q := 0) rfl ?_
        refine fw_inc (a := p) (loc_q := [some (.ref 17), some (fI 1), some (fI nw), some (fI (p + 1)), some (fI ((l1_203 / 1000) - nw))]) rfl rfl (Nat.le_of_ble_eq_true rfl) rfl ?_
        refine ik_Wk 1 (pc_q := 22) (loc_q := [some (.ref 17), some (fI 1), some (fI nw), some (fI (p + 1)), some (fI ((l1_203 / 1000) - nw))]) (st_q := []) (h_q := h_208) (cl_q := 0) (sl_q := 0) rfl ?_
        exact ih  (p + 1) p ((l1_203 / 1000) - nw) l0_203 l1_203 l2_203 wg'_204 wc'_204 ((we1.set p.toNat (5 * p + ((mx_w cn go ch (s ^^^ 1 <<< p.toNat) p).length : Int))).set p.toNat (5 * p + ((mx_w cn go ch s p).length : Int))) (some (fI ((l1_203 / 1000) - nw))) h_208 g_208_7 g_208_8 n8 g_208_9 n9 g_208_10 n10 g_208_11 m_204_11 g_208_12 m_204_12 g_208_13 hl2 g_208_15 g_208_17 g_208_18 g_208_19 g_208_20 g_208_21 g_208_33 k_208 fr_208 (by omega) (by omega) wy_204 (by rw [he, show (pl - 1 - p).toNat = (pl - 1 - (p + 1)).toNat + 1 by omega]; show (if p = 0 ∨ mk_ab y < mk_ab ((mk_vm cn go ch s pl ka pa fa kb pb fb 1) p) then _ else _) = _; rw [ev, if_pos (by omega)]) rfl (by omega)
      · refine ik_Wk 1 (pc_q := 70) (loc_q := [some (.ref 17), some (fI 1), some (fI nw), some (fI p), some (fI ((l1_203 / 1000) - nw))]) (st_q := [fI ((l1_203 / 1000) - nw)]) (h_q := h_204) (cl_q := 0) (sl_q := 0) rfl ?_
        refine fx_ab rfl rfl rfl ⟨Nat.le_of_ble_eq_true rfl, Nat.le_of_ble_eq_true rfl, Nat.le_of_ble_eq_true rfl⟩ (by omega) (by omega) ?_
        intro mm4 qmm4
        have ab1 : mk_ab ((l1_203 / 1000) - nw) = mm4 := by unfold mk_ab; split <;> omega
        refine ik_Wk 1 (pc_q := 74) (loc_q := [some (.ref 17), some (fI 1), some (fI nw), some (fI p), some (fI ((l1_203 / 1000) - nw))]) (st_q := [.ref 17, fI mm4]) (h_q := h_204) (cl_q := 0) (sl_q := 0) rfl ?_
        refine fw_gf rfl rfl g_204_17 rfl ?_
        refine ik_Wk 1 (pc_q := 78) (loc_q := [some (.ref 17), some (fI 1), some (fI nw), some (fI p), some (fI ((l1_203 / 1000) - nw))]) (st_q := [fI 1, .ref 20, fI mm4]) (h_q := h_204) (cl_q := 0) (sl_q := 0) rfl ?_
        refine fw_ial (z := 1) rfl g_204_20 (by decide +kernel) (Nat.le_of_ble_eq_true rfl) (by decide +kernel) ?_
        refine ik_Wk 0 (pc_q := 79) (loc_q := [some (.ref 17), some (fI 1), some (fI nw), some (fI p), some (fI ((l1_203 / 1000) - nw))]) (st_q := [fI y, fI mm4]) (h_q := h_204) (cl_q := 0) (sl_q := 0) rfl ?_
        refine fx_ab rfl rfl rfl ⟨Nat.le_of_ble_eq_true rfl, Nat.le_of_ble_eq_true rfl, Nat.le_of_ble_eq_true rfl⟩ (by omega) (by omega) ?_
        intro mm5 qmm5
        have ab0 : mk_ab y = mm5 := by unfold mk_ab; split <;> omega
        refine fw_ic_le rfl rfl (by omega) (by omega) (by omega) (by omega) (fun hc6 => ?_) (fun hc6 => ?_)
        · refine fw_inc (a := p) (loc_q := [some (.ref 17), some (fI 1), some (fI nw), some (fI (p + 1)), some (fI ((l1_203 / 1000) - nw))]) rfl rfl (Nat.le_of_ble_eq_true rfl) rfl ?_
          refine ik_Wk 1 (pc_q := 22) (loc_q := [some (.ref 17), some (fI 1), some (fI nw), some (fI (p + 1)), some (fI ((l1_203 / 1000) - nw))]) (st_q := []) (h_q := h_204) (cl_q := 0) (sl_q := 0) rfl ?_
          exact ih  (p + 1) b y l0_203 l1_203 l2_203 wg'_204 wc'_204 ((we1.set p.toNat (5 * p + ((mx_w cn go ch (s ^^^ 1 <<< p.toNat) p).length : Int))).set p.toNat (5 * p + ((mx_w cn go ch s p).length : Int))) (some (fI ((l1_203 / 1000) - nw))) h_204 g_204_7 g_204_8 n8 g_204_9 n9 g_204_10 n10 g_204_11 m_204_11 g_204_12 m_204_12 g_204_13 hl2 g_204_15 g_204_17 g_204_18 g_204_19 g_204_20 g_204_21 g_204_33 k_204 fr_204 (by omega) (by omega) wy_204 (by rw [he, show (pl - 1 - p).toNat = (pl - 1 - (p + 1)).toNat + 1 by omega]; show (if p = 0 ∨ mk_ab y < mk_ab ((mk_vm cn go ch s pl ka pa fa kb pb fb 1) p) then _ else _) = _; rw [ev, if_neg (by rw [ab0, ab1]; omega)]) rfl (by omega)
        · refine ik_Wk 5 (pc_q := 91) (loc_q := [some (.ref 17), some (fI 1), some (fI nw), some (fI p), some (fI ((l1_203 / 1000) - nw))]) (st_q := [fI (-1), fI (-1), fI ((l1_203 / 1000) - nw), fI p, .ref 17]) (h_q := h_204) (cl_q := 0) (sl_q := 0) rfl ?_
          refine ik_Wc 88 5 0 [.ref 17, fI p, fI ((l1_203 / 1000) - nw), fI (-1), fI (-1)] [] rfl rfl rfl (by decide +kernel) rfl rfl (fw_rec k_204 rfl g_204_17 rfl (Nat.le_of_ble_eq_true rfl)) ?_
          refine ik_Wk 0 (pc_q := 0) (loc_q := [some (.ref 17), some (fI p), some (fI ((l1_203 / 1000) - nw)), some (fI (-1)), some (fI (-1))]) (st_q := []) (h_q := h_204) (cl_q := 0) (sl_q := 0) rfl ?_
          refine ik_Wk 1 (pc_q := 1) (loc_q := [some (.ref 17), some (fI p), some (fI ((l1_203 / 1000) - nw)), some (fI (-1)), some (fI (-1))]) (st_q := [.ref 17]) (h_q := h_204) (cl_q := 0) (sl_q := 0) rfl ?_
          refine fw_gf rfl rfl g_204_17 rfl ?_
          refine ik_Wk 2 (pc_q := 6) (loc_q := [some (.ref 17), some (fI p), some (fI ((l1_203 / 1000) - nw)), some (fI (-1)), some (fI (-1))]) (st_q := [fI p, fI 0, .ref 20]) (h_q := h_204) (cl_q := 0) (sl_q := 0) rfl ?_
          refine fx_ias (z := 0) rfl g_204_20 (by decide +kernel) (Nat.le_of_ble_eq_true rfl) (by decide +kernel) ?_
          intro h_209 e_209 f_209 l_209
          have k_209 : cL h_209 := l_209.trans k_204
          have fr_209 := hfr_wb fr_204 f_209 l_209 rfl
          clear l_209
          have g_209_7 := (f_209 7 (Nat.ne_of_beq_eq_false rfl)).trans g_204_7
          have g_209_8 := (f_209 8 (Nat.ne_of_beq_eq_false rfl)).trans g_204_8
          have g_209_9 := (f_209 9 (Nat.ne_of_beq_eq_false rfl)).trans g_204_9
          have g_209_10 := (f_209 10 (Nat.ne_of_beq_eq_false rfl)).trans g_204_10
          have g_209_11 := (f_209 11 (Nat.ne_of_beq_eq_false rfl)).trans g_204_11
          have g_209_12 := (f_209 12 (Nat.ne_of_beq_eq_false rfl)).trans g_204_12
          have g_209_13 := (f_209 13 (Nat.ne_of_beq_eq_false rfl)).trans g_204_13
          have g_209_15 := (f_209 15 (Nat.ne_of_beq_eq_false rfl)).trans g_204_15
          have g_209_17 := (f_209 17 (Nat.ne_of_beq_eq_false rfl)).trans g_204_17
          have g_209_18 := (f_209 18 (Nat.ne_of_beq_eq_false rfl)).trans g_204_18
          have g_209_19 := (f_209 19 (Nat.ne_of_beq_eq_false rfl)).trans g_204_19
          have g_209_21 := mf_cr_f g_204_21 (f_209 21 (Nat.ne_of_beq_eq_false rfl)) (f_209 22 (Nat.ne_of_beq_eq_false rfl)) (f_209 23 (Nat.ne_of_beq_eq_false rfl)) (f_209 24 (Nat.ne_of_beq_eq_false rfl))
          have g_209_33 := mf_cr_f g_204_33 (f_209 33 (Nat.ne_of_beq_eq_false rfl)) (f_209 34 (Nat.ne_of_beq_eq_false rfl)) (f_209 35 (Nat.ne_of_beq_eq_false rfl)) (f_209 36 (Nat.ne_of_beq_eq_false rfl))
          have g_209_20 : cE h_209 20 (.inl (.int, fA [p, y, -1, -1])) := e_209
          refine ik_Wk 1 (pc_q := 8) (loc_q := [some (.ref 17), some (fI p), some (fI ((l1_203 / 1000) - nw)), some (fI (-1)), some (fI (-1))]) (st_q := [.ref 17]) (h_q := h_209) (cl_q := 0) (sl_q := 0) rfl ?_
          refine fw_gf rfl rfl g_209_17 rfl ?_
          refine ik_Wk 2 (pc_q := 13) (loc_q := [some (.ref 17), some (fI p), some (fI ((l1_203 / 1000) - nw)), some (fI (-1)), some (fI (-1))]) (st_q := [fI ((l1_203 / 1000) - nw), fI 1, .ref 20]) (h_q := h_209) (cl_q := 0) (sl_q := 0) rfl ?_
          refine fx_ias (z := 1) rfl g_209_20 (by decide +kernel) (Nat.le_of_ble_eq_true rfl) (by decide +kernel) ?_
          intro h_210 e_210 f_210 l_210
          have k_210 : cL h_210 := l_210.trans k_209
          have fr_210 := hfr_wb fr_209 f_210 l_210 rfl
          clear l_210
          have g_210_7 := (f_210 7 (Nat.ne_of_beq_eq_false rfl)).trans g_209_7
          have g_210_8 := (f_210 8 (Nat.ne_of_beq_eq_false rfl)).trans g_209_8
          have g_210_9 := (f_210 9 (Nat.ne_of_beq_eq_false rfl)).trans g_209_9
          have g_210_10 := (f_210 10 (Nat.ne_of_beq_eq_false rfl)).trans g_209_10
          have g_210_11 := (f_210 11 (Nat.ne_of_beq_eq_false rfl)).trans g_209_11
          have g_210_12 := (f_210 12 (Nat.ne_of_beq_eq_false rfl)).trans g_209_12
          have g_210_13 := (f_210 13 (Nat.ne_of_beq_eq_false rfl)).trans g_209_13
          have g_210_15 := (f_210 15 (Nat.ne_of_beq_eq_false rfl)).trans g_209_15
          have g_210_17 := (f_210 17 (Nat.ne_of_beq_eq_false rfl)).trans g_209_17
          have g_210_18 := (f_210 18 (Nat.ne_of_beq_eq_false rfl)).trans g_209_18
          have g_210_19 := (f_210 19 (Nat.ne_of_beq_eq_false rfl)).trans g_209_19
          have g_210_21 := mf_cr_f g_209_21 (f_210 21 (Nat.ne_of_beq_eq_false rfl)) (f_210 22 (Nat.ne_of_beq_eq_false rfl)) (f_210 23 (Nat.ne_of_beq_eq_false rfl)) (f_210 24 (Nat.ne_of_beq_eq_false rfl))
          have g_210_33 := mf_cr_f g_209_33 (f_210 33 (Nat.ne_of_beq_eq_false rfl)) (f_210 34 (Nat.ne_of_beq_eq_false rfl)) (f_210 35 (Nat.ne_of_beq_eq_false rfl)) (f_210 36 (Nat.ne_of_beq_eq_false rfl))
          have g_210_20 : cE h_210 20 (.inl (.int, fA [p, (l1_203 / 1000) - nw, -1, -1])) := e_210
          refine ik_Wk 1 (pc_q := 15) (loc_q := [some (.ref 17), some (fI p), some (fI ((l1_203 / 1000) - nw)), some (fI (-1)), some (fI (-1))]) (st_q := [.ref 17]) (h_q := h_210) (cl_q := 0) (sl_q := 0) rfl ?_
          refine fw_gf rfl rfl g_210_17 rfl ?_
          refine ik_Wk 2 (pc_q := 20) (loc_q := [some (.ref 17), some (fI p), some (fI ((l1_203 / 1000) - nw)), some (fI (-1)), some (fI (-1))]) (st_q := [fI (-1), fI 2, .ref 20]) (h_q := h_210) (cl_q := 0) (sl_q := 0) rfl ?_
          refine fx_ias (z := 2) rfl g_210_20 (by decide +kernel) (Nat.le_of_ble_eq_true rfl) (by decide +kernel) ?_
          intro h_211 e_211 f_211 l_211
          have k_211 : cL h_211 := l_211.trans k_210
          have fr_211 := hfr_wb fr_210 f_211 l_211 rfl
          clear l_211
          have g_211_7 := (f_211 7 (Nat.ne_of_beq_eq_false rfl)).trans g_210_7
          have g_211_8 := (f_211 8 (Nat.ne_of_beq_eq_false rfl)).trans g_210_8
          have g_211_9 := (f_211 9 (Nat.ne_of_beq_eq_false rfl)).trans g_210_9
          have g_211_10 := (f_211 10 (Nat.ne_of_beq_eq_false rfl)).trans g_210_10
          have g_211_11 := (f_211 11 (Nat.ne_of_beq_eq_false rfl)).trans g_210_11
          have g_211_12 := (f_211 12 (Nat.ne_of_beq_eq_false rfl)).trans g_210_12
          have g_211_13 := (f_211 13 (Nat.ne_of_beq_eq_false rfl)).trans g_210_13
          have g_211_15 := (f_211 15 (Nat.ne_of_beq_eq_false rfl)).trans g_210_15
          have g_211_17 := (f_211 17 (Nat.ne_of_beq_eq_false rfl)).trans g_210_17
          have g_211_18 := (f_211 18 (Nat.ne_of_beq_eq_false rfl)).trans g_210_18
          have g_211_19 := (f_211 19 (Nat.ne_of_beq_eq_false rfl)).trans g_210_19
          have g_211_21 := mf_cr_f g_210_21 (f_211 21 (Nat.ne_of_beq_eq_false rfl)) (f_211 22 (Nat.ne_of_beq_eq_false rfl)) (f_211 23 (Nat.ne_of_beq_eq_false rfl)) (f_211 24 (Nat.ne_of_beq_eq_false rfl))
          have g_211_33 := mf_cr_f g_210_33 (f_211 33 (Nat.ne_of_beq_eq_false rfl)) (f_211 34 (Nat.ne_of_beq_eq_false rfl)) (f_211 35 (Nat.ne_of_beq_eq_false rfl)) (f_211 36 (Nat.ne_of_beq_eq_false rfl))
          have g_211_20 : cE h_211 20 (.inl (.int, fA [p, (l1_203 / 1000) - nw, -1, -1])) := e_211
          refine ik_Wk 1 (pc_q := 22) (loc_q := [some (.ref 17), some (fI p), some (fI ((l1_203 / 1000) - nw)), some (fI (-1)), some (fI (-1))]) (st_q := [.ref 17]) (h_q := h_211) (cl_q := 0) (sl_q := 0) rfl ?_
          refine fw_gf rfl rfl g_211_17 rfl ?_
          refine ik_Wk 2 (pc_q := 28) (loc_q := [some (.ref 17), some (fI p), some (fI ((l1_203 / 1000) - nw)), some (fI (-1)), some (fI (-1))]) (st_q := [fI (-1), fI 3, .ref 20]) (h_q := h_211) (cl_q := 0) (sl_q := 0) rfl ?_
          refine fx_ias (z := 3) rfl g_211_20 (by decide +kernel) (Nat.le_of_ble_eq_true rfl) (by decide +kernel) ?_
          intro h_212 e_212 f_212 l_212
          have k_212 : cL h_212 := l_212.trans k_211
          have fr_212 := hfr_wb fr_211 f_212 l_212 rfl
          clear l_212
          have g_212_7 := (f_212 7 (Nat.ne_of_beq_eq_false rfl)).trans g_211_7
          have g_212_8 := (f_212 8 (Nat.ne_of_beq_eq_false rfl)).trans g_211_8
          have g_212_9 := (f_212 9 (Nat.ne_of_beq_eq_false rfl)).trans g_211_9
          have g_212_10 := (f_212 10 (Nat.ne_of_beq_eq_false rfl)).trans g_211_10
          have g_212_11 := (f_212 11 (Nat.ne_of_beq_eq_false rfl)).trans g_211_11
          have g_212_12 := (f_212 12 (Nat.ne_of_beq_eq_false rfl)).trans g_211_12
          have g_212_13 := (f_212 13 (Nat.ne_of_beq_eq_false rfl)).trans g_211_13
          have g_212_15 := (f_212 15 (Nat.ne_of_beq_eq_false rfl)).trans g_211_15
          have g_212_17 := (f_212 17 (Nat.ne_of_beq_eq_false rfl)).trans g_211_17
          have g_212_18 := (f_212 18 (Nat.ne_of_beq_eq_false rfl)).trans g_211_18
          have g_212_19 := (f_212 19 (Nat.ne_of_beq_eq_false rfl)).trans g_211_19
          have g_212_21 := mf_cr_f g_211_21 (f_212 21 (Nat.ne_of_beq_eq_false rfl)) (f_212 22 (Nat.ne_of_beq_eq_false rfl)) (f_212 23 (Nat.ne_of_beq_eq_false rfl)) (f_212 24 (Nat.ne_of_beq_eq_false rfl))
          have g_212_33 := mf_cr_f g_211_33 (f_212 33 (Nat.ne_of_beq_eq_false rfl)) (f_212 34 (Nat.ne_of_beq_eq_false rfl)) (f_212 35 (Nat.ne_of_beq_eq_false rfl)) (f_212 36 (Nat.ne_of_beq_eq_false rfl))
          have g_212_20 : cE h_212 20 (.inl (.int, fA [p, (l1_203 / 1000) - nw, -1, -1])) := e_212
          refine ik_Wret rfl rfl ⟨_, _, rfl, rfl, ?_⟩
          refine ik_Wk 0 (pc_q := 94) (loc_q := [some (.ref 17), some (fI 1), some (fI nw), some (fI p), some (fI ((l1_203 / 1000) - nw))]) (st_q := []) (h_q := h_212) (cl_q := 0) (sl_q := 0) rfl ?_
          refine fw_inc (a := p) (loc_q := [some (.ref 17), some (fI 1), some (fI nw), some (fI (p + 1)), some (fI ((l1_203 / 1000) - nw))]) rfl rfl (Nat.le_of_ble_eq_true rfl) rfl ?_
          refine ik_Wk 1 (pc_q := 22) (loc_q := [some (.ref 17), some (fI 1), some (fI nw), some (fI (p + 1)), some (fI ((l1_203 / 1000) - nw))]) (st_q := []) (h_q := h_212) (cl_q := 0) (sl_q := 0) rfl ?_
          exact ih  (p + 1) p ((l1_203 / 1000) - nw) l0_203 l1_203 l2_203 wg'_204 wc'_204 ((we1.set p.toNat (5 * p + ((mx_w cn go ch (s ^^^ 1 <<< p.toNat) p).length : Int))).set p.toNat (5 * p + ((mx_w cn go ch s p).length : Int))) (some (fI ((l1_203 / 1000) - nw))) h_212 g_212_7 g_212_8 n8 g_212_9 n9 g_212_10 n10 g_212_11 m_204_11 g_212_12 m_204_12 g_212_13 hl2 g_212_15 g_212_17 g_212_18 g_212_19 g_212_20 g_212_21 g_212_33 k_212 fr_212 (by omega) (by omega) wy_204 (by rw [he, show (pl - 1 - p).toNat = (pl - 1 - (p + 1)).toNat + 1 by omega]; show (if p = 0 ∨ mk_ab y < mk_ab ((mk_vm cn go ch s pl ka pa fa kb pb fb 1) p) then _ else _) = _; rw [ev, if_pos (by rw [ab0, ab1]; omega)]) rfl (by omega)

theorem cs_most1 {h : List ik_E} {pl : Int} {lo : Int} {s : Nat} {ka : Int} {pa : Int} {fa : Int} {kb : Int} {pb : Int} {fb : Int} {bo : Int} {la : Int} {lb : Int} {t0 : Int} {t1 : Int} {t2 : Int} {t3 : Int} {wg : List Int} {wc : List Int} {we : List Int} {cn : List Int} {go : List Int} {ch : List Int} (q0 : 2 ≤ pl ∧ pl ≤ 12) (q1 : 0 ≤ ka ∧ ka ≤ 2 ∧ 0 ≤ kb ∧ kb ≤ 2) (q2 : 0 ≤ pa ∧ pa < pl - 1) (q3 : 0 ≤ pb ∧ pb < pl - 1) (q4 : 0 ≤ fa ∧ fa ≤ 30 ∧ 0 ≤ fb ∧ fb ≤ 30) (q5 : ∀ x : Int, (0 : Int) ≤ x → x < pl - 1 → mx_wy wg wc we x (mx_w cn go ch s x)) (q6 : mx_rw pl cn go ch) (q7 : True) (q8 : s < 4096) (h7 : cE h 7 (.inr (0, [fI pl, fI ((s : Nat) : Int), fI lo, .ref 8, .ref 9, .ref 10, .ref 11, .ref 12, .ref 13]))) (h8 : cE h 8 (.inl (.int, fA cn))) (n8 : cn.length = (12 : Nat)) (h9 : cE h 9 (.inl (.int, fA go))) (n9 : go.length = (48 : Nat)) (h10 : cE h 10 (.inl (.int, fA ch))) (n10 : ch.length = (48 : Nat)) (h11 : cE h 11 (.inl (.int, fA wg))) (n11 : wg.length = (60 : Nat)) (h12 : cE h 12 (.inl (.int, fA wc))) (n12 : wc.length = (60 : Nat)) (h13 : cE h 13 (.inl (.int, fA we))) (n13 : we.length = (12 : Nat)) (h15 : cE h 15 (.inl (.int, fA [ka, pa, fa, kb, pb, fb]))) (h17 : cE h 17 (.inr (8, [.ref 7, .ref 15, .ref 18, .ref 19, fJ bo, .ref 20]))) (h18 : cE h 18 (.inl (.object "SlowerCork$Course", [.ref 21, .ref 25, .ref 29, .ref 33, .ref 37, .ref 41]))) (h19 : cE h 19 (.inl (.long, fL [la, lb]))) (h20 : cE h 20 (.inl (.int, fA [t0, t1, t2, t3]))) (h21 : mf_cr h 21 ) (h33 : mf_cr h 33 ) (hl : h.length = (94 : Nat)) : ik_F 85 [.ref 17, fI 1] h (fun rv h_q => ∃ (l0 : Int) (l1 : Int) (l2 : Int) (wg' : List Int) (wc' : List Int) (we' : List Int), rv = [] ∧ cE h_q 7 (.inr (0, [fI pl, fI ((s : Nat) : Int), fI lo, .ref 8, .ref 9, .ref 10, .ref 11, .ref 12, .ref 13])) ∧ cE h_q 11 (.inl (.int, fA wg')) ∧ wg'.length = (60 : Nat) ∧ cE h_q 12 (.inl (.int, fA wc')) ∧ wc'.length = (60 : Nat) ∧ cE h_q 13 (.inl (.int, fA we')) ∧ we'.length = (12 : Nat) ∧ cE h_q 17 (.inr (8, [.ref 7, .ref 15, .ref 18, .ref 19, fJ l2, .ref 20])) ∧ cE h_q 19 (.inl (.long, fL [l0, l1])) ∧ cE h_q 20 (.inl (.int, fA [(mk_mo (mk_vm cn go ch s pl ka pa fa kb pb fb 1) (pl - 1).toNat 0 (-1) 0).1, (mk_mo (mk_vm cn go ch s pl ka pa fa kb pb fb 1) (pl - 1).toNat 0 (-1) 0).2, -1, -1])) ∧ mf_cr h_q 21  ∧ mf_cr h_q 33  ∧ (∀ x : Int, (0 : Int) ≤ x → x < pl - 1 → mx_wy wg' wc' we' x (mx_w cn go ch s x)) ∧ hfr [7, 11, 12, 13, 17, 19, 20, 21, 22, 23, 24, 33, 34, 35, 36] h h_q) := by
  refine ik_Wk 1 (pc_q := 1) (loc_q := [some (.ref 17), some (fI 1), none, none, none]) (st_q := [.ref 17]) (h_q := h) (cl_q := 0) (sl_q := 0) rfl ?_
  refine fw_ld 1000000 rfl rfl (by decide +kernel) ?_
  refine fw_call 79 2 0 [.ref 17, fI 1000000] [] rfl rfl rfl (Nat.le_of_ble_eq_true rfl) rfl rfl (fw_rec hl rfl h17 rfl (Nat.le_of_ble_eq_true rfl)) (cs_raceAsSet (pl := pl) (lo := lo) (s := s) (ka := ka) (pa := pa) (fa := fa) (kb := kb) (pb := pb) (fb := fb) (lim := 1000000) (bo := bo) (la := la) (lb := lb) (wg := wg) (wc := wc) (we := we) (W := (fun x => mx_w cn go ch s x)) (by omega) (by omega) (by omega) (by omega) (by omega) (by omega) q5 (mx_rw_ok q6 _) h7 h11 n11 h12 n12 h13 n13 h15 h17 h18 h19 h21 h33 hl) ?_
  rintro _ h_213 ⟨l0_213, l1_213, l2_213, rfl, e_213_17, e_213_19, e_213_21, e_213_33, p_213_0, p_213_1, F_213⟩
  have k_213 : cL h_213 := F_213.1.trans hl
  have fr_213 := hfr_cb (hfr_refl [7, 11, 12, 13, 17, 19, 20, 21, 22, 23, 24, 33, 34, 35, 36] h) F_213 rfl
  have g_213_7 := (hfr_g F_213 7 rfl).trans h7
  have g_213_8 := (hfr_g F_213 8 rfl).trans h8
  have g_213_9 := (hfr_g F_213 9 rfl).trans h9
  have g_213_10 := (hfr_g F_213 10 rfl).trans h10
  have g_213_11 := (hfr_g F_213 11 rfl).trans h11
  have g_213_12 := (hfr_g F_213 12 rfl).trans h12
  have g_213_13 := (hfr_g F_213 13 rfl).trans h13
  have g_213_15 := (hfr_g F_213 15 rfl).trans h15
  have g_213_18 := (hfr_g F_213 18 rfl).trans h18
  have g_213_20 := (hfr_g F_213 20 rfl).trans h20
  have g_213_17 : cE h_213 17 (.inr (8, [.ref 7, .ref 15, .ref 18, .ref 19, fJ l2_213, .ref 20])) := e_213_17
  have g_213_19 : cE h_213 19 (.inl (.long, fL [l0_213, l1_213])) := e_213_19
  have g_213_21 : mf_cr h_213 21  := e_213_21
  have g_213_33 : mf_cr h_213 33  := e_213_33
  refine ik_Wk 0 (pc_q := 6) (loc_q := [some (.ref 17), some (fI 1), none, none, none]) (st_q := []) (h_q := h_213) (cl_q := 0) (sl_q := 0) rfl ?_
  have ka_213 := mr_ok_cm (W := (fun x => mx_w cn go ch s x)) (k := ka) (mx_rw_ok q6 _) q2
  have kb_213 := mr_ok_cm (W := (fun x => mx_w cn go ch s x)) (k := kb) (mx_rw_ok q6 _) q3
  have Fa_213 := mr_F_b ka_213 kb_213 fa (show 0 ≤ fb by omega)
  have Fb_213 := mr_F_b kb_213 ka_213 fb (show 0 ≤ fa by omega)
  have el_213 : l0_213 = mr_F0 (mf_cm (fun x => mx_w cn go ch s x) (pl - 1) ka pa) fa (mf_cm (fun x => mx_w cn go ch s x) (pl - 1) kb pb) fb ∧ l1_213 = mr_F0 (mf_cm (fun x => mx_w cn go ch s x) (pl - 1) kb pb) fb (mf_cm (fun x => mx_w cn go ch s x) (pl - 1) ka pa) fa := by
    rcases p_213_1 with e | e
    · exact ⟨e.1, e.2.1⟩
    · omega
  have ew_213 : (l1_213 / 1000 : Int) = (mr_w (mf_cm (fun x => mx_w cn go ch s x) (pl - 1) ka pa) fa (mf_cm (fun x => mx_w cn go ch s x) (pl - 1) kb pb) fb 1 : Int) := by rw [mr_w_1, el_213.2]
  have wb_213 := mr_w_b ka_213 kb_213 (show 0 ≤ fa by omega) (show 0 ≤ fb by omega) 1
  refine ik_Wk 2 (pc_q := 8) (loc_q := [some (.ref 17), some (fI 1), none, none, none]) (st_q := [fI 1, .ref 17]) (h_q := h_213) (cl_q := 0) (sl_q := 0) rfl ?_
  refine ik_Wc 74 2 0 [.ref 17, fI 1] [] rfl rfl rfl (by decide +kernel) rfl rfl (fw_rec k_213 rfl g_213_17 rfl (Nat.le_of_ble_eq_true rfl)) ?_
  refine ik_Wk 0 (pc_q := 0) (loc_q := [some (.ref 17), some (fI 1)]) (st_q := []) (h_q := h_213) (cl_q := 0) (sl_q := 0) rfl ?_
  refine ik_Wk 1 (pc_q := 1) (loc_q := [some (.ref 17), some (fI 1)]) (st_q := [.ref 17]) (h_q := h_213) (cl_q := 0) (sl_q := 0) rfl ?_
  refine fw_gf rfl rfl g_213_17 rfl ?_
  refine ik_Wk 1 (pc_q := 5) (loc_q := [some (.ref 17), some (fI 1)]) (st_q := [fI 1, .ref 19]) (h_q := h_213) (cl_q := 0) (sl_q := 0) rfl ?_
  refine fx_lal (z := 1) rfl g_213_19 (by decide +kernel) (Nat.le_of_ble_eq_true rfl) (by decide +kernel) ?_
  refine ik_Wk 0 (pc_q := 6) (loc_q := [some (.ref 17), some (fI 1)]) (st_q := [fJ l1_213]) (h_q := h_213) (cl_q := 0) (sl_q := 0) rfl ?_
  refine fw_l2 1000 rfl rfl (by decide +kernel) ?_
  refine fx_ldiv rfl (by omega) (by omega) (by omega) (by omega) ?_
  refine fx_l2i rfl ?_
  refine ik_Wret rfl rfl ⟨_, _, rfl, rfl, ?_⟩
  refine ik_Wk 0 (pc_q := 11) (loc_q := [some (.ref 17), some (fI 1), none, none, none]) (st_q := [fI (l1_213 / 1000)]) (h_q := h_213) (cl_q := 0) (sl_q := 0) rfl ?_
  refine ik_Wk 6 (pc_q := 17) (loc_q := [some (.ref 17), some (fI 1), some (fI (l1_213 / 1000)), none, none]) (st_q := [fI (-1), fI (-1), fI 0, fI (-1), .ref 17]) (h_q := h_213) (cl_q := 0) (sl_q := 0) rfl ?_
  refine ik_Wc 88 5 0 [.ref 17, fI (-1), fI 0, fI (-1), fI (-1)] [] rfl rfl rfl (by decide +kernel) rfl rfl (fw_rec k_213 rfl g_213_17 rfl (Nat.le_of_ble_eq_true rfl)) ?_
  refine ik_Wk 0 (pc_q := 0) (loc_q := [some (.ref 17), some (fI (-1)), some (fI 0), some (fI (-1)), some (fI (-1))]) (st_q := []) (h_q := h_213) (cl_q := 0) (sl_q := 0) rfl ?_
  refine ik_Wk 1 (pc_q := 1) (loc_q := [some (.ref 17), some (fI (-1)), some (fI 0), some (fI (-1)), some (fI (-1))]) (st_q := [.ref 17]) (h_q := h_213) (cl_q := 0) (sl_q := 0) rfl ?_
  refine fw_gf rfl rfl g_213_17 rfl ?_
  refine ik_Wk 2 (pc_q := 6) (loc_q := [some (.ref 17), some (fI (-1)), some (fI 0), some (fI (-1)), some (fI (-1))]) (st_q := [fI (-1), fI 0, .ref 20]) (h_q := h_213) (cl_q := 0) (sl_q := 0) rfl ?_
  refine fx_ias (z := 0) rfl g_213_20 (by decide +kernel) (Nat.le_of_ble_eq_true rfl) (by decide +kernel) ?_
  intro h_214 e_214 f_214 l_214
  have k_214 : cL h_214 := l_214.trans k_213
  have fr_214 := hfr_wb fr_213 f_214 l_214 rfl
  clear l_214
  have g_214_7 := (f_214 7 (Nat.ne_of_beq_eq_false rfl)).trans g_213_7
  have g_214_8 := (f_214 8 (Nat.ne_of_beq_eq_false rfl)).trans g_213_8
  have g_214_9 := (f_214 9 (Nat.ne_of_beq_eq_false rfl)).trans g_213_9
  have g_214_10 := (f_214 10 (Nat.ne_of_beq_eq_false rfl)).trans g_213_10
  have g_214_11 := (f_214 11 (Nat.ne_of_beq_eq_false rfl)).trans g_213_11
  have g_214_12 := (f_214 12 (Nat.ne_of_beq_eq_false rfl)).trans g_213_12
  have g_214_13 := (f_214 13 (Nat.ne_of_beq_eq_false rfl)).trans g_213_13
  have g_214_15 := (f_214 15 (Nat.ne_of_beq_eq_false rfl)).trans g_213_15
  have g_214_17 := (f_214 17 (Nat.ne_of_beq_eq_false rfl)).trans g_213_17
  have g_214_18 := (f_214 18 (Nat.ne_of_beq_eq_false rfl)).trans g_213_18
  have g_214_19 := (f_214 19 (Nat.ne_of_beq_eq_false rfl)).trans g_213_19
  have g_214_21 := mf_cr_f g_213_21 (f_214 21 (Nat.ne_of_beq_eq_false rfl)) (f_214 22 (Nat.ne_of_beq_eq_false rfl)) (f_214 23 (Nat.ne_of_beq_eq_false rfl)) (f_214 24 (Nat.ne_of_beq_eq_false rfl))
  have g_214_33 := mf_cr_f g_213_33 (f_214 33 (Nat.ne_of_beq_eq_false rfl)) (f_214 34 (Nat.ne_of_beq_eq_false rfl)) (f_214 35 (Nat.ne_of_beq_eq_false rfl)) (f_214 36 (Nat.ne_of_beq_eq_false rfl))
  have g_214_20 : cE h_214 20 (.inl (.int, fA [-1, t1, t2, t3])) := e_214
  refine ik_Wk 1 (pc_q := 8) (loc_q := [some (.ref 17), some (fI (-1)), some (fI 0), some (fI (-1)), some (fI (-1))]) (st_q := [.ref 17]) (h_q := h_214) (cl_q := 0) (sl_q := 0) rfl ?_
  refine fw_gf rfl rfl g_214_17 rfl ?_
  refine ik_Wk 2 (pc_q := 13) (loc_q := [some (.ref 17), some (fI (-1)), some (fI 0), some (fI (-1)), some (fI (-1))]) (st_q := [fI 0, fI 1, .ref 20]) (h_q := h_214) (cl_q := 0) (sl_q := 0) rfl ?_
  refine fx_ias (z := 1) rfl g_214_20 (by decide +kernel) (Nat.le_of_ble_eq_true rfl) (by decide +kernel) ?_
  intro h_215 e_215 f_215 l_215
  have k_215 : cL h_215 := l_215.trans k_214
  have fr_215 := hfr_wb fr_214 f_215 l_215 rfl
  clear l_215
  have g_215_7 := (f_215 7 (Nat.ne_of_beq_eq_false rfl)).trans g_214_7
  have g_215_8 := (f_215 8 (Nat.ne_of_beq_eq_false rfl)).trans g_214_8
  have g_215_9 := (f_215 9 (Nat.ne_of_beq_eq_false rfl)).trans g_214_9
  have g_215_10 := (f_215 10 (Nat.ne_of_beq_eq_false rfl)).trans g_214_10
  have g_215_11 := (f_215 11 (Nat.ne_of_beq_eq_false rfl)).trans g_214_11
  have g_215_12 := (f_215 12 (Nat.ne_of_beq_eq_false rfl)).trans g_214_12
  have g_215_13 := (f_215 13 (Nat.ne_of_beq_eq_false rfl)).trans g_214_13
  have g_215_15 := (f_215 15 (Nat.ne_of_beq_eq_false rfl)).trans g_214_15
  have g_215_17 := (f_215 17 (Nat.ne_of_beq_eq_false rfl)).trans g_214_17
  have g_215_18 := (f_215 18 (Nat.ne_of_beq_eq_false rfl)).trans g_214_18
  have g_215_19 := (f_215 19 (Nat.ne_of_beq_eq_false rfl)).trans g_214_19
  have g_215_21 := mf_cr_f g_214_21 (f_215 21 (Nat.ne_of_beq_eq_false rfl)) (f_215 22 (Nat.ne_of_beq_eq_false rfl)) (f_215 23 (Nat.ne_of_beq_eq_false rfl)) (f_215 24 (Nat.ne_of_beq_eq_false rfl))
  have g_215_33 := mf_cr_f g_214_33 (f_215 33 (Nat.ne_of_beq_eq_false rfl)) (f_215 34 (Nat.ne_of_beq_eq_false rfl)) (f_215 35 (Nat.ne_of_beq_eq_false rfl)) (f_215 36 (Nat.ne_of_beq_eq_false rfl))
  have g_215_20 : cE h_215 20 (.inl (.int, fA [-1, 0, t2, t3])) := e_215
  refine ik_Wk 1 (pc_q := 15) (loc_q := [some (.ref 17), some (fI (-1)), some (fI 0), some (fI (-1)), some (fI (-1))]) (st_q := [.ref 17]) (h_q := h_215) (cl_q := 0) (sl_q := 0) rfl ?_
  refine fw_gf rfl rfl g_215_17 rfl ?_
  refine ik_Wk 2 (pc_q := 20) (loc_q := [some (.ref 17), some (fI (-1)), some (fI 0), some (fI (-1)), some (fI (-1))]) (st_q := [fI (-1), fI 2, .ref 20]) (h_q := h_215) (cl_q := 0) (sl_q := 0) rfl ?_
  refine fx_ias (z := 2) rfl g_215_20 (by decide +kernel) (Nat.le_of_ble_eq_true rfl) (by decide +kernel) ?_
  intro h_216 e_216 f_216 l_216
  have k_216 : cL h_216 := l_216.trans k_215
  have fr_216 := hfr_wb fr_215 f_216 l_216 rfl
  clear l_216
  have g_216_7 := (f_216 7 (Nat.ne_of_beq_eq_false rfl)).trans g_215_7
  have g_216_8 := (f_216 8 (Nat.ne_of_beq_eq_false rfl)).trans g_215_8
  have g_216_9 := (f_216 9 (Nat.ne_of_beq_eq_false rfl)).trans g_215_9
  have g_216_10 := (f_216 10 (Nat.ne_of_beq_eq_false rfl)).trans g_215_10
  have g_216_11 := (f_216 11 (Nat.ne_of_beq_eq_false rfl)).trans g_215_11
  have g_216_12 := (f_216 12 (Nat.ne_of_beq_eq_false rfl)).trans g_215_12
  have g_216_13 := (f_216 13 (Nat.ne_of_beq_eq_false rfl)).trans g_215_13
  have g_216_15 := (f_216 15 (Nat.ne_of_beq_eq_false rfl)).trans g_215_15
  have g_216_17 := (f_216 17 (Nat.ne_of_beq_eq_false rfl)).trans g_215_17
  have g_216_18 := (f_216 18 (Nat.ne_of_beq_eq_false rfl)).trans g_215_18
  have g_216_19 := (f_216 19 (Nat.ne_of_beq_eq_false rfl)).trans g_215_19
  have g_216_21 := mf_cr_f g_215_21 (f_216 21 (Nat.ne_of_beq_eq_false rfl)) (f_216 22 (Nat.ne_of_beq_eq_false rfl)) (f_216 23 (Nat.ne_of_beq_eq_false rfl)) (f_216 24 (Nat.ne_of_beq_eq_false rfl))
  have g_216_33 := mf_cr_f g_215_33 (f_216 33 (Nat.ne_of_beq_eq_false rfl)) (f_216 34 (Nat.ne_of_beq_eq_false rfl)) (f_216 35 (Nat.ne_of_beq_eq_false rfl)) (f_216 36 (Nat.ne_of_beq_eq_false rfl))
  have g_216_20 : cE h_216 20 (.inl (.int, fA [-1, 0, -1, t3])) := e_216
  refine ik_Wk 1 (pc_q := 22) (loc_q := [some (.ref 17), some (fI (-1)), some (fI 0), some (fI (-1)), some (fI (-1))]) (st_q := [.ref 17]) (h_q := h_216) (cl_q := 0) (sl_q := 0) rfl ?_
  refine fw_gf rfl rfl g_216_17 rfl ?_
  refine ik_Wk 2 (pc_q := 28) (loc_q := [some (.ref 17), some (fI (-1)), some (fI 0), some (fI (-1)), some (fI (-1))]) (st_q := [fI (-1), fI 3, .ref 20]) (h_q := h_216) (cl_q := 0) (sl_q := 0) rfl ?_
  refine fx_ias (z := 3) rfl g_216_20 (by decide +kernel) (Nat.le_of_ble_eq_true rfl) (by decide +kernel) ?_
  intro h_217 e_217 f_217 l_217
  have k_217 : cL h_217 := l_217.trans k_216
  have fr_217 := hfr_wb fr_216 f_217 l_217 rfl
  clear l_217
  have g_217_7 := (f_217 7 (Nat.ne_of_beq_eq_false rfl)).trans g_216_7
  have g_217_8 := (f_217 8 (Nat.ne_of_beq_eq_false rfl)).trans g_216_8
  have g_217_9 := (f_217 9 (Nat.ne_of_beq_eq_false rfl)).trans g_216_9
  have g_217_10 := (f_217 10 (Nat.ne_of_beq_eq_false rfl)).trans g_216_10
  have g_217_11 := (f_217 11 (Nat.ne_of_beq_eq_false rfl)).trans g_216_11
  have g_217_12 := (f_217 12 (Nat.ne_of_beq_eq_false rfl)).trans g_216_12
  have g_217_13 := (f_217 13 (Nat.ne_of_beq_eq_false rfl)).trans g_216_13
  have g_217_15 := (f_217 15 (Nat.ne_of_beq_eq_false rfl)).trans g_216_15
  have g_217_17 := (f_217 17 (Nat.ne_of_beq_eq_false rfl)).trans g_216_17
  have g_217_18 := (f_217 18 (Nat.ne_of_beq_eq_false rfl)).trans g_216_18
  have g_217_19 := (f_217 19 (Nat.ne_of_beq_eq_false rfl)).trans g_216_19
  have g_217_21 := mf_cr_f g_216_21 (f_217 21 (Nat.ne_of_beq_eq_false rfl)) (f_217 22 (Nat.ne_of_beq_eq_false rfl)) (f_217 23 (Nat.ne_of_beq_eq_false rfl)) (f_217 24 (Nat.ne_of_beq_eq_false rfl))
  have g_217_33 := mf_cr_f g_216_33 (f_217 33 (Nat.ne_of_beq_eq_false rfl)) (f_217 34 (Nat.ne_of_beq_eq_false rfl)) (f_217 35 (Nat.ne_of_beq_eq_false rfl)) (f_217 36 (Nat.ne_of_beq_eq_false rfl))
  have g_217_20 : cE h_217 20 (.inl (.int, fA [-1, 0, -1, -1])) := e_217
  refine ik_Wret rfl rfl ⟨_, _, rfl, rfl, ?_⟩
  refine ik_Wk 0 (pc_q := 20) (loc_q := [some (.ref 17), some (fI 1), some (fI (l1_213 / 1000)), none, none]) (st_q := []) (h_q := h_217) (cl_q := 0) (sl_q := 0) rfl ?_
  refine ik_Wk 2 (pc_q := 22) (loc_q := [some (.ref 17), some (fI 1), some (fI (l1_213 / 1000)), some (fI 0), none]) (st_q := []) (h_q := h_217) (cl_q := 0) (sl_q := 0) rfl ?_
  exact cs_most1L (pl := pl) (lo := lo) (s := s) (ka := ka) (pa := pa) (fa := fa) (kb := kb) (pb := pb) (fb := fb) (bo := bo) (la := la) (lb := lb) (t0 := t0) (t1 := t1) (t2 := t2) (t3 := t3) (wg := wg) (wc := wc) (we := we) (cn := cn) (go := go) (ch := ch) q0 q1 q2 q3 q4 q5 q6 q7 q8 (nw := l1_213 / 1000) ew_213 (by omega) (pl.toNat + 1) 0 (-1) 0 l0_213 l1_213 l2_213 wg wc we none h_217 g_217_7 g_217_8 n8 g_217_9 n9 g_217_10 n10 g_217_11 n11 g_217_12 n12 g_217_13 n13 g_217_15 g_217_17 g_217_18 g_217_19 g_217_20 g_217_21 g_217_33 k_217 fr_217 (by omega) (by omega) q5 (by rw [Int.sub_zero]) rfl (by omega)

end
