/-! 38zz3.rmorn -/
noncomputable section
theorem rp_mornN {h : List ik_E} {pl : Int} {mi : Int} {sd : Int} {ka : Int} {pa : Int} {fa : Int} {kb : Int} {pb : Int} {fb : Int} {xa : Int} {xb : Int} {s : Nat} {cn : List Int} {go : List Int} {ch : List Int} {n : Int} {f : Nat → Int} {gt : List Int} {gd : List Int} (q0 : 0 ≤ pl ∧ pl ≤ 12) (q1 : -2147483648 ≤ n ∧ n < 2147483648) (q2 : ¬ ((1 ≤ n ∧ n ≤ 40) ∧ 1 < pl)) (h66 : cE h 66 (.inr (10, (fI pl :: .ref 67 :: .ref 68 :: .ref 69 :: fI ((s : Nat) : Int) :: .ref 70 :: .ref 71 :: fI mi :: fI sd :: .ref 72 :: fI (f 10) :: fI (f 11) :: fI (f 12) :: fJ (f 13) :: fI (f 14) :: fI (f 15) :: fI (f 16) :: fI (f 17) :: .ref 73 :: .ref 74 :: .ref 75 :: .ref 76 :: .ref 77 :: .ref 78 :: fI (f 24) :: .ref 79 :: .ref 80 :: .ref 81 :: .ref 82 :: .ref 83 :: .ref 84 :: .ref 85 :: fJ (f 32) :: fJ (f 33) :: .ref 86 :: .ref 87 :: fI (f 36) :: .ref 88 :: .ref 89 :: .ref 90 :: .ref 91 :: .ref 92 :: .ref 93 :: [])))) (h67 : cE h 67 (.inl (.int, fA cn))) (n67 : cn.length = 12) (h68 : cE h 68 (.inl (.int, fA go))) (n68 : go.length = 48) (h69 : cE h 69 (.inl (.int, fA ch))) (n69 : ch.length = 48) (h70 : cE h 70 (.inl (.int, fA [ka, pa, fa, kb, pb, fb]))) (h71 : cE h 71 (.inl (.int, fA [xa, xb]))) (h77 : cE h 77 (.inl (.int, fA gt))) (n77 : gt.length = 5) (h78 : cE h 78 (.inl (.int, fA gd))) (n78 : gd.length = 5) (hl : h.length = 94) : ik_F 202 [.ref 66, fI n] h (fun rv h_q => rv = [fI (an_n 40 n)] ∧ cE h_q 66 (.inr (10, (fI pl :: .ref 67 :: .ref 68 :: .ref 69 :: fI ((s : Nat) : Int) :: .ref 70 :: .ref 71 :: fI mi :: fI sd :: .ref 72 :: fI (f 10) :: fI (f 11) :: fI (f 12) :: fJ (f 13) :: fI (f 14) :: fI (f 15) :: fI (f 16) :: fI (f 17) :: .ref 73 :: .ref 74 :: .ref 75 :: .ref 76 :: .ref 77 :: .ref 78 :: fI (f 24) :: .ref 79 :: .ref 80 :: .ref 81 :: .ref 82 :: .ref 83 :: .ref 84 :: .ref 85 :: fJ (f 32) :: fJ (f 33) :: .ref 86 :: .ref 87 :: fI (f 36) :: .ref 88 :: .ref 89 :: .ref 90 :: .ref 91 :: .ref 92 :: .ref 93 :: []))) ∧ cE h_q 71 (.inl (.int, fA [xa, xb])) ∧ cE h_q 77 (.inl (.int, fA gt)) ∧ gt.length = 5 ∧ cE h_q 78 (.inl (.int, fA gd)) ∧ gd.length = 5 ∧ hfr [66, 71, 77, 78] h h_q) := by
  refine ik_Wk 1 (pc_q := 1) (loc_q := [some (.ref 66), some (fI n), none, none, none, none, none]) (st_q := [fI n]) (h_q := h) (cl_q := 0) (sl_q := 0) rfl ?_
  refine fw_i2l rfl (by omega) (by omega) ?_
  refine fw_lc (z := 1) rfl (by decide +kernel) ?_
  refine fw_l2 40 rfl rfl (by decide +kernel) ?_
  refine fw_call 127 3 3 [fJ n, fJ 1, fJ 40] [] rfl rfl rfl (Nat.le_of_ble_eq_true rfl) rfl rfl (fw_sta hl rfl (by decide +kernel)) (cr_in (v := n) (a := 1) (b := 40) (by omega) (by omega) (by omega)  hl) ?_
  rintro _ h_1001 (⟨rfl, p_1001_0, F_1001⟩ | ⟨rfl, p_1001_0, F_1001⟩)
  · have k_1001 : cL h_1001 := F_1001.1.trans hl
    have fr_1001 := hfr_cb (hfr_refl [66, 71, 77, 78] h) F_1001 rfl
    have g_1001_66 := (hfr_g F_1001 66 rfl).trans h66
    have g_1001_67 := (hfr_g F_1001 67 rfl).trans h67
    have g_1001_68 := (hfr_g F_1001 68 rfl).trans h68
    have g_1001_69 := (hfr_g F_1001 69 rfl).trans h69
    have g_1001_70 := (hfr_g F_1001 70 rfl).trans h70
    have g_1001_71 := (hfr_g F_1001 71 rfl).trans h71
    have g_1001_77 := (hfr_g F_1001 77 rfl).trans h77
    have g_1001_78 := (hfr_g F_1001 78 rfl).trans h78
    refine ik_Wk 0 (pc_q := 9) (loc_q := [some (.ref 66), some (fI n), none, none, none, none, none]) (st_q := [fI 1]) (h_q := h_1001) (cl_q := 0) (sl_q := 0) rfl ?_
    refine fw_if_ne rfl rfl (by decide +kernel) (by decide +kernel) (fun hc1 => absurd hc1 (by decide +kernel)) (fun hc1 => ?_)
    refine ik_Wk 1 (pc_q := 16) (loc_q := [some (.ref 66), some (fI n), none, none, none, none, none]) (st_q := [.ref 66]) (h_q := h_1001) (cl_q := 0) (sl_q := 0) rfl ?_
    refine ik_Wc 134 1 0 [.ref 66] [] rfl rfl rfl (by decide +kernel) rfl rfl (fw_rec k_1001 rfl g_1001_66 rfl (Nat.le_of_ble_eq_true rfl)) ?_
    refine ik_Wk 0 (pc_q := 0) (loc_q := [some (.ref 66)]) (st_q := []) (h_q := h_1001) (cl_q := 0) (sl_q := 0) rfl ?_
    refine ik_Wk 1 (pc_q := 1) (loc_q := [some (.ref 66)]) (st_q := [.ref 66]) (h_q := h_1001) (cl_q := 0) (sl_q := 0) rfl ?_
    refine fw_gf rfl rfl g_1001_66 rfl ?_
    refine ik_Wk 1 (pc_q := 5) (loc_q := [some (.ref 66)]) (st_q := [fI 1, fI pl]) (h_q := h_1001) (cl_q := 0) (sl_q := 0) rfl ?_
    refine fw_ic_le rfl rfl (by omega) (by omega) (by omega) (by omega) (fun hc2 => ?_) (fun hc2 => ?_)
    · refine ik_Wk 1 (pc_q := 13) (loc_q := [some (.ref 66)]) (st_q := [fI 0]) (h_q := h_1001) (cl_q := 0) (sl_q := 0) rfl ?_
      refine ik_Wret rfl rfl ⟨_, _, rfl, rfl, ?_⟩
      refine ik_Wk 0 (pc_q := 19) (loc_q := [some (.ref 66), some (fI n), none, none, none, none, none]) (st_q := [fI 0]) (h_q := h_1001) (cl_q := 0) (sl_q := 0) rfl ?_
      refine fw_if_ne rfl rfl (by decide +kernel) (by decide +kernel) (fun hc3 => ?_) (fun hc3 => absurd hc3 (by decide +kernel))
      refine fw_ld (-1000000003) rfl rfl (by decide +kernel) ?_
      exact ik_Wret rfl rfl ⟨_, _, rfl, rfl, rfl, rfl, ⟨(congrArg (fun z => [fI z]) (by unfold an_n; (repeat' split) <;> first | rfl | omega)), g_1001_66, g_1001_71, g_1001_77, n77, g_1001_78, n78, fr_1001⟩⟩
    · refine ik_Wk 2 (pc_q := 13) (loc_q := [some (.ref 66)]) (st_q := [fI 1]) (h_q := h_1001) (cl_q := 0) (sl_q := 0) rfl ?_
      refine ik_Wret rfl rfl ⟨_, _, rfl, rfl, ?_⟩
      refine ik_Wk 0 (pc_q := 19) (loc_q := [some (.ref 66), some (fI n), none, none, none, none, none]) (st_q := [fI 1]) (h_q := h_1001) (cl_q := 0) (sl_q := 0) rfl ?_
      refine fw_if_ne rfl rfl (by decide +kernel) (by decide +kernel) (fun hc4 => absurd hc4 (by decide +kernel)) (fun hc4 => ?_)
      refine ik_Wk 1 (pc_q := 26) (loc_q := [some (.ref 66), some (fI n), none, none, none, none, none]) (st_q := [.ref 66]) (h_q := h_1001) (cl_q := 0) (sl_q := 0) rfl ?_
      refine fw_gf rfl rfl g_1001_66 rfl ?_
      refine ik_Wk 2 (pc_q := 31) (loc_q := [some (.ref 66), some (fI n), some (fI mi), none, none, none, none]) (st_q := [.ref 66]) (h_q := h_1001) (cl_q := 0) (sl_q := 0) rfl ?_
      refine fw_gf rfl rfl g_1001_66 rfl ?_
      refine ik_Wk 1 (pc_q := 35) (loc_q := [some (.ref 66), some (fI n), some (fI mi), none, none, none, none]) (st_q := [fI 0, .ref 71]) (h_q := h_1001) (cl_q := 0) (sl_q := 0) rfl ?_
      refine fw_ial (z := 0) rfl g_1001_71 (by decide +kernel) (Nat.le_of_ble_eq_true rfl) (by decide +kernel) ?_
      refine ik_Wk 0 (pc_q := 36) (loc_q := [some (.ref 66), some (fI n), some (fI mi), none, none, none, none]) (st_q := [fI xa]) (h_q := h_1001) (cl_q := 0) (sl_q := 0) rfl ?_
      refine ik_Wk 2 (pc_q := 38) (loc_q := [some (.ref 66), some (fI n), some (fI mi), some (fI xa), none, none, none]) (st_q := [.ref 66]) (h_q := h_1001) (cl_q := 0) (sl_q := 0) rfl ?_
      refine fw_gf rfl rfl g_1001_66 rfl ?_
      refine ik_Wk 1 (pc_q := 42) (loc_q := [some (.ref 66), some (fI n), some (fI mi), some (fI xa), none, none, none]) (st_q := [fI 1, .ref 71]) (h_q := h_1001) (cl_q := 0) (sl_q := 0) rfl ?_
      refine fw_ial (z := 1) rfl g_1001_71 (by decide +kernel) (Nat.le_of_ble_eq_true rfl) (by decide +kernel) ?_
      refine ik_Wk 0 (pc_q := 43) (loc_q := [some (.ref 66), some (fI n), some (fI mi), some (fI xa), none, none, none]) (st_q := [fI xb]) (h_q := h_1001) (cl_q := 0) (sl_q := 0) rfl ?_
      refine ik_Wk 5 (pc_q := 51) (loc_q := [some (.ref 66), some (fI n), some (fI mi), some (fI xa), some (fI xb), some (fI 0), some (fI 0)]) (st_q := []) (h_q := h_1001) (cl_q := 0) (sl_q := 0) rfl ?_
      exact absurd ⟨by omega, by omega⟩ q2
  · have k_1001 : cL h_1001 := F_1001.1.trans hl
    have fr_1001 := hfr_cb (hfr_refl [66, 71, 77, 78] h) F_1001 rfl
    have g_1001_66 := (hfr_g F_1001 66 rfl).trans h66
    have g_1001_67 := (hfr_g F_1001 67 rfl).trans h67
    have g_1001_68 := (hfr_g F_1001 68 rfl).trans h68
    have g_1001_69 := (hfr_g F_1001 69 rfl).trans h69
    have g_1001_70 := (hfr_g F_1001 70 rfl).trans h70
    have g_1001_71 := (hfr_g F_1001 71 rfl).trans h71
    have g_1001_77 := (hfr_g F_1001 77 rfl).trans h77
    have g_1001_78 := (hfr_g F_1001 78 rfl).trans h78
    refine ik_Wk 0 (pc_q := 9) (loc_q := [some (.ref 66), some (fI n), none, none, none, none, none]) (st_q := [fI 0]) (h_q := h_1001) (cl_q := 0) (sl_q := 0) rfl ?_
    refine fw_if_ne rfl rfl (by decide +kernel) (by decide +kernel) (fun hc5 => ?_) (fun hc5 => absurd hc5 (by decide +kernel))
    refine fw_ld (-1000000002) rfl rfl (by decide +kernel) ?_
    exact ik_Wret rfl rfl ⟨_, _, rfl, rfl, rfl, rfl, ⟨(congrArg (fun z => [fI z]) (by unfold an_n; (repeat' split) <;> first | rfl | omega)), g_1001_66, g_1001_71, g_1001_77, n77, g_1001_78, n78, fr_1001⟩⟩

theorem rp_morning {h : List ik_E} {pl : Int} {mi : Int} {sd : Int} {ka : Int} {pa : Int} {fa : Int} {kb : Int} {pb : Int} {fb : Int} {xa : Int} {xb : Int} {s : Nat} {cn : List Int} {go : List Int} {ch : List Int} {n : Int} {f : Nat → Int} {gt : List Int} {gd : List Int} (q0 : 0 ≤ pl ∧ pl ≤ 12) (q1 : s < 4096) (q2 : 0 ≤ sd ∧ sd < 2147483648) (q3 : 0 ≤ mi ∧ mi < 1999999000) (q4 : ∀ x : Int, (0 : Int) ≤ x → x < pl - 1 → 1 ≤ cn.getD x.toNat 0 ∧ ∀ j : Int, 4 * x ≤ j → j < 4 * x + cn.getD x.toNat 0 → 0 ≤ ch.getD j.toNat 0 ∧ ch.getD j.toNat 0 ≤ 100) (q5 : ∀ x : Int, (0 : Int) ≤ x → x < pl → 0 ≤ cn.getD x.toNat 0 ∧ cn.getD x.toNat 0 ≤ 4) (q6 : ∀ x : Int, (0 : Int) ≤ x → x < pl - 1 → mx_ok pl (mx_w cn go ch s x)) (q7 : (0 : Int) ≤ ka ∧ ka ≤ (2 : Int)) (q8 : (0 : Int) ≤ kb ∧ kb ≤ (2 : Int)) (q9 : (0 : Int) ≤ fa ∧ fa ≤ (30 : Int)) (q10 : (0 : Int) ≤ fb ∧ fb ≤ (30 : Int)) (q11 : (1 : Int) < pl → (0 : Int) ≤ pa ∧ pa < pl - 1) (q12 : (1 : Int) < pl → (0 : Int) ≤ pb ∧ pb < pl - 1) (q13 : (1 : Int) < pl → (fa ≤ mi → (0 : Int) ≤ xa) ∧ (fb ≤ mi → (0 : Int) ≤ xb) ∧ ((-1 : Int) ≤ xa ∧ xa < pl) ∧ ((-1 : Int) ≤ xb ∧ xb < pl)) (q14 : (-2147483648 : Int) ≤ n ∧ n < (2147483648 : Int)) (h66 : cE h 66 (.inr (10, (fI pl :: .ref 67 :: .ref 68 :: .ref 69 :: fI ((s : Nat) : Int) :: .ref 70 :: .ref 71 :: fI mi :: fI sd :: .ref 72 :: fI (f 10) :: fI (f 11) :: fI (f 12) :: fJ (f 13) :: fI (f 14) :: fI (f 15) :: fI (f 16) :: fI (f 17) :: .ref 73 :: .ref 74 :: .ref 75 :: .ref 76 :: .ref 77 :: .ref 78 :: fI (f 24) :: .ref 79 :: .ref 80 :: .ref 81 :: .ref 82 :: .ref 83 :: .ref 84 :: .ref 85 :: fJ (f 32) :: fJ (f 33) :: .ref 86 :: .ref 87 :: fI (f 36) :: .ref 88 :: .ref 89 :: .ref 90 :: .ref 91 :: .ref 92 :: .ref 93 :: [])))) (h67 : cE h 67 (.inl (.int, fA cn))) (n67 : cn.length = (12 : Nat)) (h68 : cE h 68 (.inl (.int, fA go))) (n68 : go.length = (48 : Nat)) (h69 : cE h 69 (.inl (.int, fA ch))) (n69 : ch.length = (48 : Nat)) (h70 : cE h 70 (.inl (.int, fA [ka, pa, fa, kb, pb, fb]))) (h71 : cE h 71 (.inl (.int, fA [xa, xb]))) (h77 : cE h 77 (.inl (.int, fA gt))) (n77 : gt.length = (5 : Nat)) (h78 : cE h 78 (.inl (.int, fA gd))) (n78 : gd.length = (5 : Nat)) (hl : h.length = (94 : Nat)) : ik_F 202 [.ref 66, fI n] h (fun rv h_q => (∃ (w' : Int) (gt' : List Int) (gd' : List Int), rv = [fI ((mx_mo (fun x => mx_w cn go ch s x) (pl - 1) ka pa fa kb pb fb n.toNat 0 sd).1)] ∧ cE h_q 66 (.inr (10, (fI pl :: .ref 67 :: .ref 68 :: .ref 69 :: fI ((s : Nat) : Int) :: .ref 70 :: .ref 71 :: fI mi :: fI ((mx_mo (fun x => mx_w cn go ch s x) (pl - 1) ka pa fa kb pb fb n.toNat 0 sd).2) :: .ref 72 :: fI (f 10) :: fI (f 11) :: fI (f 12) :: fJ (f 13) :: fI (f 14) :: fI (f 15) :: fI (f 16) :: fI (f 17) :: .ref 73 :: .ref 74 :: .ref 75 :: .ref 76 :: .ref 77 :: .ref 78 :: fI w' :: .ref 79 :: .ref 80 :: .ref 81 :: .ref 82 :: .ref 83 :: .ref 84 :: .ref 85 :: fJ (f 32) :: fJ (f 33) :: .ref 86 :: .ref 87 :: fI (f 36) :: .ref 88 :: .ref 89 :: .ref 90 :: .ref 91 :: .ref 92 :: .ref 93 :: []))) ∧ cE h_q 71 (.inl (.int, fA [xa, xb])) ∧ cE h_q 77 (.inl (.int, fA gt')) ∧ gt'.length = (5 : Nat) ∧ cE h_q 78 (.inl (.int, fA gd')) ∧ gd'.length = (5 : Nat) ∧ (((1 : Int) ≤ n ∧ n ≤ (40 : Int)) ∧ (1 : Int) < pl) ∧ hfr [66, 71, 77, 78] h h_q) ∨ (rv = [fI (an_n 40 n)] ∧ cE h_q 66 (.inr (10, (fI pl :: .ref 67 :: .ref 68 :: .ref 69 :: fI ((s : Nat) : Int) :: .ref 70 :: .ref 71 :: fI mi :: fI sd :: .ref 72 :: fI (f 10) :: fI (f 11) :: fI (f 12) :: fJ (f 13) :: fI (f 14) :: fI (f 15) :: fI (f 16) :: fI (f 17) :: .ref 73 :: .ref 74 :: .ref 75 :: .ref 76 :: .ref 77 :: .ref 78 :: fI (f 24) :: .ref 79 :: .ref 80 :: .ref 81 :: .ref 82 :: .ref 83 :: .ref 84 :: .ref 85 :: fJ (f 32) :: fJ (f 33) :: .ref 86 :: .ref 87 :: fI (f 36) :: .ref 88 :: .ref 89 :: .ref 90 :: .ref 91 :: .ref 92 :: .ref 93 :: []))) ∧ cE h_q 71 (.inl (.int, fA [xa, xb])) ∧ cE h_q 77 (.inl (.int, fA gt)) ∧ gt.length = (5 : Nat) ∧ cE h_q 78 (.inl (.int, fA gd)) ∧ gd.length = (5 : Nat) ∧ (¬ (((1 : Int) ≤ n ∧ n ≤ (40 : Int)) ∧ (1 : Int) < pl)) ∧ hfr [66, 71, 77, 78] h h_q)) := by
  by_cases hok : (1 ≤ n ∧ n ≤ 40) ∧ 1 < pl
  · refine ik_F_mono (cr_morn (pl := pl) (mi := mi) (sd := sd) (ka := ka) (pa := pa) (fa := fa) (kb := kb) (pb := pb) (fb := fb) (xa := xa) (xb := xb) (s := s) (cn := cn) (go := go) (ch := ch) (n := n) (f := f) (gt := gt) (gd := gd) (by first | omega | exact (q11 hok.2) | exact (q12 hok.2) | exact (q13 hok.2) | (have := q11 hok.2; have := q12 hok.2; have := q13 hok.2; omega)) q1 q2 (by first | omega | exact (q11 hok.2) | exact (q12 hok.2) | exact (q13 hok.2) | (have := q11 hok.2; have := q12 hok.2; have := q13 hok.2; omega)) q4 q5 q6 q7 q8 q9 q10 (by have := q11 hok.2; omega) (by have := q12 hok.2; omega) (by first | omega | exact (q11 hok.2) | exact (q12 hok.2) | exact (q13 hok.2) | (have := q11 hok.2; have := q12 hok.2; have := q13 hok.2; omega)) h66 h67 n67 h68 n68 h69 n69 h70 h71 h77 n77 h78 n78 hl) (fun rv h_q r => Or.inl ?_)
    obtain ⟨w', gt', gd', r⟩ := r
    exact ⟨w', gt', gd', r.1, r.2.1, r.2.2.1, r.2.2.2.1, r.2.2.2.2.1, r.2.2.2.2.2.1, r.2.2.2.2.2.2.1, hok, r.2.2.2.2.2.2.2⟩
  · exact ik_F_mono (rp_mornN (pl := pl) (mi := mi) (sd := sd) (ka := ka) (pa := pa) (fa := fa) (kb := kb) (pb := pb) (fb := fb) (xa := xa) (xb := xb) (s := s) (cn := cn) (go := go) (ch := ch) (n := n) (f := f) (gt := gt) (gd := gd) q0 q14 hok h66 h67 n67 h68 n68 h69 n69 h70 h71 h77 n77 h78 n78 hl) (fun rv h_q r => Or.inr ⟨r.1, r.2.1, r.2.2.1, r.2.2.2.1, r.2.2.2.2.1, r.2.2.2.2.2.1, r.2.2.2.2.2.2.1, hok, r.2.2.2.2.2.2.2⟩)

theorem mx_mo_sd {W : Int → List (Int × Int)} {pl ka pa fa kb pb fb : Int} (hW : ∀ x : Int, (0 : Int) ≤ x → x < pl - 1 → mx_ok pl (W x)) (ha : (0 : Int) ≤ pa ∧ pa < pl) (hb : (0 : Int) ≤ pb ∧ pb < pl) (hfa : (0 : Int) ≤ fa) (hfb : (0 : Int) ≤ fb) : ∀ (n : Nat) (w d : Int), ((0 : Int) ≤ d ∧ d < (2147483648 : Int)) → 0 ≤ (mx_mo W (pl - 1) ka pa fa kb pb fb n w d).2 ∧ (mx_mo W (pl - 1) ka pa fa kb pb fb n w d).2 < 2147483648 := by
  intro n
  induction n with
  | zero => intro w d h; exact h
  | succ n ih =>
    intro w d h
    rw [mx_mo]
    have za := mx_sp_b (c := pa) (fr := fa) (pl := pl) ha hfa
    have zb := mx_sp_b (c := pb) (fr := fb) (pl := pl) hb hfb
    have z := mx_dr_in (W := W) (pl := pl) (ka := ka) (kb := kb) (pa := pa) (pb := pb) (fa := fa) (fb := fb) hW ha hb 200 (mx_sp pa fa) (mx_sp pb fb) 0 d za.1 zb.1 za.2 zb.2 h
    exact ih _ _ z.2.2.2.2.1
end

/-! 38zzz.state -/
noncomputable section
/-! THE STATE of both objects, and each call of both (written by wip/fx/u30.py) -/
/-- an image: not taken, or one of this stream -/
def st_I (pl : Int) (cn go cnr gor : List Int) (ga gm gd gs e0 e1 e2 e3 e4 e5 y0 y1 : Int) (ci im : List Int) (o K : Nat) : Prop := ga = 0 ∨ (ga = 1 ∧ ∃ (s2 : Nat) (di : List Int), gs = ((s2 : Nat) : Int) ∧ s2 < 4096 ∧ (1 ≤ pl → s2.testBit (pl - 1).toNat = false) ∧ mx_rw pl cn go ci ∧ di.length = 48 ∧ mi_ok im o di e0 e1 e2 e3 e4 e5 y0 y1 gm s2 gd ∧ mx_al pl cn go ci cnr gor di ∧ ((0 ≤ e0 ∧ e0 ≤ 2) ∧ (0 ≤ e3 ∧ e3 ≤ 2) ∧ (0 ≤ e2 ∧ e2 ≤ 30) ∧ (0 ≤ e5 ∧ e5 ≤ 30) ∧ (0 ≤ e1 ∧ e1 ≤ 11) ∧ (0 ≤ e4 ∧ e4 ≤ 11)) ∧ (1 < pl → (0 ≤ e1 ∧ e1 < pl - 1) ∧ (0 ≤ e4 ∧ e4 < pl - 1)) ∧ (1 < pl → (e2 ≤ gm → 0 ≤ y0) ∧ (e5 ≤ gm → 0 ≤ y1) ∧ (-1 ≤ y0 ∧ y0 < pl) ∧ (-1 ≤ y1 ∧ y1 < pl)) ∧ (0 ≤ gm ∧ gm ≤ 200 * (K : Int)) ∧ (0 ≤ gd ∧ gd < 2147483648))
theorem st_I_K {pl : Int} {cn go cnr gor : List Int} {ga gm gd gs e0 e1 e2 e3 e4 e5 y0 y1 : Int} {ci im : List Int} {o K : Nat} (h : st_I pl cn go cnr gor ga gm gd gs e0 e1 e2 e3 e4 e5 y0 y1 ci im o K) : st_I pl cn go cnr gor ga gm gd gs e0 e1 e2 e3 e4 e5 y0 y1 ci im o (K + 1) := by
  rcases h with h | ⟨h, s2, di, a1, a2, a3, a4, a5, a6, a7, a8, a9, a10, a11, a12⟩
  · exact Or.inl h
  · exact Or.inr ⟨h, s2, di, a1, a2, a3, a4, a5, a6, a7, a8, a9, a10, by omega, a12⟩
theorem mi_ok_o {im im' : List Int} {o o' : Nat} {ch : List Int} {ka pa fa kb pb fb xa xb mi : Int} {s : Nat} {sd : Int} (h : mi_ok im o ch ka pa fa kb pb fb xa xb mi s sd) (ho : mx_out o' (o' + 80) im im') (hd : o + 80 ≤ o' ∨ o' + 80 ≤ o) : mi_ok im' o ch ka pa fa kb pb fb xa xb mi s sd :=
  ⟨fun k hk => by rw [ho _ (by omega)]; exact h.1 k hk, fun k hk => by rw [ho _ (by omega)]; exact h.2 k hk⟩
theorem st_I_o {pl : Int} {cn go cnr gor : List Int} {ga gm gd gs e0 e1 e2 e3 e4 e5 y0 y1 : Int} {ci im : List Int} {o K : Nat} {im' : List Int} {o' : Nat} (h : st_I pl cn go cnr gor ga gm gd gs e0 e1 e2 e3 e4 e5 y0 y1 ci im o K) (ho : mx_out o' (o' + 80) im im') (hd : o + 80 ≤ o' ∨ o' + 80 ≤ o) : st_I pl cn go cnr gor ga gm gd gs e0 e1 e2 e3 e4 e5 y0 y1 ci im' o K := by
  rcases h with h | ⟨h, s2, di, a1, a2, a3, a4, a5, a6, a7⟩
  · exact Or.inl h
  · exact Or.inr ⟨h, s2, di, a1, a2, a3, a4, a5, mi_ok_o a6 ho hd, a7⟩
theorem st_cn {pl : Int} {cn go ch : List Int} (hr : mx_rw pl cn go ch) (hc : 1 ≤ pl → cn.getD (pl - 1).toNat 0 = 0) : ∀ x : Int, (0 : Int) ≤ x → x < pl → 0 ≤ cn.getD x.toNat 0 ∧ cn.getD x.toNat 0 ≤ 4 := by
  intro x h0 h1
  rcases Int.lt_or_le x (pl - 1) with z | z
  · have := (hr x h0 z).1; omega
  · have := hc (by omega)
    rw [show x = pl - 1 by omega]
    omega
theorem mx_al_mv {pl p i what : Int} {cn go ch cnr gor chr : List Int} (h : mx_al pl cn go ch cnr gor chr) (c1 : 1 ≤ pl → cn.getD (pl - 1).toNat 0 = 0) (c2 : 1 ≤ pl → cnr.getD (pl - 1).toNat 0 = 0) : an_mv pl (cnr.getD p.toNat 0) (gor.getD (4 * p + i).toNat 0) (chr.getD (4 * p + i).toNat 0) p i what = an_mv pl (cn.getD p.toNat 0) (go.getD (4 * p + i).toNat 0) (ch.getD (4 * p + i).toNat 0) p i what := by
  unfold an_mv
  by_cases hp : 0 ≤ p ∧ p < pl
  · have ec : cnr.getD p.toNat 0 = cn.getD p.toNat 0 := by
      rcases Int.lt_or_le p (pl - 1) with z | z
      · exact (h p hp.1 z).1
      · have a := c1 (by omega)
        have b := c2 (by omega)
        rw [show pl - 1 = p by omega] at a b
        rw [a, b]
    rw [ec]
    by_cases hi : 0 ≤ i ∧ i < cn.getD p.toNat 0
    · rcases Int.lt_or_le p (pl - 1) with z | z
      · have q := (h p hp.1 z).2 i hi.1 hi.2
        rw [q.1, q.2]
      · have a := c1 (by omega)
        rw [show pl - 1 = p by omega] at a
        omega
    · by_cases e : i = -1
      · subst e; simp
      · rw [if_neg (fun w => by omega), if_neg (fun w => by omega)]
  · rw [if_neg (fun w => hp w.1), if_neg (fun w => hp w.1)]
set_option maxRecDepth 100000 in
abbrev st_gA (h : List ik_E)  : Prop := cE h 0 (.inr (9, [.ref 1, .ref 7, .ref 14, .ref 17, .ref 45, .ref 51, .ref 54, .ref 57])) ∧ cE h 18 (.inl (.object "SlowerCork$Course", [.ref 21, .ref 25, .ref 29, .ref 33, .ref 37, .ref 41])) ∧ cE h 57 (.inl (.object "SlowerCork$Image", [.ref 58, .ref 62]))
set_option maxRecDepth 100000 in
theorem st_gA_t {h h_q : List ik_E}  {X : List Nat} (F : hfr X h h_q) (d : hdj [0, 18, 57] X) (g : st_gA h ) : st_gA h_q  := by
  obtain ⟨h0, h18, h57⟩ := g
  exact ⟨(F.2 0 (d 0 (by decide +kernel))).trans h0, (F.2 18 (d 18 (by decide +kernel))).trans h18, (F.2 57 (d 57 (by decide +kernel))).trans h57⟩
set_option maxRecDepth 100000 in
abbrev st_gT (h : List ik_E) (tn fp : Int) (T : List Int) : Prop := ∃ (cu fl rpl : Int) (C G P B : List Int), cE h 1 (.inr (6, [.ref 2, fI tn, fI cu, fI fl, fI fp, fI rpl, .ref 3, .ref 4, .ref 5, .ref 6])) ∧ cE h 2 (.inl (.byte, fA T)) ∧ T.length = 500 ∧ cE h 3 (.inl (.int, fA C)) ∧ C.length = 12 ∧ cE h 4 (.inl (.int, fA G)) ∧ G.length = 48 ∧ cE h 5 (.inl (.int, fA P)) ∧ P.length = 48 ∧ cE h 6 (.inl (.int, fA B)) ∧ B.length = 48
set_option maxRecDepth 100000 in
theorem st_gT_t {h h_q : List ik_E} {tn fp : Int} {T : List Int} {X : List Nat} (F : hfr X h h_q) (d : hdj [1, 2, 3, 4, 5, 6] X) (g : st_gT h tn fp T) : st_gT h_q tn fp T := by
  obtain ⟨cu, fl, rpl, C, G, P, B, h1, h2, n2, h3, n3, h4, n4, h5, n5, h6, n6⟩ := g
  exact ⟨cu, fl, rpl, C, G, P, B, (F.2 1 (d 1 (by decide +kernel))).trans h1, (F.2 2 (d 2 (by decide +kernel))).trans h2, n2, (F.2 3 (d 3 (by decide +kernel))).trans h3, n3, (F.2 4 (d 4 (by decide +kernel))).trans h4, n4, (F.2 5 (d 5 (by decide +kernel))).trans h5, n5, (F.2 6 (d 6 (by decide +kernel))).trans h6, n6⟩
set_option maxRecDepth 100000 in
abbrev st_gB (h : List ik_E) (pl : Int) (s : Nat) (cn go ch wg wc we : List Int) : Prop := cE h 7 (.inr (0, [fI pl, fI ((s : Nat) : Int), fI ((mj_lost pl cn go : Nat) : Int), .ref 8, .ref 9, .ref 10, .ref 11, .ref 12, .ref 13])) ∧ cE h 8 (.inl (.int, fA cn)) ∧ cn.length = 12 ∧ cE h 9 (.inl (.int, fA go)) ∧ go.length = 48 ∧ cE h 10 (.inl (.int, fA ch)) ∧ ch.length = 48 ∧ cE h 11 (.inl (.int, fA wg)) ∧ wg.length = 60 ∧ cE h 12 (.inl (.int, fA wc)) ∧ wc.length = 60 ∧ cE h 13 (.inl (.int, fA we)) ∧ we.length = 12
set_option maxRecDepth 100000 in
theorem st_gB_t {h h_q : List ik_E} {pl : Int} {s : Nat} {cn go ch wg wc we : List Int} {X : List Nat} (F : hfr X h h_q) (d : hdj [7, 8, 9, 10, 11, 12, 13] X) (g : st_gB h pl s cn go ch wg wc we) : st_gB h_q pl s cn go ch wg wc we := by
  obtain ⟨h7, h8, n8, h9, n9, h10, n10, h11, n11, h12, n12, h13, n13⟩ := g
  exact ⟨(F.2 7 (d 7 (by decide +kernel))).trans h7, (F.2 8 (d 8 (by decide +kernel))).trans h8, n8, (F.2 9 (d 9 (by decide +kernel))).trans h9, n9, (F.2 10 (d 10 (by decide +kernel))).trans h10, n10, (F.2 11 (d 11 (by decide +kernel))).trans h11, n11, (F.2 12 (d 12 (by decide +kernel))).trans h12, n12, (F.2 13 (d 13 (by decide +kernel))).trans h13, n13⟩
set_option maxRecDepth 100000 in
abbrev st_gC (h : List ik_E) (mi sd ka pa fa kb pb fb xa xb : Int) : Prop := cE h 14 (.inr (1, [.ref 7, .ref 15, .ref 16, fI mi, fJ sd])) ∧ cE h 15 (.inl (.int, fA [ka, pa, fa, kb, pb, fb])) ∧ cE h 16 (.inl (.int, fA [xa, xb]))
set_option maxRecDepth 100000 in
theorem st_gC_t {h h_q : List ik_E} {mi sd ka pa fa kb pb fb xa xb : Int} {X : List Nat} (F : hfr X h h_q) (d : hdj [14, 15, 16] X) (g : st_gC h mi sd ka pa fa kb pb fb xa xb) : st_gC h_q mi sd ka pa fa kb pb fb xa xb := by
  obtain ⟨h14, h15, h16⟩ := g
  exact ⟨(F.2 14 (d 14 (by decide +kernel))).trans h14, (F.2 15 (d 15 (by decide +kernel))).trans h15, (F.2 16 (d 16 (by decide +kernel))).trans h16⟩
set_option maxRecDepth 100000 in
abbrev st_gS (h : List ik_E)  : Prop := ∃ (bo la lb t0 t1 t2 t3 : Int), cE h 17 (.inr (8, [.ref 7, .ref 15, .ref 18, .ref 19, fJ bo, .ref 20])) ∧ cE h 19 (.inl (.long, fL [la, lb])) ∧ cE h 20 (.inl (.int, fA [t0, t1, t2, t3]))
set_option maxRecDepth 100000 in
theorem st_gS_t {h h_q : List ik_E}  {X : List Nat} (F : hfr X h h_q) (d : hdj [17, 19, 20] X) (g : st_gS h ) : st_gS h_q  := by
  obtain ⟨bo, la, lb, t0, t1, t2, t3, h17, h19, h20⟩ := g
  exact ⟨bo, la, lb, t0, t1, t2, t3, (F.2 17 (d 17 (by decide +kernel))).trans h17, (F.2 19 (d 19 (by decide +kernel))).trans h19, (F.2 20 (d 20 (by decide +kernel))).trans h20⟩
set_option maxRecDepth 100000 in
abbrev st_gV (h : List ik_E)  : Prop := mf_cr h 21  ∧ mf_cr h 33 
set_option maxRecDepth 100000 in
theorem st_gV_t {h h_q : List ik_E}  {X : List Nat} (F : hfr X h h_q) (d : hdj [21, 22, 23, 24, 33, 34, 35, 36] X) (g : st_gV h ) : st_gV h_q  := by
  obtain ⟨h21, h33⟩ := g
  exact ⟨mf_cr_f h21 (F.2 21 (d 21 (by decide +kernel))) (F.2 22 (d 22 (by decide +kernel))) (F.2 23 (d 23 (by decide +kernel))) (F.2 24 (d 24 (by decide +kernel))), mf_cr_f h33 (F.2 33 (d 33 (by decide +kernel))) (F.2 34 (d 34 (by decide +kernel))) (F.2 35 (d 35 (by decide +kernel))) (F.2 36 (d 36 (by decide +kernel)))⟩
set_option maxRecDepth 100000 in
abbrev st_gW (h : List ik_E)  : Prop := mf_cr h 25  ∧ mf_cr h 29  ∧ mf_cr h 37  ∧ mf_cr h 41 
set_option maxRecDepth 100000 in
theorem st_gW_t {h h_q : List ik_E}  {X : List Nat} (F : hfr X h h_q) (d : hdj [25, 26, 27, 28, 29, 30, 31, 32, 37, 38, 39, 40, 41, 42, 43, 44] X) (g : st_gW h ) : st_gW h_q  := by
  obtain ⟨h25, h29, h37, h41⟩ := g
  exact ⟨mf_cr_f h25 (F.2 25 (d 25 (by decide +kernel))) (F.2 26 (d 26 (by decide +kernel))) (F.2 27 (d 27 (by decide +kernel))) (F.2 28 (d 28 (by decide +kernel))), mf_cr_f h29 (F.2 29 (d 29 (by decide +kernel))) (F.2 30 (d 30 (by decide +kernel))) (F.2 31 (d 31 (by decide +kernel))) (F.2 32 (d 32 (by decide +kernel))), mf_cr_f h37 (F.2 37 (d 37 (by decide +kernel))) (F.2 38 (d 38 (by decide +kernel))) (F.2 39 (d 39 (by decide +kernel))) (F.2 40 (d 40 (by decide +kernel))), mf_cr_f h41 (F.2 41 (d 41 (by decide +kernel))) (F.2 42 (d 42 (by decide +kernel))) (F.2 43 (d 43 (by decide +kernel))) (F.2 44 (d 44 (by decide +kernel)))⟩
set_option maxRecDepth 100000 in
abbrev st_gM (h : List ik_E)  : Prop := ∃ (fe bo_ sh wh wo : List Int), (∀ i : Int, 0 ≤ i → i < 9 → 0 ≤ fe.getD i.toNat 0 ∧ fe.getD i.toNat 0 ≤ 1000) ∧ cE h 45 (.inr (5, [.ref 46, .ref 47, .ref 48, .ref 49, .ref 50])) ∧ cE h 46 (.inl (.int, fA fe)) ∧ fe.length = 9 ∧ cE h 47 (.inl (.long, fL bo_)) ∧ bo_.length = 12 ∧ cE h 48 (.inl (.long, fL sh)) ∧ sh.length = 6 ∧ cE h 49 (.inl (.long, fL wh)) ∧ wh.length = 2 ∧ cE h 50 (.inl (.long, fL wo)) ∧ wo.length = 2
set_option maxRecDepth 100000 in
theorem st_gM_t {h h_q : List ik_E}  {X : List Nat} (F : hfr X h h_q) (d : hdj [45, 46, 47, 48, 49, 50] X) (g : st_gM h ) : st_gM h_q  := by
  obtain ⟨fe, bo_, sh, wh, wo, f_fe, h45, h46, n46, h47, n47, h48, n48, h49, n49, h50, n50⟩ := g
  exact ⟨fe, bo_, sh, wh, wo, f_fe, (F.2 45 (d 45 (by decide +kernel))).trans h45, (F.2 46 (d 46 (by decide +kernel))).trans h46, n46, (F.2 47 (d 47 (by decide +kernel))).trans h47, n47, (F.2 48 (d 48 (by decide +kernel))).trans h48, n48, (F.2 49 (d 49 (by decide +kernel))).trans h49, n49, (F.2 50 (d 50 (by decide +kernel))).trans h50, n50⟩
set_option maxRecDepth 100000 in
abbrev st_gR (h : List ik_E) (r : Int) (rp rt : List Int) : Prop := cE h 51 (.inr (7, [.ref 7, fI r, .ref 52, .ref 53])) ∧ cE h 52 (.inl (.int, fA rp)) ∧ rp.length = 12 ∧ cE h 53 (.inl (.int, fA rt)) ∧ rt.length = 12
set_option maxRecDepth 100000 in
theorem st_gR_t {h h_q : List ik_E} {r : Int} {rp rt : List Int} {X : List Nat} (F : hfr X h h_q) (d : hdj [51, 52, 53] X) (g : st_gR h r rp rt) : st_gR h_q r rp rt := by
  obtain ⟨h51, h52, n52, h53, n53⟩ := g
  exact ⟨(F.2 51 (d 51 (by decide +kernel))).trans h51, (F.2 52 (d 52 (by decide +kernel))).trans h52, n52, (F.2 53 (d 53 (by decide +kernel))).trans h53, n53⟩
set_option maxRecDepth 100000 in
abbrev st_gL (h : List ik_E) (n0 n1 : Int) (lr : List Int) : Prop := cE h 54 (.inr (4, [.ref 55, .ref 56])) ∧ cE h 55 (.inl (.int, fA lr)) ∧ lr.length = 80 ∧ cE h 56 (.inl (.int, fA [n0, n1]))
set_option maxRecDepth 100000 in
theorem st_gL_t {h h_q : List ik_E} {n0 n1 : Int} {lr : List Int} {X : List Nat} (F : hfr X h h_q) (d : hdj [54, 55, 56] X) (g : st_gL h n0 n1 lr) : st_gL h_q n0 n1 lr := by
  obtain ⟨h54, h55, n55, h56⟩ := g
  exact ⟨(F.2 54 (d 54 (by decide +kernel))).trans h54, (F.2 55 (d 55 (by decide +kernel))).trans h55, n55, (F.2 56 (d 56 (by decide +kernel))).trans h56⟩
set_option maxRecDepth 100000 in
abbrev st_gI (h : List ik_E) (ga0 gm0 gd_0 gs0 g00 g01 g02 g03 g04 g05 gx0 gy0 : Int) (ci0 : List Int) : Prop := cE h 58 (.inr (3, [fI ga0, .ref 59, .ref 60, fI gm0, fJ gd_0, fI gs0, .ref 61])) ∧ cE h 59 (.inl (.int, fA [g00, g01, g02, g03, g04, g05])) ∧ cE h 60 (.inl (.int, fA [gx0, gy0])) ∧ cE h 61 (.inl (.int, fA ci0)) ∧ ci0.length = 48
set_option maxRecDepth 100000 in
theorem st_gI_t {h h_q : List ik_E} {ga0 gm0 gd_0 gs0 g00 g01 g02 g03 g04 g05 gx0 gy0 : Int} {ci0 : List Int} {X : List Nat} (F : hfr X h h_q) (d : hdj [58, 59, 60, 61] X) (g : st_gI h ga0 gm0 gd_0 gs0 g00 g01 g02 g03 g04 g05 gx0 gy0 ci0) : st_gI h_q ga0 gm0 gd_0 gs0 g00 g01 g02 g03 g04 g05 gx0 gy0 ci0 := by
  obtain ⟨h58, h59, h60, h61, n61⟩ := g
  exact ⟨(F.2 58 (d 58 (by decide +kernel))).trans h58, (F.2 59 (d 59 (by decide +kernel))).trans h59, (F.2 60 (d 60 (by decide +kernel))).trans h60, (F.2 61 (d 61 (by decide +kernel))).trans h61, n61⟩
set_option maxRecDepth 100000 in
abbrev st_gJ (h : List ik_E) (ga1 gm1 gd_1 gs1 g10 g11 g12 g13 g14 g15 gx1 gy1 : Int) (ci1 : List Int) : Prop := cE h 62 (.inr (3, [fI ga1, .ref 63, .ref 64, fI gm1, fJ gd_1, fI gs1, .ref 65])) ∧ cE h 63 (.inl (.int, fA [g10, g11, g12, g13, g14, g15])) ∧ cE h 64 (.inl (.int, fA [gx1, gy1])) ∧ cE h 65 (.inl (.int, fA ci1)) ∧ ci1.length = 48
set_option maxRecDepth 100000 in
theorem st_gJ_t {h h_q : List ik_E} {ga1 gm1 gd_1 gs1 g10 g11 g12 g13 g14 g15 gx1 gy1 : Int} {ci1 : List Int} {X : List Nat} (F : hfr X h h_q) (d : hdj [62, 63, 64, 65] X) (g : st_gJ h ga1 gm1 gd_1 gs1 g10 g11 g12 g13 g14 g15 gx1 gy1 ci1) : st_gJ h_q ga1 gm1 gd_1 gs1 g10 g11 g12 g13 g14 g15 gx1 gy1 ci1 := by
  obtain ⟨h62, h63, h64, h65, n65⟩ := g
  exact ⟨(F.2 62 (d 62 (by decide +kernel))).trans h62, (F.2 63 (d 63 (by decide +kernel))).trans h63, (F.2 64 (d 64 (by decide +kernel))).trans h64, (F.2 65 (d 65 (by decide +kernel))).trans h65, n65⟩
set_option maxRecDepth 100000 in
abbrev st_hO (h : List ik_E) (pl : Int) (s : Nat) (mi sd tn fp r : Int) : Prop := ∃ (sc0 sc1 sc2 sc3 sc4 sc5 w24 sb wa : Int), cE h 66 (.inr (10, (fI pl :: .ref 67 :: .ref 68 :: .ref 69 :: fI ((s : Nat) : Int) :: .ref 70 :: .ref 71 :: fI mi :: fI sd :: .ref 72 :: fI tn :: fI fp :: fI sc0 :: fJ sc1 :: fI sc2 :: fI sc3 :: fI sc4 :: fI sc5 :: .ref 73 :: .ref 74 :: .ref 75 :: .ref 76 :: .ref 77 :: .ref 78 :: fI w24 :: .ref 79 :: .ref 80 :: .ref 81 :: .ref 82 :: .ref 83 :: .ref 84 :: .ref 85 :: fJ sb :: fJ wa :: .ref 86 :: .ref 87 :: fI r :: .ref 88 :: .ref 89 :: .ref 90 :: .ref 91 :: .ref 92 :: .ref 93 :: [])))
set_option maxRecDepth 100000 in
theorem st_hO_t {h h_q : List ik_E} {pl : Int} {s : Nat} {mi sd tn fp r : Int} {X : List Nat} (F : hfr X h h_q) (d : hdj [66] X) (g : st_hO h pl s mi sd tn fp r) : st_hO h_q pl s mi sd tn fp r := by
  obtain ⟨sc0, sc1, sc2, sc3, sc4, sc5, w24, sb, wa, h66⟩ := g
  exact ⟨sc0, sc1, sc2, sc3, sc4, sc5, w24, sb, wa, (F.2 66 (d 66 (by decide +kernel))).trans h66⟩
set_option maxRecDepth 100000 in
abbrev st_hB (h : List ik_E) (cnr gor chr : List Int) : Prop := cE h 67 (.inl (.int, fA cnr)) ∧ cnr.length = 12 ∧ cE h 68 (.inl (.int, fA gor)) ∧ gor.length = 48 ∧ cE h 69 (.inl (.int, fA chr)) ∧ chr.length = 48
set_option maxRecDepth 100000 in
theorem st_hB_t {h h_q : List ik_E} {cnr gor chr : List Int} {X : List Nat} (F : hfr X h h_q) (d : hdj [67, 68, 69] X) (g : st_hB h cnr gor chr) : st_hB h_q cnr gor chr := by
  obtain ⟨h67, n67, h68, n68, h69, n69⟩ := g
  exact ⟨(F.2 67 (d 67 (by decide +kernel))).trans h67, n67, (F.2 68 (d 68 (by decide +kernel))).trans h68, n68, (F.2 69 (d 69 (by decide +kernel))).trans h69, n69⟩
set_option maxRecDepth 100000 in
abbrev st_hC (h : List ik_E) (ka pa fa kb pb fb xa xb : Int) : Prop := cE h 70 (.inl (.int, fA [ka, pa, fa, kb, pb, fb])) ∧ cE h 71 (.inl (.int, fA [xa, xb]))
set_option maxRecDepth 100000 in
theorem st_hC_t {h h_q : List ik_E} {ka pa fa kb pb fb xa xb : Int} {X : List Nat} (F : hfr X h h_q) (d : hdj [70, 71] X) (g : st_hC h ka pa fa kb pb fb xa xb) : st_hC h_q ka pa fa kb pb fb xa xb := by
  obtain ⟨h70, h71⟩ := g
  exact ⟨(F.2 70 (d 70 (by decide +kernel))).trans h70, (F.2 71 (d 71 (by decide +kernel))).trans h71⟩
set_option maxRecDepth 100000 in
abbrev st_hT (h : List ik_E) (T2 : List Int) : Prop := ∃ (M R O Ax : List Int), cE h 72 (.inl (.int, fA T2)) ∧ T2.length = 500 ∧ cE h 73 (.inl (.int, fA M)) ∧ M.length = 12 ∧ cE h 74 (.inl (.int, fA R)) ∧ R.length = 48 ∧ cE h 75 (.inl (.int, fA O)) ∧ O.length = 48 ∧ cE h 76 (.inl (.int, fA Ax)) ∧ Ax.length = 48
set_option maxRecDepth 100000 in
theorem st_hT_t {h h_q : List ik_E} {T2 : List Int} {X : List Nat} (F : hfr X h h_q) (d : hdj [72, 73, 74, 75, 76] X) (g : st_hT h T2) : st_hT h_q T2 := by
  obtain ⟨M, R, O, Ax, h72, n72, h73, n73, h74, n74, h75, n75, h76, n76⟩ := g
  exact ⟨M, R, O, Ax, (F.2 72 (d 72 (by decide +kernel))).trans h72, n72, (F.2 73 (d 73 (by decide +kernel))).trans h73, n73, (F.2 74 (d 74 (by decide +kernel))).trans h74, n74, (F.2 75 (d 75 (by decide +kernel))).trans h75, n75, (F.2 76 (d 76 (by decide +kernel))).trans h76, n76⟩
set_option maxRecDepth 100000 in
abbrev st_hS (h : List ik_E)  : Prop := ∃ (gt gdd xs ys r1 r2 : List Int), cE h 77 (.inl (.int, fA gt)) ∧ gt.length = 5 ∧ cE h 78 (.inl (.int, fA gdd)) ∧ gdd.length = 5 ∧ cE h 79 (.inl (.long, fL xs)) ∧ xs.length = 12 ∧ cE h 80 (.inl (.long, fL ys)) ∧ ys.length = 12 ∧ cE h 81 (.inl (.long, fL r1)) ∧ r1.length = 201 ∧ cE h 82 (.inl (.long, fL r2)) ∧ r2.length = 201
set_option maxRecDepth 100000 in
theorem st_hS_t {h h_q : List ik_E}  {X : List Nat} (F : hfr X h h_q) (d : hdj [77, 78, 79, 80, 81, 82] X) (g : st_hS h ) : st_hS h_q  := by
  obtain ⟨gt, gdd, xs, ys, r1, r2, h77, n77, h78, n78, h79, n79, h80, n80, h81, n81, h82, n82⟩ := g
  exact ⟨gt, gdd, xs, ys, r1, r2, (F.2 77 (d 77 (by decide +kernel))).trans h77, n77, (F.2 78 (d 78 (by decide +kernel))).trans h78, n78, (F.2 79 (d 79 (by decide +kernel))).trans h79, n79, (F.2 80 (d 80 (by decide +kernel))).trans h80, n80, (F.2 81 (d 81 (by decide +kernel))).trans h81, n81, (F.2 82 (d 82 (by decide +kernel))).trans h82, n82⟩
set_option maxRecDepth 100000 in
abbrev st_hM (h : List ik_E)  : Prop := ∃ (fr so sw ro cl : List Int), (∀ i : Int, 0 ≤ i → i < 3 → 0 ≤ ro.getD i.toNat 0 ∧ ro.getD i.toNat 0 ≤ 2) ∧ (∀ i : Int, 0 ≤ i → i < 3 → 0 ≤ cl.getD i.toNat 0 ∧ cl.getD i.toNat 0 ≤ 2) ∧ cE h 83 (.inl (.long, fL fr)) ∧ fr.length = 9 ∧ cE h 84 (.inl (.long, fL so)) ∧ so.length = 3 ∧ cE h 85 (.inl (.long, fL sw)) ∧ sw.length = 3 ∧ cE h 86 (.inl (.int, fA ro)) ∧ ro.length = 3 ∧ cE h 87 (.inl (.int, fA cl)) ∧ cl.length = 3
set_option maxRecDepth 100000 in
theorem st_hM_t {h h_q : List ik_E}  {X : List Nat} (F : hfr X h h_q) (d : hdj [83, 84, 85, 86, 87] X) (g : st_hM h ) : st_hM h_q  := by
  obtain ⟨fr, so, sw, ro, cl, f_ro, f_cl, h83, n83, h84, n84, h85, n85, h86, n86, h87, n87⟩ := g
  exact ⟨fr, so, sw, ro, cl, f_ro, f_cl, (F.2 83 (d 83 (by decide +kernel))).trans h83, n83, (F.2 84 (d 84 (by decide +kernel))).trans h84, n84, (F.2 85 (d 85 (by decide +kernel))).trans h85, n85, (F.2 86 (d 86 (by decide +kernel))).trans h86, n86, (F.2 87 (d 87 (by decide +kernel))).trans h87, n87⟩
set_option maxRecDepth 100000 in
abbrev st_hR (h : List ik_E) (rp rt : List Int) : Prop := cE h 88 (.inl (.int, fA rp)) ∧ rp.length = 12 ∧ cE h 89 (.inl (.int, fA rt)) ∧ rt.length = 12
set_option maxRecDepth 100000 in
theorem st_hR_t {h h_q : List ik_E} {rp rt : List Int} {X : List Nat} (F : hfr X h h_q) (d : hdj [88, 89] X) (g : st_hR h rp rt) : st_hR h_q rp rt := by
  obtain ⟨h88, n88, h89, n89⟩ := g
  exact ⟨(F.2 88 (d 88 (by decide +kernel))).trans h88, n88, (F.2 89 (d 89 (by decide +kernel))).trans h89, n89⟩
set_option maxRecDepth 100000 in
abbrev st_hL (h : List ik_E) (n0 n1 : Int) (lr : List Int) : Prop := cE h 90 (.inl (.int, fA [n0, n1])) ∧ cE h 91 (.inl (.int, fA lr)) ∧ lr.length = 80
set_option maxRecDepth 100000 in
theorem st_hL_t {h h_q : List ik_E} {n0 n1 : Int} {lr : List Int} {X : List Nat} (F : hfr X h h_q) (d : hdj [90, 91] X) (g : st_hL h n0 n1 lr) : st_hL h_q n0 n1 lr := by
  obtain ⟨h90, h91, n91⟩ := g
  exact ⟨(F.2 90 (d 90 (by decide +kernel))).trans h90, (F.2 91 (d 91 (by decide +kernel))).trans h91, n91⟩
set_option maxRecDepth 100000 in
abbrev st_hI (h : List ik_E) (ga0 ga1 : Int) (im : List Int) : Prop := cE h 92 (.inl (.int, fA im)) ∧ im.length = 160 ∧ cE h 93 (.inl (.boolean, fA [ga0, ga1]))
set_option maxRecDepth 100000 in
theorem st_hI_t {h h_q : List ik_E} {ga0 ga1 : Int} {im : List Int} {X : List Nat} (F : hfr X h h_q) (d : hdj [92, 93] X) (g : st_hI h ga0 ga1 im) : st_hI h_q ga0 ga1 im := by
  obtain ⟨h92, n92, h93⟩ := g
  exact ⟨(F.2 92 (d 92 (by decide +kernel))).trans h92, n92, (F.2 93 (d 93 (by decide +kernel))).trans h93⟩
theorem st_m0 (K : Nat) : (0 : Int) ≤ 0 ∧ (0 : Int) ≤ 200 * ((K + 1 : Nat) : Int) := by omega
theorem st_11 {v pl : Int} (p : 0 ≤ v ∧ v < pl - 1) (q : 0 ≤ pl ∧ pl ≤ 12) : 0 ≤ v ∧ v ≤ 11 := by omega
theorem st_x {pa fa pb fb pl : Int} (hp : (0 ≤ pa ∧ pa < pl - 1) ∧ (0 ≤ pb ∧ pb < pl - 1)) (hfa : 0 ≤ fa) (hfb : 0 ≤ fb) : (fa ≤ 0 → 0 ≤ mx_sp pa fa) ∧ (fb ≤ 0 → 0 ≤ mx_sp pb fb) ∧ (-1 ≤ mx_sp pa fa ∧ mx_sp pa fa < pl) ∧ (-1 ≤ mx_sp pb fb ∧ mx_sp pb fb < pl) := by
  have a := mx_sp_b (c := pa) (fr := fa) (pl := pl) (by omega) hfa
  have b := mx_sp_b (c := pb) (fr := fb) (pl := pl) (by omega) hfb
  exact ⟨a.1, b.1, a.2, b.2⟩
theorem st_m {mi : Int} {K : Nat} (q : 0 ≤ mi ∧ mi ≤ 200 * (K : Int)) : 0 ≤ mi ∧ mi ≤ 200 * ((K + 1 : Nat) : Int) := by omega
set_option maxRecDepth 100000 in
/-- the state, as what may be taken out of it (a hundred components: no pattern over them) -/
def st_S (K : Nat) (h : List ik_E) : Prop := ∀ C : Prop, (∀ (tn fp pl mi sd ka pa fa kb pb fb xa xb r n0 n1 ga0 gm0 gd_0 gs0 g00 g01 g02 g03 g04 g05 gx0 gy0 ga1 gm1 gd_1 gs1 g10 g11 g12 g13 g14 g15 gx1 gy1 : Int) (s : Nat) (T cn go ch wg wc we rp rt lr ci0 ci1 cnr gor chr T2 im : List Int), (0 ≤ pl ∧ pl ≤ 12) → (s < 4096) → (1 ≤ pl → s.testBit (pl - 1).toNat = false) → (1 ≤ pl → cn.getD (pl - 1).toNat 0 = 0) → (1 ≤ pl → cnr.getD (pl - 1).toNat 0 = 0) → (mx_rw pl cn go ch) → (mx_al pl cn go ch cnr gor chr) → (∀ x : Int, 0 ≤ x → x < pl - 1 → mx_wy wg wc we x (mx_w cn go ch s x)) → ((0 ≤ ka ∧ ka ≤ 2) ∧ (0 ≤ kb ∧ kb ≤ 2) ∧ (0 ≤ fa ∧ fa ≤ 30) ∧ (0 ≤ fb ∧ fb ≤ 30) ∧ (0 ≤ pa ∧ pa ≤ 11) ∧ (0 ≤ pb ∧ pb ≤ 11)) → (1 < pl → (0 ≤ pa ∧ pa < pl - 1) ∧ (0 ≤ pb ∧ pb < pl - 1)) → (1 < pl → (fa ≤ mi → 0 ≤ xa) ∧ (fb ≤ mi → 0 ≤ xb) ∧ (-1 ≤ xa ∧ xa < pl) ∧ (-1 ≤ xb ∧ xb < pl)) → (0 ≤ mi ∧ mi ≤ 200 * (K : Int)) → (0 ≤ sd ∧ sd < 2147483648) → (0 ≤ r ∧ r ≤ 12) → (mk_rr pl r rp rt) → ((0 ≤ n0 ∧ n0 ≤ 40) ∧ (0 ≤ n1 ∧ n1 ≤ 40)) → (∀ j : Nat, (j : Int) < n0 → lr.getD (0 + j) 0 = 12 ∨ (0 ≤ lr.getD (0 + j) 0 ∧ lr.getD (0 + j) 0 < pl)) → (∀ j : Nat, (j : Int) < n1 → lr.getD (40 + j) 0 = 12 ∨ (0 ≤ lr.getD (40 + j) 0 ∧ lr.getD (40 + j) 0 < pl)) → (0 ≤ tn ∧ tn ≤ 500) → (∀ i : Int, 0 ≤ i → i < tn → (-128 ≤ T.getD i.toNat 0 ∧ T.getD i.toNat 0 ≤ 127) ∧ T2.getD i.toNat 0 = T.getD i.toNat 0 % 256) → (st_I pl cn go cnr gor ga0 gm0 gd_0 gs0 g00 g01 g02 g03 g04 g05 gx0 gy0 ci0 im 0 K) → (st_I pl cn go cnr gor ga1 gm1 gd_1 gs1 g10 g11 g12 g13 g14 g15 gx1 gy1 ci1 im 80 K) → st_gA h  → st_gT h tn fp T → st_gB h pl s cn go ch wg wc we → st_gC h mi sd ka pa fa kb pb fb xa xb → st_gS h  → st_gV h  → st_gW h  → st_gM h  → st_gR h r rp rt → st_gL h n0 n1 lr → st_gI h ga0 gm0 gd_0 gs0 g00 g01 g02 g03 g04 g05 gx0 gy0 ci0 → st_gJ h ga1 gm1 gd_1 gs1 g10 g11 g12 g13 g14 g15 gx1 gy1 ci1 → st_hO h pl s mi sd tn fp r → st_hB h cnr gor chr → st_hC h ka pa fa kb pb fb xa xb → st_hT h T2 → st_hS h  → st_hM h  → st_hR h rp rt → st_hL h n0 n1 lr → st_hI h ga0 ga1 im → h.length = 94 → C) → C
end
