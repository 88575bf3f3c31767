noncomputable section
theorem rp_mornN {h : List ik_E} {pl : Int} {mi : Int} {sd : Int} {ka : Int} {pa : Int} {fa : Int} {kb : Int} {pb : Int} {fb : Int} {xa : Int} {xb : Int} {s : Nat} {cn : List Int} {go : List Int} {ch : List Int} {n : Int} {f : Nat → Int} {gt : List Int} {gd : List Int} (q0 : 0 ≤ pl ∧ pl ≤ 12) (q1 : -2147483648 ≤ n ∧ n < 2147483648) (q2 : ¬ ((1 ≤ n ∧ n ≤ 40) ∧ 1 < pl)) (h66 : cE h 66 (.inr (10, [fI pl, .ref 67, .ref 68, .ref 69, fI ((s : Nat) : Int), .ref 70, .ref 71, fI mi, fI sd, .ref 72, fI (f 10), fI (f 11), fI (f 12), fJ (f 13), fI (f 14), fI (f 15), fI (f 16), fI (f 17), .ref 73, .ref 74, .ref 75, .ref 76, .ref 77, .ref 78, fI (f 24), .ref 79, .ref 80, .ref 81, .ref 82, .ref 83, .ref 84, .ref 85, fJ (f 32), fJ (f 33), .ref 86, .ref 87, fI (f 36), .ref 88, .ref 89, .ref 90, .ref 91, .ref 92, .ref 93]))) (h67 : cE h 67 (.inl (.int, fA cn))) (n67 : cn.length = 12) (h68 : cE h 68 (.inl (.int, fA go))) (n68 : go.length = 48) (h69 : cE h 69 (.inl (.int, fA ch))) (n69 : ch.length = 48) (h70 : cE h 70 (.inl (.int, fA [ka, pa, fa, kb, pb, fb]))) (h71 : cE h 71 (.inl (.int, fA [xa, xb]))) (h77 : cE h 77 (.inl (.int, fA gt))) (n77 : gt.length = 5) (h78 : cE h 78 (.inl (.int, fA gd))) (n78 : gd.length = 5) (hl : h.length = 94) : ik_F 202 [.ref 66, fI n] h (fun rv h' => rv = [fI (an_n 40 n)] ∧ cE h' 66 (.inr (10, [fI pl, .ref 67, .ref 68, .ref 69, fI ((s : Nat) : Int), .ref 70, .ref 71, fI mi, fI sd, .ref 72, fI (f 10), fI (f 11), fI (f 12), fJ (f 13), fI (f 14), fI (f 15), fI (f 16), fI (f 17), .ref 73, .ref 74, .ref 75, .ref 76, .ref 77, .ref 78, fI (f 24), .ref 79, .ref 80, .ref 81, .ref 82, .ref 83, .ref 84, .ref 85, fJ (f 32), fJ (f 33), .ref 86, .ref 87, fI (f 36), .ref 88, .ref 89, .ref 90, .ref 91, .ref 92, .ref 93])) ∧ cE h' 71 (.inl (.int, fA [xa, xb])) ∧ cE h' 77 (.inl (.int, fA gt)) ∧ gt.length = 5 ∧ cE h' 78 (.inl (.int, fA gd)) ∧ gd.length = 5 ∧ hfr [66, 71, 77, 78] h h') := by
  refine ik_Wk 1 (pc' := 1) (loc' := [some (.ref 66), some (fI n), none, none, none, none, none]) (st' := [fI n]) (h' := h) (cl' := 0) (sl' := 0) rfl ?_
  refine fw_i2l rfl (by omega) (by omega) ?_
  refine fw_lc (z := 1) rfl (by decide) ?_
  refine fw_l2 40 rfl rfl (by decide) ?_
  refine fw_call 127 3 3 [fJ n, fJ 1, fJ 40] [] rfl rfl rfl (by decide) rfl rfl (fw_sta hl rfl (by decide)) (cr_in (v := n) (a := 1) (b := 40) (by omega) (by omega) (by omega)  hl) ?_
  rintro _ h_1001 (⟨rfl, p_1001_0, F_1001⟩ | ⟨rfl, p_1001_0, F_1001⟩)
  · have k_1001 := F_1001.1.trans hl
    have fr_1001 := hfr_c (hfr_refl [66, 71, 77, 78] h) F_1001 (by decide)
    have g_1001_66 := (F_1001.2 66 (by decide +kernel)).trans h66
    have g_1001_67 := (F_1001.2 67 (by decide +kernel)).trans h67
    have g_1001_68 := (F_1001.2 68 (by decide +kernel)).trans h68
    have g_1001_69 := (F_1001.2 69 (by decide +kernel)).trans h69
    have g_1001_70 := (F_1001.2 70 (by decide +kernel)).trans h70
    have g_1001_71 := (F_1001.2 71 (by decide +kernel)).trans h71
    have g_1001_77 := (F_1001.2 77 (by decide +kernel)).trans h77
    have g_1001_78 := (F_1001.2 78 (by decide +kernel)).trans h78
    refine ik_Wk 0 (pc' := 9) (loc' := [some (.ref 66), some (fI n), none, none, none, none, none]) (st' := [fI 1]) (h' := h_1001) (cl' := 0) (sl' := 0) rfl ?_
    refine fw_if_ne rfl rfl (by omega) (by omega) (fun hc1 => absurd hc1 (by omega)) (fun hc1 => ?_)
    refine ik_Wk 1 (pc' := 16) (loc' := [some (.ref 66), some (fI n), none, none, none, none, none]) (st' := [.ref 66]) (h' := h_1001) (cl' := 0) (sl' := 0) rfl ?_
    refine ik_Wc 134 1 0 [.ref 66] [] rfl rfl rfl (by decide) rfl rfl (fw_rec k_1001 rfl g_1001_66 rfl (by decide)) ?_
    refine ik_Wk 0 (pc' := 0) (loc' := [some (.ref 66)]) (st' := []) (h' := h_1001) (cl' := 0) (sl' := 0) rfl ?_
    refine ik_Wk 1 (pc' := 1) (loc' := [some (.ref 66)]) (st' := [.ref 66]) (h' := h_1001) (cl' := 0) (sl' := 0) rfl ?_
    refine fw_gf rfl rfl g_1001_66 rfl ?_
    refine ik_Wk 1 (pc' := 5) (loc' := [some (.ref 66)]) (st' := [fI 1, fI pl]) (h' := h_1001) (cl' := 0) (sl' := 0) rfl ?_
    refine fw_ic_le rfl rfl (by omega) (by omega) (by omega) (by omega) (fun hc2 => ?_) (fun hc2 => ?_)
    · refine ik_Wk 1 (pc' := 13) (loc' := [some (.ref 66)]) (st' := [fI 0]) (h' := h_1001) (cl' := 0) (sl' := 0) rfl ?_
      refine ik_Wret rfl rfl ⟨_, _, rfl, rfl, ?_⟩
      refine ik_Wk 0 (pc' := 19) (loc' := [some (.ref 66), some (fI n), none, none, none, none, none]) (st' := [fI 0]) (h' := h_1001) (cl' := 0) (sl' := 0) rfl ?_
      refine fw_if_ne rfl rfl (by omega) (by omega) (fun hc3 => ?_) (fun hc3 => absurd hc3 (by omega))
      refine fw_ld (-1000000003) rfl rfl (by decide) ?_
      exact ik_Wret rfl rfl ⟨_, _, rfl, rfl, rfl, rfl, ⟨(congrArg (fun z => [fI z]) (by unfold an_n; (repeat' split) <;> first | rfl | omega)), g_1001_66, g_1001_71, g_1001_77, n77, g_1001_78, n78, fr_1001⟩⟩
    · refine ik_Wk 2 (pc' := 13) (loc' := [some (.ref 66)]) (st' := [fI 1]) (h' := h_1001) (cl' := 0) (sl' := 0) rfl ?_
      refine ik_Wret rfl rfl ⟨_, _, rfl, rfl, ?_⟩
      refine ik_Wk 0 (pc' := 19) (loc' := [some (.ref 66), some (fI n), none, none, none, none, none]) (st' := [fI 1]) (h' := h_1001) (cl' := 0) (sl' := 0) rfl ?_
      refine fw_if_ne rfl rfl (by omega) (by omega) (fun hc4 => absurd hc4 (by omega)) (fun hc4 => ?_)
      refine ik_Wk 1 (pc' := 26) (loc' := [some (.ref 66), some (fI n), none, none, none, none, none]) (st' := [.ref 66]) (h' := h_1001) (cl' := 0) (sl' := 0) rfl ?_
      refine fw_gf rfl rfl g_1001_66 rfl ?_
      refine ik_Wk 2 (pc' := 31) (loc' := [some (.ref 66), some (fI n), some (fI mi), none, none, none, none]) (st' := [.ref 66]) (h' := h_1001) (cl' := 0) (sl' := 0) rfl ?_
      refine fw_gf rfl rfl g_1001_66 rfl ?_
      refine ik_Wk 1 (pc' := 35) (loc' := [some (.ref 66), some (fI n), some (fI mi), none, none, none, none]) (st' := [fI 0, .ref 71]) (h' := h_1001) (cl' := 0) (sl' := 0) rfl ?_
      refine fw_ial (z := 0) rfl g_1001_71 (by decide) (Nat.le_of_ble_eq_true rfl) (by decide) ?_
      refine ik_Wk 0 (pc' := 36) (loc' := [some (.ref 66), some (fI n), some (fI mi), none, none, none, none]) (st' := [fI xa]) (h' := h_1001) (cl' := 0) (sl' := 0) rfl ?_
      refine ik_Wk 2 (pc' := 38) (loc' := [some (.ref 66), some (fI n), some (fI mi), some (fI xa), none, none, none]) (st' := [.ref 66]) (h' := h_1001) (cl' := 0) (sl' := 0) rfl ?_
      refine fw_gf rfl rfl g_1001_66 rfl ?_
      refine ik_Wk 1 (pc' := 42) (loc' := [some (.ref 66), some (fI n), some (fI mi), some (fI xa), none, none, none]) (st' := [fI 1, .ref 71]) (h' := h_1001) (cl' := 0) (sl' := 0) rfl ?_
      refine fw_ial (z := 1) rfl g_1001_71 (by decide) (Nat.le_of_ble_eq_true rfl) (by decide) ?_
      refine ik_Wk 0 (pc' := 43) (loc' := [some (.ref 66), some (fI n), some (fI mi), some (fI xa), none, none, none]) (st' := [fI xb]) (h' := h_1001) (cl' := 0) (sl' := 0) rfl ?_
      refine ik_Wk 5 (pc' := 51) (loc' := [some (.ref 66), some (fI n), some (fI mi), some (fI xa), some (fI xb), some (fI 0), some (fI 0)]) (st' := []) (h' := h_1001) (cl' := 0) (sl' := 0) rfl ?_
      exact absurd ⟨by omega, by omega⟩ q2
  · have k_1001 := F_1001.1.trans hl
    have fr_1001 := hfr_c (hfr_refl [66, 71, 77, 78] h) F_1001 (by decide)
    have g_1001_66 := (F_1001.2 66 (by decide +kernel)).trans h66
    have g_1001_67 := (F_1001.2 67 (by decide +kernel)).trans h67
    have g_1001_68 := (F_1001.2 68 (by decide +kernel)).trans h68
    have g_1001_69 := (F_1001.2 69 (by decide +kernel)).trans h69
    have g_1001_70 := (F_1001.2 70 (by decide +kernel)).trans h70
    have g_1001_71 := (F_1001.2 71 (by decide +kernel)).trans h71
    have g_1001_77 := (F_1001.2 77 (by decide +kernel)).trans h77
    have g_1001_78 := (F_1001.2 78 (by decide +kernel)).trans h78
    refine ik_Wk 0 (pc' := 9) (loc' := [some (.ref 66), some (fI n), none, none, none, none, none]) (st' := [fI 0]) (h' := h_1001) (cl' := 0) (sl' := 0) rfl ?_
    refine fw_if_ne rfl rfl (by omega) (by omega) (fun hc5 => ?_) (fun hc5 => absurd hc5 (by omega))
    refine fw_ld (-1000000002) rfl rfl (by decide) ?_
    exact ik_Wret rfl rfl ⟨_, _, rfl, rfl, rfl, rfl, ⟨(congrArg (fun z => [fI z]) (by unfold an_n; (repeat' split) <;> first | rfl | omega)), g_1001_66, g_1001_71, g_1001_77, n77, g_1001_78, n78, fr_1001⟩⟩

theorem rp_morning {h : List ik_E} {pl : Int} {mi : Int} {sd : Int} {ka : Int} {pa : Int} {fa : Int} {kb : Int} {pb : Int} {fb : Int} {xa : Int} {xb : Int} {s : Nat} {cn : List Int} {go : List Int} {ch : List Int} {n : Int} {f : Nat → Int} {gt : List Int} {gd : List Int} (q0 : 0 ≤ pl ∧ pl ≤ 12) (q1 : s < 4096) (q2 : 0 ≤ sd ∧ sd < 2147483648) (q3 : 0 ≤ mi ∧ mi < 1999999000) (q4 : ∀ x : Int, 0 ≤ x → x < pl - 1 → 1 ≤ cn.getD x.toNat 0 ∧ ∀ j : Int, 4 * x ≤ j → j < 4 * x + cn.getD x.toNat 0 → 0 ≤ ch.getD j.toNat 0 ∧ ch.getD j.toNat 0 ≤ 100) (q5 : ∀ x : Int, 0 ≤ x → x < pl → 0 ≤ cn.getD x.toNat 0 ∧ cn.getD x.toNat 0 ≤ 4) (q6 : ∀ x : Int, 0 ≤ x → x < pl - 1 → mx_ok pl (mx_w cn go ch s x)) (q7 : 0 ≤ ka ∧ ka ≤ 2) (q8 : 0 ≤ kb ∧ kb ≤ 2) (q9 : 0 ≤ fa ∧ fa ≤ 30) (q10 : 0 ≤ fb ∧ fb ≤ 30) (q11 : 1 < pl → 0 ≤ pa ∧ pa < pl - 1) (q12 : 1 < pl → 0 ≤ pb ∧ pb < pl - 1) (q13 : 1 < pl → (fa ≤ mi → 0 ≤ xa) ∧ (fb ≤ mi → 0 ≤ xb) ∧ (-1 ≤ xa ∧ xa < pl) ∧ (-1 ≤ xb ∧ xb < pl)) (q14 : -2147483648 ≤ n ∧ n < 2147483648) (h66 : cE h 66 (.inr (10, [fI pl, .ref 67, .ref 68, .ref 69, fI ((s : Nat) : Int), .ref 70, .ref 71, fI mi, fI sd, .ref 72, fI (f 10), fI (f 11), fI (f 12), fJ (f 13), fI (f 14), fI (f 15), fI (f 16), fI (f 17), .ref 73, .ref 74, .ref 75, .ref 76, .ref 77, .ref 78, fI (f 24), .ref 79, .ref 80, .ref 81, .ref 82, .ref 83, .ref 84, .ref 85, fJ (f 32), fJ (f 33), .ref 86, .ref 87, fI (f 36), .ref 88, .ref 89, .ref 90, .ref 91, .ref 92, .ref 93]))) (h67 : cE h 67 (.inl (.int, fA cn))) (n67 : cn.length = 12) (h68 : cE h 68 (.inl (.int, fA go))) (n68 : go.length = 48) (h69 : cE h 69 (.inl (.int, fA ch))) (n69 : ch.length = 48) (h70 : cE h 70 (.inl (.int, fA [ka, pa, fa, kb, pb, fb]))) (h71 : cE h 71 (.inl (.int, fA [xa, xb]))) (h77 : cE h 77 (.inl (.int, fA gt))) (n77 : gt.length = 5) (h78 : cE h 78 (.inl (.int, fA gd))) (n78 : gd.length = 5) (hl : h.length = 94) : ik_F 202 [.ref 66, fI n] h (fun rv h' => (∃ (w' : Int) (gt' : List Int) (gd' : List Int), rv = [fI ((mx_mo (fun x => mx_w cn go ch s x) (pl - 1) ka pa fa kb pb fb n.toNat 0 sd).1)] ∧ cE h' 66 (.inr (10, [fI pl, .ref 67, .ref 68, .ref 69, fI ((s : Nat) : Int), .ref 70, .ref 71, fI mi, fI ((mx_mo (fun x => mx_w cn go ch s x) (pl - 1) ka pa fa kb pb fb n.toNat 0 sd).2), .ref 72, fI (f 10), fI (f 11), fI (f 12), fJ (f 13), fI (f 14), fI (f 15), fI (f 16), fI (f 17), .ref 73, .ref 74, .ref 75, .ref 76, .ref 77, .ref 78, fI w', .ref 79, .ref 80, .ref 81, .ref 82, .ref 83, .ref 84, .ref 85, fJ (f 32), fJ (f 33), .ref 86, .ref 87, fI (f 36), .ref 88, .ref 89, .ref 90, .ref 91, .ref 92, .ref 93])) ∧ cE h' 71 (.inl (.int, fA [xa, xb])) ∧ cE h' 77 (.inl (.int, fA gt')) ∧ gt'.length = 5 ∧ cE h' 78 (.inl (.int, fA gd')) ∧ gd'.length = 5 ∧ ((1 ≤ n ∧ n ≤ 40) ∧ 1 < pl) ∧ hfr [66, 71, 77, 78] h h') ∨ (rv = [fI (an_n 40 n)] ∧ cE h' 66 (.inr (10, [fI pl, .ref 67, .ref 68, .ref 69, fI ((s : Nat) : Int), .ref 70, .ref 71, fI mi, fI sd, .ref 72, fI (f 10), fI (f 11), fI (f 12), fJ (f 13), fI (f 14), fI (f 15), fI (f 16), fI (f 17), .ref 73, .ref 74, .ref 75, .ref 76, .ref 77, .ref 78, fI (f 24), .ref 79, .ref 80, .ref 81, .ref 82, .ref 83, .ref 84, .ref 85, fJ (f 32), fJ (f 33), .ref 86, .ref 87, fI (f 36), .ref 88, .ref 89, .ref 90, .ref 91, .ref 92, .ref 93])) ∧ cE h' 71 (.inl (.int, fA [xa, xb])) ∧ cE h' 77 (.inl (.int, fA gt)) ∧ gt.length = 5 ∧ cE h' 78 (.inl (.int, fA gd)) ∧ gd.length = 5 ∧ (¬ ((1 ≤ n ∧ n ≤ 40) ∧ 1 < pl)) ∧ hfr [66, 71, 77, 78] h h')) := by
  by_cases hok : (1 ≤ n ∧ n ≤ 40) ∧ 1 < pl
  · refine ik_F_mono (cr_morn (pl := pl) (mi := mi) (sd := sd) (ka := ka) (pa := pa) (fa := fa) (kb := kb) (pb := pb) (fb := fb) (xa := xa) (xb := xb) (s := s) (cn := cn) (go := go) (ch := ch) (n := n) (f := f) (gt := gt) (gd := gd) (by first | omega | exact (q11 hok.2) | exact (q12 hok.2) | exact (q13 hok.2) | (have := q11 hok.2; have := q12 hok.2; have := q13 hok.2; omega)) q1 q2 (by first | omega | exact (q11 hok.2) | exact (q12 hok.2) | exact (q13 hok.2) | (have := q11 hok.2; have := q12 hok.2; have := q13 hok.2; omega)) q4 q5 q6 q7 q8 q9 q10 (by have := q11 hok.2; omega) (by have := q12 hok.2; omega) (by first | omega | exact (q11 hok.2) | exact (q12 hok.2) | exact (q13 hok.2) | (have := q11 hok.2; have := q12 hok.2; have := q13 hok.2; omega)) h66 h67 n67 h68 n68 h69 n69 h70 h71 h77 n77 h78 n78 hl) (fun rv h' r => Or.inl ?_)
    obtain ⟨w', gt', gd', r⟩ := r
    exact ⟨w', gt', gd', r.1, r.2.1, r.2.2.1, r.2.2.2.1, r.2.2.2.2.1, r.2.2.2.2.2.1, r.2.2.2.2.2.2.1, hok, r.2.2.2.2.2.2.2⟩
  · exact ik_F_mono (rp_mornN (pl := pl) (mi := mi) (sd := sd) (ka := ka) (pa := pa) (fa := fa) (kb := kb) (pb := pb) (fb := fb) (xa := xa) (xb := xb) (s := s) (cn := cn) (go := go) (ch := ch) (n := n) (f := f) (gt := gt) (gd := gd) q0 q14 hok h66 h67 n67 h68 n68 h69 n69 h70 h71 h77 n77 h78 n78 hl) (fun rv h' r => Or.inr ⟨r.1, r.2.1, r.2.2.1, r.2.2.2.1, r.2.2.2.2.1, r.2.2.2.2.2.1, r.2.2.2.2.2.2.1, hok, r.2.2.2.2.2.2.2⟩)

theorem mx_mo_sd {W : Int → List (Int × Int)} {pl ka pa fa kb pb fb : Int} (hW : ∀ x : Int, 0 ≤ x → x < pl - 1 → mx_ok pl (W x)) (ha : 0 ≤ pa ∧ pa < pl) (hb : 0 ≤ pb ∧ pb < pl) (hfa : 0 ≤ fa) (hfb : 0 ≤ fb) : ∀ (n : Nat) (w d : Int), (0 ≤ d ∧ d < 2147483648) → 0 ≤ (mx_mo W (pl - 1) ka pa fa kb pb fb n w d).2 ∧ (mx_mo W (pl - 1) ka pa fa kb pb fb n w d).2 < 2147483648 := by
  intro n
  induction n with
  | zero => intro w d h; exact h
  | succ n ih =>
    intro w d h
    rw [mx_mo]
    have za := mx_sp_b (c := pa) (fr := fa) (pl := pl) ha hfa
    have zb := mx_sp_b (c := pb) (fr := fb) (pl := pl) hb hfb
    have z := mx_dr_in (W := W) (pl := pl) (ka := ka) (kb := kb) (pa := pa) (pb := pb) (fa := fa) (fb := fb) hW ha hb 200 (mx_sp pa fa) (mx_sp pb fb) 0 d za.1 zb.1 za.2 zb.2 h
    exact ih _ _ z.2.2.2.2.1
end