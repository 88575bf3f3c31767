noncomputable section
/-! suits by draws (written by wip/fx/u5.py) -/
theorem cr_mornL {h : List ik_E} {pl : Int} {mi : Int} {sd : Int} {ka : Int} {pa : Int} {fa : Int} {kb : Int} {pb : Int} {fb : Int} {xa : Int} {xb : Int} {s : Nat} {cn : List Int} {go : List Int} {ch : List Int} {n : Int} {f : Nat → Int} {gt : List Int} {gd : List Int} (q0 : 2 ≤ pl ∧ pl ≤ 12) (q1 : s < 4096) (q2 : 0 ≤ sd ∧ sd < 2147483648) (q3 : 0 ≤ mi ∧ mi < 2000000000) (q4 : ∀ x : Int, 0 ≤ x → x < pl - 1 → 1 ≤ cn.getD x.toNat 0 ∧ ∀ j : Int, 4 * x ≤ j → j < 4 * x + cn.getD x.toNat 0 → 0 ≤ ch.getD j.toNat 0 ∧ ch.getD j.toNat 0 ≤ 100) (q5 : ∀ x : Int, 0 ≤ x → x < pl → 0 ≤ cn.getD x.toNat 0 ∧ cn.getD x.toNat 0 ≤ 4) (q6 : ∀ x : Int, 0 ≤ x → x < pl - 1 → mx_ok pl (mx_w cn go ch s x)) (q7 : 0 ≤ ka ∧ ka ≤ 2) (q8 : 0 ≤ kb ∧ kb ≤ 2) (q9 : 0 ≤ fa ∧ fa ≤ 30) (q10 : 0 ≤ fb ∧ fb ≤ 30) (q11 : 0 ≤ pa ∧ pa < pl) (q12 : 0 ≤ pb ∧ pb < pl) (q13 : 1 ≤ n ∧ n ≤ 40)  : ∀ (k : Nat) (i : Int) (wn : Int) (x : Int) (y : Int) (m : Int) (d : Int) (w : Int) (g1 : List Int) (d1 : List Int) (u : List ik_E) (u66 : cE u 66 (.inr (10, [fI pl, .ref 67, .ref 68, .ref 69, fI ((s : Nat) : Int), .ref 70, .ref 71, fI m, fI d, .ref 72, fI (f 10), fI (f 11), fI (f 12), fJ (f 13), fI (f 14), fI (f 15), fI (f 16), fI (f 17), .ref 73, .ref 74, .ref 75, .ref 76, .ref 77, .ref 78, fI w, .ref 79, .ref 80, .ref 81, .ref 82, .ref 83, .ref 84, .ref 85, fJ (f 32), fJ (f 33), .ref 86, .ref 87, fI (f 36), .ref 88, .ref 89, .ref 90, .ref 91, .ref 92, .ref 93]))) (u67 : cE u 67 (.inl (.int, fA cn))) (n67 : cn.length = 12) (u68 : cE u 68 (.inl (.int, fA go))) (n68 : go.length = 48) (u69 : cE u 69 (.inl (.int, fA ch))) (n69 : ch.length = 48) (u70 : cE u 70 (.inl (.int, fA [ka, pa, fa, kb, pb, fb]))) (u71 : cE u 71 (.inl (.int, fA [x, y]))) (u77 : cE u 77 (.inl (.int, fA g1))) (n77 : g1.length = 5) (u78 : cE u 78 (.inl (.int, fA d1))) (n78 : d1.length = 5) (ul : u.length = 94) (F : hfr [66, 71, 77, 78] h u) (hi : 0 ≤ i ∧ i ≤ n) (hw : 0 ≤ wn ∧ wn ≤ i) (hd : 0 ≤ d ∧ d < 2147483648) (he : (mx_mo (fun x => mx_w cn go ch s x) (pl - 1) ka pa fa kb pb fb n.toNat 0 sd) = (mx_mo (fun x => mx_w cn go ch s x) (pl - 1) ka pa fa kb pb fb ((n - i).toNat) wn d)) (hk : n - i < (k : Int)), ik_G 202 51 [some (.ref 66), some (fI n), some (fI mi), some (fI xa), some (fI xb), some (fI wn), some (fI i)] [] u (fun rv h' => ∃ (w' : Int) (gt' : List Int) (gd' : List Int), rv = [fI ((mx_mo (fun x => mx_w cn go ch s x) (pl - 1) ka pa fa kb pb fb n.toNat 0 sd).1)] ∧ cE h' 66 (.inr (10, [fI pl, .ref 67, .ref 68, .ref 69, fI ((s : Nat) : Int), .ref 70, .ref 71, fI mi, fI ((mx_mo (fun x => mx_w cn go ch s x) (pl - 1) ka pa fa kb pb fb n.toNat 0 sd).2), .ref 72, fI (f 10), fI (f 11), fI (f 12), fJ (f 13), fI (f 14), fI (f 15), fI (f 16), fI (f 17), .ref 73, .ref 74, .ref 75, .ref 76, .ref 77, .ref 78, fI w', .ref 79, .ref 80, .ref 81, .ref 82, .ref 83, .ref 84, .ref 85, fJ (f 32), fJ (f 33), .ref 86, .ref 87, fI (f 36), .ref 88, .ref 89, .ref 90, .ref 91, .ref 92, .ref 93])) ∧ cE h' 71 (.inl (.int, fA [xa, xb])) ∧ cE h' 77 (.inl (.int, fA gt')) ∧ gt'.length = 5 ∧ cE h' 78 (.inl (.int, fA gd')) ∧ gd'.length = 5 ∧ hfr [66, 71, 77, 78] h h') := by
  intro k
  induction k with
  | zero => intro i wn x y m d w g1 d1 u u66 u67 n67 u68 n68 u69 n69 u70 u71 u77 n77 u78 n78 ul F hi hw hd he hk; omega
  | succ k ih =>
    intro i wn x y m d w g1 d1 u u66 u67 n67 u68 n68 u69 n69 u70 u71 u77 n77 u78 n78 ul F hi hw hd he hk
    have za := mx_sp_b (c := pa) (fr := fa) (pl := pl) (by omega) (by omega)
    have zb := mx_sp_b (c := pb) (fr := fb) (pl := pl) (by omega) (by omega)
    refine ik_Wk 2 (pc' := 54) (loc' := [some (.ref 66), some (fI n), some (fI mi), some (fI xa), some (fI xb), some (fI wn), some (fI i)]) (st' := [fI n, fI i]) (h' := u) (cl' := 0) (sl' := 0) rfl ?_
    refine fw_ic_ge rfl rfl (by omega) (by omega) (by omega) (by omega) (fun hc1 => ?_) (fun hc1 => ?_)
    · refine ik_Wk 2 (pc' := 90) (loc' := [some (.ref 66), some (fI n), some (fI mi), some (fI xa), some (fI xb), some (fI wn), some (fI i)]) (st' := [fI mi, .ref 66]) (h' := u) (cl' := 0) (sl' := 0) rfl ?_
      refine fx_pf rfl rfl u66 (Nat.le_of_ble_eq_true rfl) rfl rfl ?_
      intro h_90 e_90 f_90 l_90
      have k_90 := l_90.trans ul
      have fr_90 := hfr_w F f_90 l_90 (by decide)
      have g_90_67 := (f_90 67 (by decide)).trans u67
      have g_90_68 := (f_90 68 (by decide)).trans u68
      have g_90_69 := (f_90 69 (by decide)).trans u69
      have g_90_70 := (f_90 70 (by decide)).trans u70
      have g_90_71 := (f_90 71 (by decide)).trans u71
      have g_90_77 := (f_90 77 (by decide)).trans u77
      have g_90_78 := (f_90 78 (by decide)).trans u78
      have g_90_66 : cE h_90 66 (.inr (10, [fI pl, .ref 67, .ref 68, .ref 69, fI ((s : Nat) : Int), .ref 70, .ref 71, fI mi, fI d, .ref 72, fI (f 10), fI (f 11), fI (f 12), fJ (f 13), fI (f 14), fI (f 15), fI (f 16), fI (f 17), .ref 73, .ref 74, .ref 75, .ref 76, .ref 77, .ref 78, fI w, .ref 79, .ref 80, .ref 81, .ref 82, .ref 83, .ref 84, .ref 85, fJ (f 32), fJ (f 33), .ref 86, .ref 87, fI (f 36), .ref 88, .ref 89, .ref 90, .ref 91, .ref 92, .ref 93])) := e_90
      refine ik_Wk 1 (pc' := 94) (loc' := [some (.ref 66), some (fI n), some (fI mi), some (fI xa), some (fI xb), some (fI wn), some (fI i)]) (st' := [.ref 66]) (h' := h_90) (cl' := 0) (sl' := 0) rfl ?_
      refine fw_gf rfl rfl g_90_66 rfl ?_
      refine ik_Wk 2 (pc' := 99) (loc' := [some (.ref 66), some (fI n), some (fI mi), some (fI xa), some (fI xb), some (fI wn), some (fI i)]) (st' := [fI xa, fI 0, .ref 71]) (h' := h_90) (cl' := 0) (sl' := 0) rfl ?_
      refine fx_ias (z := 0) rfl g_90_71 (by decide) (Nat.le_of_ble_eq_true rfl) (by decide) ?_
      intro h_91 e_91 f_91 l_91
      have k_91 := l_91.trans k_90
      have fr_91 := hfr_w fr_90 f_91 l_91 (by decide)
      have g_91_66 := (f_91 66 (by decide)).trans g_90_66
      have g_91_67 := (f_91 67 (by decide)).trans g_90_67
      have g_91_68 := (f_91 68 (by decide)).trans g_90_68
      have g_91_69 := (f_91 69 (by decide)).trans g_90_69
      have g_91_70 := (f_91 70 (by decide)).trans g_90_70
      have g_91_77 := (f_91 77 (by decide)).trans g_90_77
      have g_91_78 := (f_91 78 (by decide)).trans g_90_78
      have g_91_71 : cE h_91 71 (.inl (.int, fA [xa, y])) := e_91
      refine ik_Wk 1 (pc' := 101) (loc' := [some (.ref 66), some (fI n), some (fI mi), some (fI xa), some (fI xb), some (fI wn), some (fI i)]) (st' := [.ref 66]) (h' := h_91) (cl' := 0) (sl' := 0) rfl ?_
      refine fw_gf rfl rfl g_91_66 rfl ?_
      refine ik_Wk 2 (pc' := 107) (loc' := [some (.ref 66), some (fI n), some (fI mi), some (fI xa), some (fI xb), some (fI wn), some (fI i)]) (st' := [fI xb, fI 1, .ref 71]) (h' := h_91) (cl' := 0) (sl' := 0) rfl ?_
      refine fx_ias (z := 1) rfl g_91_71 (by decide) (Nat.le_of_ble_eq_true rfl) (by decide) ?_
      intro h_92 e_92 f_92 l_92
      have k_92 := l_92.trans k_91
      have fr_92 := hfr_w fr_91 f_92 l_92 (by decide)
      have g_92_66 := (f_92 66 (by decide)).trans g_91_66
      have g_92_67 := (f_92 67 (by decide)).trans g_91_67
      have g_92_68 := (f_92 68 (by decide)).trans g_91_68
      have g_92_69 := (f_92 69 (by decide)).trans g_91_69
      have g_92_70 := (f_92 70 (by decide)).trans g_91_70
      have g_92_77 := (f_92 77 (by decide)).trans g_91_77
      have g_92_78 := (f_92 78 (by decide)).trans g_91_78
      have g_92_71 : cE h_92 71 (.inl (.int, fA [xa, xb])) := e_92
      refine ik_Wk 1 (pc' := 110) (loc' := [some (.ref 66), some (fI n), some (fI mi), some (fI xa), some (fI xb), some (fI wn), some (fI i)]) (st' := [fI wn]) (h' := h_92) (cl' := 0) (sl' := 0) rfl ?_
      have e0 : (n - i).toNat = 0 := by omega
      rw [e0] at he
      rw [he]
      exact ik_Wret rfl rfl ⟨_, _, rfl, rfl, rfl, rfl, ⟨w, g1, d1, rfl, g_92_66, g_92_71, g_92_77, n77, g_92_78, n78, fr_92⟩⟩
    · refine ik_Wk 1 (pc' := 58) (loc' := [some (.ref 66), some (fI n), some (fI mi), some (fI xa), some (fI xb), some (fI wn), some (fI i)]) (st' := [.ref 66]) (h' := u) (cl' := 0) (sl' := 0) rfl ?_
      refine fw_call 194 1 0 [.ref 66] [] rfl rfl rfl (by decide) rfl rfl (fw_rec ul rfl u66 rfl (by decide)) (cr_begin (mi := m) (ka := ka) (pa := pa) (fa := fa) (kb := kb) (pb := pb) (fb := fb) (xa := x) (xb := y) (f := fun j => ([pl, 0, 0, 0, ((s : Nat) : Int), 0, 0, 0, d, 0, f 10, f 11, f 12, f 13, f 14, f 15, f 16, f 17, 0, 0, 0, 0, 0, 0, w, 0, 0, 0, 0, 0, 0, 0, f 32, f 33, 0, 0, f 36, 0, 0, 0, 0, 0, 0] : List Int).getD j 0) (by omega) (by omega) u66 u70 u71 ul) ?_
      rintro _ h_93 ⟨rfl, e_93_66, e_93_71, F_93⟩
      have k_93 := F_93.1.trans ul
      have fr_93 := hfr_c F F_93 (by decide)
      have g_93_67 := (F_93.2 67 (by decide +kernel)).trans u67
      have g_93_68 := (F_93.2 68 (by decide +kernel)).trans u68
      have g_93_69 := (F_93.2 69 (by decide +kernel)).trans u69
      have g_93_70 := (F_93.2 70 (by decide +kernel)).trans u70
      have g_93_77 := (F_93.2 77 (by decide +kernel)).trans u77
      have g_93_78 := (F_93.2 78 (by decide +kernel)).trans u78
      have g_93_66 : cE h_93 66 (.inr (10, [fI pl, .ref 67, .ref 68, .ref 69, fI ((s : Nat) : Int), .ref 70, .ref 71, fI 0, fI d, .ref 72, fI (f 10), fI (f 11), fI (f 12), fJ (f 13), fI (f 14), fI (f 15), fI (f 16), fI (f 17), .ref 73, .ref 74, .ref 75, .ref 76, .ref 77, .ref 78, fI w, .ref 79, .ref 80, .ref 81, .ref 82, .ref 83, .ref 84, .ref 85, fJ (f 32), fJ (f 33), .ref 86, .ref 87, fI (f 36), .ref 88, .ref 89, .ref 90, .ref 91, .ref 92, .ref 93])) := e_93_66
      have g_93_71 : cE h_93 71 (.inl (.int, fA [mx_sp pa fa, mx_sp pb fb])) := e_93_71
      refine ik_Wk 0 (pc' := 61) (loc' := [some (.ref 66), some (fI n), some (fI mi), some (fI xa), some (fI xb), some (fI wn), some (fI i)]) (st' := []) (h' := h_93) (cl' := 0) (sl' := 0) rfl ?_
      refine ik_Wk 2 (pc' := 64) (loc' := [some (.ref 66), some (fI n), some (fI mi), some (fI xa), some (fI xb), some (fI wn), some (fI i)]) (st' := [.ref 66, fI wn]) (h' := h_93) (cl' := 0) (sl' := 0) rfl ?_
      refine fw_si rfl (by decide) ?_
      refine fw_call 198 2 0 [.ref 66, fI 200] [fI wn] rfl rfl rfl (by decide) rfl rfl (fw_rec k_93 rfl g_93_66 rfl (by decide)) (cr_drift (pl := pl) (mi := 0) (sd := d) (ka := ka) (pa := pa) (fa := fa) (kb := kb) (pb := pb) (fb := fb) (xa := mx_sp pa fa) (xb := mx_sp pb fb) (s := s) (cn := cn) (go := go) (ch := ch) (n := 200) (f := fun j => ([0, 0, 0, 0, 0, 0, 0, 0, 0, 0, (f 10), (f 11), (f 12), (f 13), (f 14), (f 15), (f 16), (f 17), 0, 0, 0, 0, 0, 0, w, 0, 0, 0, 0, 0, 0, 0, (f 32), (f 33), 0, 0, (f 36), 0, 0, 0, 0, 0, 0] : List Int).getD j 0) (gt := g1) (gd := d1) (by omega) (by omega) (by omega) (by omega) q4 q5 q6 (by omega) (by omega) (by omega) (by omega) (by omega) (by omega) (by omega) (by omega) (by omega) (by omega) (by omega) (by omega) g_93_66 g_93_67 n67 g_93_68 n68 g_93_69 n69 g_93_70 g_93_71 g_93_77 n77 g_93_78 n78 k_93) ?_
      rintro _ h_94 ⟨w'_94, gt'_94, gd'_94, rfl, e_94_66, e_94_71, e_94_77, m_94_77, e_94_78, m_94_78, F_94⟩
      have k_94 := F_94.1.trans k_93
      have fr_94 := hfr_c fr_93 F_94 (by decide)
      have g_94_67 := (F_94.2 67 (by decide +kernel)).trans g_93_67
      have g_94_68 := (F_94.2 68 (by decide +kernel)).trans g_93_68
      have g_94_69 := (F_94.2 69 (by decide +kernel)).trans g_93_69
      have g_94_70 := (F_94.2 70 (by decide +kernel)).trans g_93_70
      have g_94_66 : cE h_94 66 (.inr (10, [fI pl, .ref 67, .ref 68, .ref 69, fI ((s : Nat) : Int), .ref 70, .ref 71, fI ((mx_dr (fun x => mx_w cn go ch s x) (pl - 1) ka pa fa kb pb fb 200 (mx_sp pa fa) (mx_sp pb fb) 0 d).2.2.1), fI ((mx_dr (fun x => mx_w cn go ch s x) (pl - 1) ka pa fa kb pb fb 200 (mx_sp pa fa) (mx_sp pb fb) 0 d).2.2.2), .ref 72, fI (f 10), fI (f 11), fI (f 12), fJ (f 13), fI (f 14), fI (f 15), fI (f 16), fI (f 17), .ref 73, .ref 74, .ref 75, .ref 76, .ref 77, .ref 78, fI w'_94, .ref 79, .ref 80, .ref 81, .ref 82, .ref 83, .ref 84, .ref 85, fJ (f 32), fJ (f 33), .ref 86, .ref 87, fI (f 36), .ref 88, .ref 89, .ref 90, .ref 91, .ref 92, .ref 93])) := e_94_66
      have g_94_71 : cE h_94 71 (.inl (.int, fA [(mx_dr (fun x => mx_w cn go ch s x) (pl - 1) ka pa fa kb pb fb 200 (mx_sp pa fa) (mx_sp pb fb) 0 d).1, (mx_dr (fun x => mx_w cn go ch s x) (pl - 1) ka pa fa kb pb fb 200 (mx_sp pa fa) (mx_sp pb fb) 0 d).2.1])) := e_94_71
      have g_94_77 : cE h_94 77 (.inl (.int, fA gt'_94)) := e_94_77
      have g_94_78 : cE h_94 78 (.inl (.int, fA gd'_94)) := e_94_78
      refine ik_Wk 0 (pc' := 70) (loc' := [some (.ref 66), some (fI n), some (fI mi), some (fI xa), some (fI xb), some (fI wn), some (fI i)]) (st' := [fI (mx_en (pl - 1) (mx_dr (fun x => mx_w cn go ch s x) (pl - 1) ka pa fa kb pb fb 200 (mx_sp pa fa) (mx_sp pb fb) 0 d).1 (mx_dr (fun x => mx_w cn go ch s x) (pl - 1) ka pa fa kb pb fb 200 (mx_sp pa fa) (mx_sp pb fb) 0 d).2.1), fI wn]) (h' := h_94) (cl' := 0) (sl' := 0) rfl ?_
      have zi := mx_dr_in (W := (fun x => mx_w cn go ch s x)) (pl := pl) (ka := ka) (kb := kb) (pa := pa) (pb := pb) (fa := fa) (fb := fb) q6 (by omega) (by omega) 200 (mx_sp pa fa) (mx_sp pb fb) 0 d (by omega) (by omega) (by omega) (by omega) (by omega)
      have hze : mx_en (pl - 1) (mx_dr (fun x => mx_w cn go ch s x) (pl - 1) ka pa fa kb pb fb 200 (mx_sp pa fa) (mx_sp pb fb) 0 d).1 (mx_dr (fun x => mx_w cn go ch s x) (pl - 1) ka pa fa kb pb fb 200 (mx_sp pa fa) (mx_sp pb fb) 0 d).2.1 = (if (mx_dr (fun x => mx_w cn go ch s x) (pl - 1) ka pa fa kb pb fb 200 (mx_sp pa fa) (mx_sp pb fb) 0 d).1 = (pl - 1) then 1 else 0) + (if (mx_dr (fun x => mx_w cn go ch s x) (pl - 1) ka pa fa kb pb fb 200 (mx_sp pa fa) (mx_sp pb fb) 0 d).2.1 = (pl - 1) then 2 else 0) := rfl
      refine ik_Wk 1 (pc' := 71) (loc' := [some (.ref 66), some (fI n), some (fI mi), some (fI xa), some (fI xb), some (fI wn), some (fI i)]) (st' := [fI 1, fI (mx_en (pl - 1) (mx_dr (fun x => mx_w cn go ch s x) (pl - 1) ka pa fa kb pb fb 200 (mx_sp pa fa) (mx_sp pb fb) 0 d).1 (mx_dr (fun x => mx_w cn go ch s x) (pl - 1) ka pa fa kb pb fb 200 (mx_sp pa fa) (mx_sp pb fb) 0 d).2.1), fI wn]) (h' := h_94) (cl' := 0) (sl' := 0) rfl ?_
      refine fw_ic_ne rfl rfl (by omega) (by omega) (by omega) (by omega) (fun hc2 => ?_) (fun hc2 => ?_)
      · refine ik_Wk 2 (pc' := 79) (loc' := [some (.ref 66), some (fI n), some (fI mi), some (fI xa), some (fI xb), some (fI wn), some (fI i)]) (st' := [fI 1, fI wn]) (h' := h_94) (cl' := 0) (sl' := 0) rfl ?_
        refine fw_add rfl ?_
        refine ik_Wk 1 (pc' := 82) (loc' := [some (.ref 66), some (fI n), some (fI mi), some (fI xa), some (fI xb), some (fI (wn + 1)), some (fI i)]) (st' := []) (h' := h_94) (cl' := 0) (sl' := 0) rfl ?_
        refine fw_inc (a := i) (loc' := [some (.ref 66), some (fI n), some (fI mi), some (fI xa), some (fI xb), some (fI (wn + 1)), some (fI (i + 1))]) rfl rfl (Nat.le_of_ble_eq_true rfl) rfl ?_
        refine ik_Wk 1 (pc' := 51) (loc' := [some (.ref 66), some (fI n), some (fI mi), some (fI xa), some (fI xb), some (fI (wn + 1)), some (fI (i + 1))]) (st' := []) (h' := h_94) (cl' := 0) (sl' := 0) rfl ?_
        have eq : (if mx_en (pl - 1) (mx_dr (fun x => mx_w cn go ch s x) (pl - 1) ka pa fa kb pb fb 200 (mx_sp pa fa) (mx_sp pb fb) 0 d).1 (mx_dr (fun x => mx_w cn go ch s x) (pl - 1) ka pa fa kb pb fb 200 (mx_sp pa fa) (mx_sp pb fb) 0 d).2.1 = 1 then (1 : Int) else 0) = 1 := by
          first
          | exact if_pos (by omega)
          | exact if_neg (by omega)
        exact ih  (i + 1) (wn + 1) ((mx_dr (fun x => mx_w cn go ch s x) (pl - 1) ka pa fa kb pb fb 200 (mx_sp pa fa) (mx_sp pb fb) 0 d).1) ((mx_dr (fun x => mx_w cn go ch s x) (pl - 1) ka pa fa kb pb fb 200 (mx_sp pa fa) (mx_sp pb fb) 0 d).2.1) ((mx_dr (fun x => mx_w cn go ch s x) (pl - 1) ka pa fa kb pb fb 200 (mx_sp pa fa) (mx_sp pb fb) 0 d).2.2.1) ((mx_dr (fun x => mx_w cn go ch s x) (pl - 1) ka pa fa kb pb fb 200 (mx_sp pa fa) (mx_sp pb fb) 0 d).2.2.2) w'_94 gt'_94 gd'_94 h_94 g_94_66 g_94_67 n67 g_94_68 n68 g_94_69 n69 g_94_70 g_94_71 g_94_77 m_94_77 g_94_78 m_94_78 k_94 fr_94 (by omega) (by omega) (by omega) (by rw [he, show (n - i).toNat = (n - (i + 1)).toNat + 1 by omega, mx_mo, eq]) (by omega)
      · refine ik_Wk 1 (pc' := 79) (loc' := [some (.ref 66), some (fI n), some (fI mi), some (fI xa), some (fI xb), some (fI wn), some (fI i)]) (st' := [fI 0, fI wn]) (h' := h_94) (cl' := 0) (sl' := 0) rfl ?_
        refine fw_add rfl ?_
        refine ik_Wk 1 (pc' := 82) (loc' := [some (.ref 66), some (fI n), some (fI mi), some (fI xa), some (fI xb), some (fI (wn + 0)), some (fI i)]) (st' := []) (h' := h_94) (cl' := 0) (sl' := 0) rfl ?_
        refine fw_inc (a := i) (loc' := [some (.ref 66), some (fI n), some (fI mi), some (fI xa), some (fI xb), some (fI (wn + 0)), some (fI (i + 1))]) rfl rfl (Nat.le_of_ble_eq_true rfl) rfl ?_
        refine ik_Wk 1 (pc' := 51) (loc' := [some (.ref 66), some (fI n), some (fI mi), some (fI xa), some (fI xb), some (fI (wn + 0)), some (fI (i + 1))]) (st' := []) (h' := h_94) (cl' := 0) (sl' := 0) rfl ?_
        have eq : (if mx_en (pl - 1) (mx_dr (fun x => mx_w cn go ch s x) (pl - 1) ka pa fa kb pb fb 200 (mx_sp pa fa) (mx_sp pb fb) 0 d).1 (mx_dr (fun x => mx_w cn go ch s x) (pl - 1) ka pa fa kb pb fb 200 (mx_sp pa fa) (mx_sp pb fb) 0 d).2.1 = 1 then (1 : Int) else 0) = 0 := by
          first
          | exact if_pos (by omega)
          | exact if_neg (by omega)
        exact ih  (i + 1) (wn + 0) ((mx_dr (fun x => mx_w cn go ch s x) (pl - 1) ka pa fa kb pb fb 200 (mx_sp pa fa) (mx_sp pb fb) 0 d).1) ((mx_dr (fun x => mx_w cn go ch s x) (pl - 1) ka pa fa kb pb fb 200 (mx_sp pa fa) (mx_sp pb fb) 0 d).2.1) ((mx_dr (fun x => mx_w cn go ch s x) (pl - 1) ka pa fa kb pb fb 200 (mx_sp pa fa) (mx_sp pb fb) 0 d).2.2.1) ((mx_dr (fun x => mx_w cn go ch s x) (pl - 1) ka pa fa kb pb fb 200 (mx_sp pa fa) (mx_sp pb fb) 0 d).2.2.2) w'_94 gt'_94 gd'_94 h_94 g_94_66 g_94_67 n67 g_94_68 n68 g_94_69 n69 g_94_70 g_94_71 g_94_77 m_94_77 g_94_78 m_94_78 k_94 fr_94 (by omega) (by omega) (by omega) (by rw [he, show (n - i).toNat = (n - (i + 1)).toNat + 1 by omega, mx_mo, eq]) (by omega)

theorem cr_morn {h : List ik_E} {pl : Int} {mi : Int} {sd : Int} {ka : Int} {pa : Int} {fa : Int} {kb : Int} {pb : Int} {fb : Int} {xa : Int} {xb : Int} {s : Nat} {cn : List Int} {go : List Int} {ch : List Int} {n : Int} {f : Nat → Int} {gt : List Int} {gd : List Int} (q0 : 2 ≤ pl ∧ pl ≤ 12) (q1 : s < 4096) (q2 : 0 ≤ sd ∧ sd < 2147483648) (q3 : 0 ≤ mi ∧ mi < 2000000000) (q4 : ∀ x : Int, 0 ≤ x → x < pl - 1 → 1 ≤ cn.getD x.toNat 0 ∧ ∀ j : Int, 4 * x ≤ j → j < 4 * x + cn.getD x.toNat 0 → 0 ≤ ch.getD j.toNat 0 ∧ ch.getD j.toNat 0 ≤ 100) (q5 : ∀ x : Int, 0 ≤ x → x < pl → 0 ≤ cn.getD x.toNat 0 ∧ cn.getD x.toNat 0 ≤ 4) (q6 : ∀ x : Int, 0 ≤ x → x < pl - 1 → mx_ok pl (mx_w cn go ch s x)) (q7 : 0 ≤ ka ∧ ka ≤ 2) (q8 : 0 ≤ kb ∧ kb ≤ 2) (q9 : 0 ≤ fa ∧ fa ≤ 30) (q10 : 0 ≤ fb ∧ fb ≤ 30) (q11 : 0 ≤ pa ∧ pa < pl) (q12 : 0 ≤ pb ∧ pb < pl) (q13 : 1 ≤ n ∧ n ≤ 40) (h66 : cE h 66 (.inr (10, [fI pl, .ref 67, .ref 68, .ref 69, fI ((s : Nat) : Int), .ref 70, .ref 71, fI mi, fI sd, .ref 72, fI (f 10), fI (f 11), fI (f 12), fJ (f 13), fI (f 14), fI (f 15), fI (f 16), fI (f 17), .ref 73, .ref 74, .ref 75, .ref 76, .ref 77, .ref 78, fI (f 24), .ref 79, .ref 80, .ref 81, .ref 82, .ref 83, .ref 84, .ref 85, fJ (f 32), fJ (f 33), .ref 86, .ref 87, fI (f 36), .ref 88, .ref 89, .ref 90, .ref 91, .ref 92, .ref 93]))) (h67 : cE h 67 (.inl (.int, fA cn))) (n67 : cn.length = 12) (h68 : cE h 68 (.inl (.int, fA go))) (n68 : go.length = 48) (h69 : cE h 69 (.inl (.int, fA ch))) (n69 : ch.length = 48) (h70 : cE h 70 (.inl (.int, fA [ka, pa, fa, kb, pb, fb]))) (h71 : cE h 71 (.inl (.int, fA [xa, xb]))) (h77 : cE h 77 (.inl (.int, fA gt))) (n77 : gt.length = 5) (h78 : cE h 78 (.inl (.int, fA gd))) (n78 : gd.length = 5) (hl : h.length = 94) : ik_F 202 [.ref 66, fI n] h (fun rv h' => ∃ (w' : Int) (gt' : List Int) (gd' : List Int), rv = [fI ((mx_mo (fun x => mx_w cn go ch s x) (pl - 1) ka pa fa kb pb fb n.toNat 0 sd).1)] ∧ cE h' 66 (.inr (10, [fI pl, .ref 67, .ref 68, .ref 69, fI ((s : Nat) : Int), .ref 70, .ref 71, fI mi, fI ((mx_mo (fun x => mx_w cn go ch s x) (pl - 1) ka pa fa kb pb fb n.toNat 0 sd).2), .ref 72, fI (f 10), fI (f 11), fI (f 12), fJ (f 13), fI (f 14), fI (f 15), fI (f 16), fI (f 17), .ref 73, .ref 74, .ref 75, .ref 76, .ref 77, .ref 78, fI w', .ref 79, .ref 80, .ref 81, .ref 82, .ref 83, .ref 84, .ref 85, fJ (f 32), fJ (f 33), .ref 86, .ref 87, fI (f 36), .ref 88, .ref 89, .ref 90, .ref 91, .ref 92, .ref 93])) ∧ cE h' 71 (.inl (.int, fA [xa, xb])) ∧ cE h' 77 (.inl (.int, fA gt')) ∧ gt'.length = 5 ∧ cE h' 78 (.inl (.int, fA gd')) ∧ gd'.length = 5 ∧ hfr [66, 71, 77, 78] h h') := by
  refine ik_Wk 1 (pc' := 1) (loc' := [some (.ref 66), some (fI n), none, none, none, none, none]) (st' := [fI n]) (h' := h) (cl' := 0) (sl' := 0) rfl ?_
  refine fw_i2l rfl (by omega) (by omega) ?_
  refine fw_lc (z := 1) rfl (by decide) ?_
  refine fw_l2 40 rfl rfl (by decide) ?_
  refine fw_call 127 3 3 [fJ n, fJ 1, fJ 40] [] rfl rfl rfl (by decide) rfl rfl (fw_sta hl rfl (by decide)) (cr_in (v := n) (a := 1) (b := 40) (by omega) (by omega) (by omega)  hl) ?_
  rintro _ h_95 (⟨rfl, p_95_0, F_95⟩ | ⟨rfl, p_95_0, F_95⟩)
  · have k_95 := F_95.1.trans hl
    have fr_95 := hfr_c (hfr_refl [66, 71, 77, 78] h) F_95 (by decide)
    have g_95_66 := (F_95.2 66 (by decide +kernel)).trans h66
    have g_95_67 := (F_95.2 67 (by decide +kernel)).trans h67
    have g_95_68 := (F_95.2 68 (by decide +kernel)).trans h68
    have g_95_69 := (F_95.2 69 (by decide +kernel)).trans h69
    have g_95_70 := (F_95.2 70 (by decide +kernel)).trans h70
    have g_95_71 := (F_95.2 71 (by decide +kernel)).trans h71
    have g_95_77 := (F_95.2 77 (by decide +kernel)).trans h77
    have g_95_78 := (F_95.2 78 (by decide +kernel)).trans h78
    refine ik_Wk 0 (pc' := 9) (loc' := [some (.ref 66), some (fI n), none, none, none, none, none]) (st' := [fI 1]) (h' := h_95) (cl' := 0) (sl' := 0) rfl ?_
    refine fw_if_ne rfl rfl (by omega) (by omega) (fun hc1 => absurd hc1 (by omega)) (fun hc1 => ?_)
    refine ik_Wk 1 (pc' := 16) (loc' := [some (.ref 66), some (fI n), none, none, none, none, none]) (st' := [.ref 66]) (h' := h_95) (cl' := 0) (sl' := 0) rfl ?_
    refine ik_Wc 134 1 0 [.ref 66] [] rfl rfl rfl (by decide) rfl rfl (fw_rec k_95 rfl g_95_66 rfl (by decide)) ?_
    refine ik_Wk 0 (pc' := 0) (loc' := [some (.ref 66)]) (st' := []) (h' := h_95) (cl' := 0) (sl' := 0) rfl ?_
    refine ik_Wk 1 (pc' := 1) (loc' := [some (.ref 66)]) (st' := [.ref 66]) (h' := h_95) (cl' := 0) (sl' := 0) rfl ?_
    refine fw_gf rfl rfl g_95_66 rfl ?_
    refine ik_Wk 1 (pc' := 5) (loc' := [some (.ref 66)]) (st' := [fI 1, fI pl]) (h' := h_95) (cl' := 0) (sl' := 0) rfl ?_
    refine fw_ic_le rfl rfl (by omega) (by omega) (by omega) (by omega) (fun hc2 => absurd hc2 (by omega)) (fun hc2 => ?_)
    refine ik_Wk 2 (pc' := 13) (loc' := [some (.ref 66)]) (st' := [fI 1]) (h' := h_95) (cl' := 0) (sl' := 0) rfl ?_
    refine ik_Wret rfl rfl ⟨_, _, rfl, rfl, ?_⟩
    refine ik_Wk 0 (pc' := 19) (loc' := [some (.ref 66), some (fI n), none, none, none, none, none]) (st' := [fI 1]) (h' := h_95) (cl' := 0) (sl' := 0) rfl ?_
    refine fw_if_ne rfl rfl (by omega) (by omega) (fun hc3 => absurd hc3 (by omega)) (fun hc3 => ?_)
    refine ik_Wk 1 (pc' := 26) (loc' := [some (.ref 66), some (fI n), none, none, none, none, none]) (st' := [.ref 66]) (h' := h_95) (cl' := 0) (sl' := 0) rfl ?_
    refine fw_gf rfl rfl g_95_66 rfl ?_
    refine ik_Wk 2 (pc' := 31) (loc' := [some (.ref 66), some (fI n), some (fI mi), none, none, none, none]) (st' := [.ref 66]) (h' := h_95) (cl' := 0) (sl' := 0) rfl ?_
    refine fw_gf rfl rfl g_95_66 rfl ?_
    refine ik_Wk 1 (pc' := 35) (loc' := [some (.ref 66), some (fI n), some (fI mi), none, none, none, none]) (st' := [fI 0, .ref 71]) (h' := h_95) (cl' := 0) (sl' := 0) rfl ?_
    refine fw_ial (z := 0) rfl g_95_71 (by decide) (Nat.le_of_ble_eq_true rfl) (by decide) ?_
    refine ik_Wk 0 (pc' := 36) (loc' := [some (.ref 66), some (fI n), some (fI mi), none, none, none, none]) (st' := [fI xa]) (h' := h_95) (cl' := 0) (sl' := 0) rfl ?_
    refine ik_Wk 2 (pc' := 38) (loc' := [some (.ref 66), some (fI n), some (fI mi), some (fI xa), none, none, none]) (st' := [.ref 66]) (h' := h_95) (cl' := 0) (sl' := 0) rfl ?_
    refine fw_gf rfl rfl g_95_66 rfl ?_
    refine ik_Wk 1 (pc' := 42) (loc' := [some (.ref 66), some (fI n), some (fI mi), some (fI xa), none, none, none]) (st' := [fI 1, .ref 71]) (h' := h_95) (cl' := 0) (sl' := 0) rfl ?_
    refine fw_ial (z := 1) rfl g_95_71 (by decide) (Nat.le_of_ble_eq_true rfl) (by decide) ?_
    refine ik_Wk 0 (pc' := 43) (loc' := [some (.ref 66), some (fI n), some (fI mi), some (fI xa), none, none, none]) (st' := [fI xb]) (h' := h_95) (cl' := 0) (sl' := 0) rfl ?_
    refine ik_Wk 5 (pc' := 51) (loc' := [some (.ref 66), some (fI n), some (fI mi), some (fI xa), some (fI xb), some (fI 0), some (fI 0)]) (st' := []) (h' := h_95) (cl' := 0) (sl' := 0) rfl ?_
    exact cr_mornL (pl := pl) (mi := mi) (sd := sd) (ka := ka) (pa := pa) (fa := fa) (kb := kb) (pb := pb) (fb := fb) (xa := xa) (xb := xb) (s := s) (cn := cn) (go := go) (ch := ch) (n := n) (f := f) (gt := gt) (gd := gd) q0 q1 q2 q3 q4 q5 q6 q7 q8 q9 q10 q11 q12 q13  (n.toNat + 1) 0 0 xa xb mi sd (f 24) gt gd h_95 g_95_66 g_95_67 n67 g_95_68 n68 g_95_69 n69 g_95_70 g_95_71 g_95_77 n77 g_95_78 n78 k_95 fr_95 (by omega) (by omega) (by omega) (by rw [show n - 0 = n by omega]) (by omega)
  · have k_95 := F_95.1.trans hl
    have fr_95 := hfr_c (hfr_refl [66, 71, 77, 78] h) F_95 (by decide)
    have g_95_66 := (F_95.2 66 (by decide +kernel)).trans h66
    have g_95_67 := (F_95.2 67 (by decide +kernel)).trans h67
    have g_95_68 := (F_95.2 68 (by decide +kernel)).trans h68
    have g_95_69 := (F_95.2 69 (by decide +kernel)).trans h69
    have g_95_70 := (F_95.2 70 (by decide +kernel)).trans h70
    have g_95_71 := (F_95.2 71 (by decide +kernel)).trans h71
    have g_95_77 := (F_95.2 77 (by decide +kernel)).trans h77
    have g_95_78 := (F_95.2 78 (by decide +kernel)).trans h78
    omega

theorem cs_mornL {h : List ik_E} {pl : Int} {mi : Int} {sd : Int} {ka : Int} {pa : Int} {fa : Int} {kb : Int} {pb : Int} {fb : Int} {xa : Int} {xb : Int} {s : Nat} {cn : List Int} {go : List Int} {ch : List Int} {n : Int} {lo : Int} {wg : List Int} {wc : List Int} {we : List Int} (q0 : 2 ≤ pl ∧ pl ≤ 12) (q1 : s < 4096) (q2 : 0 ≤ sd ∧ sd < 2147483648) (q3 : 0 ≤ mi ∧ mi < 2000000000) (q4 : ∀ x : Int, 0 ≤ x → x < pl - 1 → mx_wy wg wc we x (mx_w cn go ch s x)) (q5 : ∀ x : Int, 0 ≤ x → x < pl - 1 → mx_ok pl (mx_w cn go ch s x)) (q6 : 0 ≤ ka ∧ ka ≤ 2) (q7 : 0 ≤ kb ∧ kb ≤ 2) (q8 : 0 ≤ fa ∧ fa ≤ 30) (q9 : 0 ≤ fb ∧ fb ≤ 30) (q10 : 0 ≤ pa ∧ pa < pl) (q11 : 0 ≤ pb ∧ pb < pl) (q12 : 1 ≤ n ∧ n ≤ 40)  : ∀ (k : Nat) (i : Int) (wn : Int) (x : Int) (y : Int) (m : Int) (d : Int) (u : List ik_E) (u7 : cE u 7 (.inr (0, [fI pl, fI ((s : Nat) : Int), fI lo, .ref 8, .ref 9, .ref 10, .ref 11, .ref 12, .ref 13]))) (u11 : cE u 11 (.inl (.int, fA wg))) (n11 : wg.length = 60) (u12 : cE u 12 (.inl (.int, fA wc))) (n12 : wc.length = 60) (u13 : cE u 13 (.inl (.int, fA we))) (n13 : we.length = 12) (u14 : cE u 14 (.inr (1, [.ref 7, .ref 15, .ref 16, fI m, fJ d]))) (u15 : cE u 15 (.inl (.int, fA [ka, pa, fa, kb, pb, fb]))) (u16 : cE u 16 (.inl (.int, fA [x, y]))) (ul : u.length = 94) (F : hfr [14, 16] h u) (hi : 0 ≤ i ∧ i ≤ n) (hw : 0 ≤ wn ∧ wn ≤ i) (hd : 0 ≤ d ∧ d < 2147483648) (he : (mx_mo (fun x => mx_w cn go ch s x) (pl - 1) ka pa fa kb pb fb n.toNat 0 sd) = (mx_mo (fun x => mx_w cn go ch s x) (pl - 1) ka pa fa kb pb fb ((n - i).toNat) wn d)) (hk : n - i < (k : Int)), ik_G 28 26 [some (.ref 14), some (fI n), some (fI xa), some (fI xb), some (fI mi), some (fI wn), some (fI i)] [] u (fun rv h' => rv = [fI ((mx_mo (fun x => mx_w cn go ch s x) (pl - 1) ka pa fa kb pb fb n.toNat 0 sd).1)] ∧ cE h' 14 (.inr (1, [.ref 7, .ref 15, .ref 16, fI mi, fJ ((mx_mo (fun x => mx_w cn go ch s x) (pl - 1) ka pa fa kb pb fb n.toNat 0 sd).2)])) ∧ cE h' 16 (.inl (.int, fA [xa, xb])) ∧ hfr [14, 16] h h') := by
  intro k
  induction k with
  | zero => intro i wn x y m d u u7 u11 n11 u12 n12 u13 n13 u14 u15 u16 ul F hi hw hd he hk; omega
  | succ k ih =>
    intro i wn x y m d u u7 u11 n11 u12 n12 u13 n13 u14 u15 u16 ul F hi hw hd he hk
    have za := mx_sp_b (c := pa) (fr := fa) (pl := pl) (by omega) (by omega)
    have zb := mx_sp_b (c := pb) (fr := fb) (pl := pl) (by omega) (by omega)
    refine ik_Wk 2 (pc' := 29) (loc' := [some (.ref 14), some (fI n), some (fI xa), some (fI xb), some (fI mi), some (fI wn), some (fI i)]) (st' := [fI n, fI i]) (h' := u) (cl' := 0) (sl' := 0) rfl ?_
    refine fw_ic_ge rfl rfl (by omega) (by omega) (by omega) (by omega) (fun hc1 => ?_) (fun hc1 => ?_)
    · refine ik_Wk 1 (pc' := 61) (loc' := [some (.ref 14), some (fI n), some (fI xa), some (fI xb), some (fI mi), some (fI wn), some (fI i)]) (st' := [.ref 14]) (h' := u) (cl' := 0) (sl' := 0) rfl ?_
      refine fw_gf rfl rfl u14 rfl ?_
      refine ik_Wk 2 (pc' := 66) (loc' := [some (.ref 14), some (fI n), some (fI xa), some (fI xb), some (fI mi), some (fI wn), some (fI i)]) (st' := [fI xa, fI 0, .ref 16]) (h' := u) (cl' := 0) (sl' := 0) rfl ?_
      refine fx_ias (z := 0) rfl u16 (by decide) (Nat.le_of_ble_eq_true rfl) (by decide) ?_
      intro h_96 e_96 f_96 l_96
      have k_96 := l_96.trans ul
      have fr_96 := hfr_w F f_96 l_96 (by decide)
      have g_96_7 := (f_96 7 (by decide)).trans u7
      have g_96_11 := (f_96 11 (by decide)).trans u11
      have g_96_12 := (f_96 12 (by decide)).trans u12
      have g_96_13 := (f_96 13 (by decide)).trans u13
      have g_96_14 := (f_96 14 (by decide)).trans u14
      have g_96_15 := (f_96 15 (by decide)).trans u15
      have g_96_16 : cE h_96 16 (.inl (.int, fA [xa, y])) := e_96
      refine ik_Wk 1 (pc' := 68) (loc' := [some (.ref 14), some (fI n), some (fI xa), some (fI xb), some (fI mi), some (fI wn), some (fI i)]) (st' := [.ref 14]) (h' := h_96) (cl' := 0) (sl' := 0) rfl ?_
      refine fw_gf rfl rfl g_96_14 rfl ?_
      refine ik_Wk 2 (pc' := 73) (loc' := [some (.ref 14), some (fI n), some (fI xa), some (fI xb), some (fI mi), some (fI wn), some (fI i)]) (st' := [fI xb, fI 1, .ref 16]) (h' := h_96) (cl' := 0) (sl' := 0) rfl ?_
      refine fx_ias (z := 1) rfl g_96_16 (by decide) (Nat.le_of_ble_eq_true rfl) (by decide) ?_
      intro h_97 e_97 f_97 l_97
      have k_97 := l_97.trans k_96
      have fr_97 := hfr_w fr_96 f_97 l_97 (by decide)
      have g_97_7 := (f_97 7 (by decide)).trans g_96_7
      have g_97_11 := (f_97 11 (by decide)).trans g_96_11
      have g_97_12 := (f_97 12 (by decide)).trans g_96_12
      have g_97_13 := (f_97 13 (by decide)).trans g_96_13
      have g_97_14 := (f_97 14 (by decide)).trans g_96_14
      have g_97_15 := (f_97 15 (by decide)).trans g_96_15
      have g_97_16 : cE h_97 16 (.inl (.int, fA [xa, xb])) := e_97
      refine ik_Wk 2 (pc' := 77) (loc' := [some (.ref 14), some (fI n), some (fI xa), some (fI xb), some (fI mi), some (fI wn), some (fI i)]) (st' := [fI mi, .ref 14]) (h' := h_97) (cl' := 0) (sl' := 0) rfl ?_
      refine fx_pf rfl rfl g_97_14 (Nat.le_of_ble_eq_true rfl) rfl rfl ?_
      intro h_98 e_98 f_98 l_98
      have k_98 := l_98.trans k_97
      have fr_98 := hfr_w fr_97 f_98 l_98 (by decide)
      have g_98_7 := (f_98 7 (by decide)).trans g_97_7
      have g_98_11 := (f_98 11 (by decide)).trans g_97_11
      have g_98_12 := (f_98 12 (by decide)).trans g_97_12
      have g_98_13 := (f_98 13 (by decide)).trans g_97_13
      have g_98_15 := (f_98 15 (by decide)).trans g_97_15
      have g_98_16 := (f_98 16 (by decide)).trans g_97_16
      have g_98_14 : cE h_98 14 (.inr (1, [.ref 7, .ref 15, .ref 16, fI mi, fJ d])) := e_98
      refine ik_Wk 1 (pc' := 82) (loc' := [some (.ref 14), some (fI n), some (fI xa), some (fI xb), some (fI mi), some (fI wn), some (fI i)]) (st' := [fI wn]) (h' := h_98) (cl' := 0) (sl' := 0) rfl ?_
      have e0 : (n - i).toNat = 0 := by omega
      rw [e0] at he
      rw [he]
      exact ik_Wret rfl rfl ⟨_, _, rfl, rfl, rfl, rfl, ⟨rfl, g_98_14, g_98_16, fr_98⟩⟩
    · refine ik_Wk 1 (pc' := 33) (loc' := [some (.ref 14), some (fI n), some (fI xa), some (fI xb), some (fI mi), some (fI wn), some (fI i)]) (st' := [.ref 14]) (h' := u) (cl' := 0) (sl' := 0) rfl ?_
      refine fw_call 23 1 0 [.ref 14] [] rfl rfl rfl (by decide) rfl rfl (fw_rec ul rfl u14 rfl (by decide)) (cs_restart (mi := m) (ka := ka) (pa := pa) (fa := fa) (kb := kb) (pb := pb) (fb := fb) (xa := x) (xb := y) (sd := d) (by omega) (by omega) u14 u15 u16 ul) ?_
      rintro _ h_99 ⟨rfl, e_99_14, e_99_16, F_99⟩
      have k_99 := F_99.1.trans ul
      have fr_99 := hfr_c F F_99 (by decide)
      have g_99_7 := (F_99.2 7 (by decide +kernel)).trans u7
      have g_99_11 := (F_99.2 11 (by decide +kernel)).trans u11
      have g_99_12 := (F_99.2 12 (by decide +kernel)).trans u12
      have g_99_13 := (F_99.2 13 (by decide +kernel)).trans u13
      have g_99_15 := (F_99.2 15 (by decide +kernel)).trans u15
      have g_99_14 : cE h_99 14 (.inr (1, [.ref 7, .ref 15, .ref 16, fI 0, fJ d])) := e_99_14
      have g_99_16 : cE h_99 16 (.inl (.int, fA [mx_sp pa fa, mx_sp pb fb])) := e_99_16
      refine ik_Wk 0 (pc' := 36) (loc' := [some (.ref 14), some (fI n), some (fI xa), some (fI xb), some (fI mi), some (fI wn), some (fI i)]) (st' := []) (h' := h_99) (cl' := 0) (sl' := 0) rfl ?_
      refine ik_Wk 1 (pc' := 37) (loc' := [some (.ref 14), some (fI n), some (fI xa), some (fI xb), some (fI mi), some (fI wn), some (fI i)]) (st' := [.ref 14]) (h' := h_99) (cl' := 0) (sl' := 0) rfl ?_
      refine fw_si rfl (by decide) ?_
      refine fw_call 25 2 0 [.ref 14, fI 200] [] rfl rfl rfl (by decide) rfl rfl (fw_rec k_99 rfl g_99_14 rfl (by decide)) (cs_drift (pl := pl) (mi := 0) (sd := d) (ka := ka) (pa := pa) (fa := fa) (kb := kb) (pb := pb) (fb := fb) (xa := mx_sp pa fa) (xb := mx_sp pb fb) (s := s) (n := 200) (lo := lo) (wg := wg) (wc := wc) (we := we) (by omega) (by omega) (by omega) (by omega) q4 q5 (by omega) (by omega) (by omega) (by omega) (by omega) (by omega) (by omega) (by omega) (by omega) (by omega) (by omega) (by omega) g_99_7 g_99_11 n11 g_99_12 n12 g_99_13 n13 g_99_14 g_99_15 g_99_16 k_99) ?_
      rintro _ h_100 ⟨rfl, e_100_14, e_100_16, F_100⟩
      have k_100 := F_100.1.trans k_99
      have fr_100 := hfr_c fr_99 F_100 (by decide)
      have g_100_7 := (F_100.2 7 (by decide +kernel)).trans g_99_7
      have g_100_11 := (F_100.2 11 (by decide +kernel)).trans g_99_11
      have g_100_12 := (F_100.2 12 (by decide +kernel)).trans g_99_12
      have g_100_13 := (F_100.2 13 (by decide +kernel)).trans g_99_13
      have g_100_15 := (F_100.2 15 (by decide +kernel)).trans g_99_15
      have g_100_14 : cE h_100 14 (.inr (1, [.ref 7, .ref 15, .ref 16, fI ((mx_dr (fun x => mx_w cn go ch s x) (pl - 1) ka pa fa kb pb fb 200 (mx_sp pa fa) (mx_sp pb fb) 0 d).2.2.1), fJ ((mx_dr (fun x => mx_w cn go ch s x) (pl - 1) ka pa fa kb pb fb 200 (mx_sp pa fa) (mx_sp pb fb) 0 d).2.2.2)])) := e_100_14
      have g_100_16 : cE h_100 16 (.inl (.int, fA [(mx_dr (fun x => mx_w cn go ch s x) (pl - 1) ka pa fa kb pb fb 200 (mx_sp pa fa) (mx_sp pb fb) 0 d).1, (mx_dr (fun x => mx_w cn go ch s x) (pl - 1) ka pa fa kb pb fb 200 (mx_sp pa fa) (mx_sp pb fb) 0 d).2.1])) := e_100_16
      refine ik_Wk 0 (pc' := 43) (loc' := [some (.ref 14), some (fI n), some (fI xa), some (fI xb), some (fI mi), some (fI wn), some (fI i)]) (st' := []) (h' := h_100) (cl' := 0) (sl' := 0) rfl ?_
      have zi := mx_dr_in (W := (fun x => mx_w cn go ch s x)) (pl := pl) (ka := ka) (kb := kb) (pa := pa) (pb := pb) (fa := fa) (fb := fb) q5 (by omega) (by omega) 200 (mx_sp pa fa) (mx_sp pb fb) 0 d (by omega) (by omega) (by omega) (by omega) (by omega)
      have hze : mx_en (pl - 1) (mx_dr (fun x => mx_w cn go ch s x) (pl - 1) ka pa fa kb pb fb 200 (mx_sp pa fa) (mx_sp pb fb) 0 d).1 (mx_dr (fun x => mx_w cn go ch s x) (pl - 1) ka pa fa kb pb fb 200 (mx_sp pa fa) (mx_sp pb fb) 0 d).2.1 = (if (mx_dr (fun x => mx_w cn go ch s x) (pl - 1) ka pa fa kb pb fb 200 (mx_sp pa fa) (mx_sp pb fb) 0 d).1 = (pl - 1) then 1 else 0) + (if (mx_dr (fun x => mx_w cn go ch s x) (pl - 1) ka pa fa kb pb fb 200 (mx_sp pa fa) (mx_sp pb fb) 0 d).2.1 = (pl - 1) then 2 else 0) := rfl
      refine ik_Wk 1 (pc' := 44) (loc' := [some (.ref 14), some (fI n), some (fI xa), some (fI xb), some (fI mi), some (fI wn), some (fI i)]) (st' := [.ref 14]) (h' := h_100) (cl' := 0) (sl' := 0) rfl ?_
      refine ik_Wc 24 1 0 [.ref 14] [] rfl rfl rfl (by decide) rfl rfl (fw_rec k_100 rfl g_100_14 rfl (by decide)) ?_
      refine ik_Wk 0 (pc' := 0) (loc' := [some (.ref 14)]) (st' := []) (h' := h_100) (cl' := 0) (sl' := 0) rfl ?_
      refine ik_Wk 1 (pc' := 1) (loc' := [some (.ref 14)]) (st' := [.ref 14]) (h' := h_100) (cl' := 0) (sl' := 0) rfl ?_
      refine fw_gf rfl rfl g_100_14 rfl ?_
      refine ik_Wk 1 (pc' := 5) (loc' := [some (.ref 14)]) (st' := [fI 0, .ref 16]) (h' := h_100) (cl' := 0) (sl' := 0) rfl ?_
      refine fw_ial (z := 0) rfl g_100_16 (by decide) (Nat.le_of_ble_eq_true rfl) (by decide) ?_
      refine ik_Wk 0 (pc' := 6) (loc' := [some (.ref 14)]) (st' := [fI ((mx_dr (fun x => mx_w cn go ch s x) (pl - 1) ka pa fa kb pb fb 200 (mx_sp pa fa) (mx_sp pb fb) 0 d).1)]) (h' := h_100) (cl' := 0) (sl' := 0) rfl ?_
      refine ik_Wk 1 (pc' := 7) (loc' := [some (.ref 14)]) (st' := [.ref 14, fI ((mx_dr (fun x => mx_w cn go ch s x) (pl - 1) ka pa fa kb pb fb 200 (mx_sp pa fa) (mx_sp pb fb) 0 d).1)]) (h' := h_100) (cl' := 0) (sl' := 0) rfl ?_
      refine fw_gf rfl rfl g_100_14 rfl ?_
      refine ik_Wc 2 1 0 [.ref 7] [fI ((mx_dr (fun x => mx_w cn go ch s x) (pl - 1) ka pa fa kb pb fb 200 (mx_sp pa fa) (mx_sp pb fb) 0 d).1)] rfl rfl rfl (by decide) rfl rfl (fw_rec k_100 rfl g_100_7 rfl (by decide)) ?_
      refine ik_Wk 0 (pc' := 0) (loc' := [some (.ref 7)]) (st' := []) (h' := h_100) (cl' := 0) (sl' := 0) rfl ?_
      refine ik_Wk 1 (pc' := 1) (loc' := [some (.ref 7)]) (st' := [.ref 7]) (h' := h_100) (cl' := 0) (sl' := 0) rfl ?_
      refine fw_gf rfl rfl g_100_7 rfl ?_
      refine ik_Wk 1 (pc' := 5) (loc' := [some (.ref 7)]) (st' := [fI 1, fI pl]) (h' := h_100) (cl' := 0) (sl' := 0) rfl ?_
      refine fw_sub rfl ?_
      refine ik_Wret rfl rfl ⟨_, _, rfl, rfl, ?_⟩
      refine ik_Wk 0 (pc' := 13) (loc' := [some (.ref 14)]) (st' := [fI (pl - 1), fI ((mx_dr (fun x => mx_w cn go ch s x) (pl - 1) ka pa fa kb pb fb 200 (mx_sp pa fa) (mx_sp pb fb) 0 d).1)]) (h' := h_100) (cl' := 0) (sl' := 0) rfl ?_
      refine fw_ic_ne rfl rfl (by omega) (by omega) (by omega) (by omega) (fun hc2 => ?_) (fun hc2 => ?_)
      · refine ik_Wk 3 (pc' := 22) (loc' := [some (.ref 14)]) (st' := [.ref 14, fI 1]) (h' := h_100) (cl' := 0) (sl' := 0) rfl ?_
        refine fw_gf rfl rfl g_100_14 rfl ?_
        refine ik_Wk 1 (pc' := 26) (loc' := [some (.ref 14)]) (st' := [fI 1, .ref 16, fI 1]) (h' := h_100) (cl' := 0) (sl' := 0) rfl ?_
        refine fw_ial (z := 1) rfl g_100_16 (by decide) (Nat.le_of_ble_eq_true rfl) (by decide) ?_
        refine ik_Wk 0 (pc' := 27) (loc' := [some (.ref 14)]) (st' := [fI ((mx_dr (fun x => mx_w cn go ch s x) (pl - 1) ka pa fa kb pb fb 200 (mx_sp pa fa) (mx_sp pb fb) 0 d).2.1), fI 1]) (h' := h_100) (cl' := 0) (sl' := 0) rfl ?_
        refine ik_Wk 1 (pc' := 28) (loc' := [some (.ref 14)]) (st' := [.ref 14, fI ((mx_dr (fun x => mx_w cn go ch s x) (pl - 1) ka pa fa kb pb fb 200 (mx_sp pa fa) (mx_sp pb fb) 0 d).2.1), fI 1]) (h' := h_100) (cl' := 0) (sl' := 0) rfl ?_
        refine fw_gf rfl rfl g_100_14 rfl ?_
        refine ik_Wc 2 1 0 [.ref 7] [fI ((mx_dr (fun x => mx_w cn go ch s x) (pl - 1) ka pa fa kb pb fb 200 (mx_sp pa fa) (mx_sp pb fb) 0 d).2.1), fI 1] rfl rfl rfl (by decide) rfl rfl (fw_rec k_100 rfl g_100_7 rfl (by decide)) ?_
        refine ik_Wk 0 (pc' := 0) (loc' := [some (.ref 7)]) (st' := []) (h' := h_100) (cl' := 0) (sl' := 0) rfl ?_
        refine ik_Wk 1 (pc' := 1) (loc' := [some (.ref 7)]) (st' := [.ref 7]) (h' := h_100) (cl' := 0) (sl' := 0) rfl ?_
        refine fw_gf rfl rfl g_100_7 rfl ?_
        refine ik_Wk 1 (pc' := 5) (loc' := [some (.ref 7)]) (st' := [fI 1, fI pl]) (h' := h_100) (cl' := 0) (sl' := 0) rfl ?_
        refine fw_sub rfl ?_
        refine ik_Wret rfl rfl ⟨_, _, rfl, rfl, ?_⟩
        refine ik_Wk 0 (pc' := 34) (loc' := [some (.ref 14)]) (st' := [fI (pl - 1), fI ((mx_dr (fun x => mx_w cn go ch s x) (pl - 1) ka pa fa kb pb fb 200 (mx_sp pa fa) (mx_sp pb fb) 0 d).2.1), fI 1]) (h' := h_100) (cl' := 0) (sl' := 0) rfl ?_
        refine fw_ic_ne rfl rfl (by omega) (by omega) (by omega) (by omega) (fun hc3 => ?_) (fun hc3 => ?_)
        · refine ik_Wk 2 (pc' := 42) (loc' := [some (.ref 14)]) (st' := [fI 2, fI 1]) (h' := h_100) (cl' := 0) (sl' := 0) rfl ?_
          refine fw_add rfl ?_
          refine ik_Wret rfl rfl ⟨_, _, rfl, rfl, ?_⟩
          refine ik_Wk 0 (pc' := 47) (loc' := [some (.ref 14), some (fI n), some (fI xa), some (fI xb), some (fI mi), some (fI wn), some (fI i)]) (st' := [fI 3]) (h' := h_100) (cl' := 0) (sl' := 0) rfl ?_
          refine ik_Wk 1 (pc' := 48) (loc' := [some (.ref 14), some (fI n), some (fI xa), some (fI xb), some (fI mi), some (fI wn), some (fI i)]) (st' := [fI 1, fI 3]) (h' := h_100) (cl' := 0) (sl' := 0) rfl ?_
          refine fw_ic_ne rfl rfl (by omega) (by omega) (by omega) (by omega) (fun hc4 => absurd hc4 (by omega)) (fun hc4 => ?_)
          refine fw_inc (a := i) (loc' := [some (.ref 14), some (fI n), some (fI xa), some (fI xb), some (fI mi), some (fI wn), some (fI (i + 1))]) rfl rfl (Nat.le_of_ble_eq_true rfl) rfl ?_
          refine ik_Wk 1 (pc' := 26) (loc' := [some (.ref 14), some (fI n), some (fI xa), some (fI xb), some (fI mi), some (fI wn), some (fI (i + 1))]) (st' := []) (h' := h_100) (cl' := 0) (sl' := 0) rfl ?_
          have eq : (if mx_en (pl - 1) (mx_dr (fun x => mx_w cn go ch s x) (pl - 1) ka pa fa kb pb fb 200 (mx_sp pa fa) (mx_sp pb fb) 0 d).1 (mx_dr (fun x => mx_w cn go ch s x) (pl - 1) ka pa fa kb pb fb 200 (mx_sp pa fa) (mx_sp pb fb) 0 d).2.1 = 1 then (1 : Int) else 0) = 0 := by
            rw [hze]; (repeat' split) <;> first | rfl | omega
          exact ih  (i + 1) wn ((mx_dr (fun x => mx_w cn go ch s x) (pl - 1) ka pa fa kb pb fb 200 (mx_sp pa fa) (mx_sp pb fb) 0 d).1) ((mx_dr (fun x => mx_w cn go ch s x) (pl - 1) ka pa fa kb pb fb 200 (mx_sp pa fa) (mx_sp pb fb) 0 d).2.1) ((mx_dr (fun x => mx_w cn go ch s x) (pl - 1) ka pa fa kb pb fb 200 (mx_sp pa fa) (mx_sp pb fb) 0 d).2.2.1) ((mx_dr (fun x => mx_w cn go ch s x) (pl - 1) ka pa fa kb pb fb 200 (mx_sp pa fa) (mx_sp pb fb) 0 d).2.2.2) h_100 g_100_7 g_100_11 n11 g_100_12 n12 g_100_13 n13 g_100_14 g_100_15 g_100_16 k_100 fr_100 (by omega) (by omega) (by omega) (by rw [he, show (n - i).toNat = (n - (i + 1)).toNat + 1 by omega, mx_mo, eq]; simp only [Int.add_zero]) (by omega)
        · refine ik_Wk 1 (pc' := 42) (loc' := [some (.ref 14)]) (st' := [fI 0, fI 1]) (h' := h_100) (cl' := 0) (sl' := 0) rfl ?_
          refine fw_add rfl ?_
          refine ik_Wret rfl rfl ⟨_, _, rfl, rfl, ?_⟩
          refine ik_Wk 0 (pc' := 47) (loc' := [some (.ref 14), some (fI n), some (fI xa), some (fI xb), some (fI mi), some (fI wn), some (fI i)]) (st' := [fI 1]) (h' := h_100) (cl' := 0) (sl' := 0) rfl ?_
          refine ik_Wk 1 (pc' := 48) (loc' := [some (.ref 14), some (fI n), some (fI xa), some (fI xb), some (fI mi), some (fI wn), some (fI i)]) (st' := [fI 1, fI 1]) (h' := h_100) (cl' := 0) (sl' := 0) rfl ?_
          refine fw_ic_ne rfl rfl (by omega) (by omega) (by omega) (by omega) (fun hc5 => ?_) (fun hc5 => absurd hc5 (by omega))
          refine fw_inc (a := wn) (loc' := [some (.ref 14), some (fI n), some (fI xa), some (fI xb), some (fI mi), some (fI (wn + 1)), some (fI i)]) rfl rfl (Nat.le_of_ble_eq_true rfl) rfl ?_
          refine fw_inc (a := i) (loc' := [some (.ref 14), some (fI n), some (fI xa), some (fI xb), some (fI mi), some (fI (wn + 1)), some (fI (i + 1))]) rfl rfl (Nat.le_of_ble_eq_true rfl) rfl ?_
          refine ik_Wk 1 (pc' := 26) (loc' := [some (.ref 14), some (fI n), some (fI xa), some (fI xb), some (fI mi), some (fI (wn + 1)), some (fI (i + 1))]) (st' := []) (h' := h_100) (cl' := 0) (sl' := 0) rfl ?_
          have eq : (if mx_en (pl - 1) (mx_dr (fun x => mx_w cn go ch s x) (pl - 1) ka pa fa kb pb fb 200 (mx_sp pa fa) (mx_sp pb fb) 0 d).1 (mx_dr (fun x => mx_w cn go ch s x) (pl - 1) ka pa fa kb pb fb 200 (mx_sp pa fa) (mx_sp pb fb) 0 d).2.1 = 1 then (1 : Int) else 0) = 1 := by
            rw [hze]; (repeat' split) <;> first | rfl | omega
          exact ih  (i + 1) (wn + 1) ((mx_dr (fun x => mx_w cn go ch s x) (pl - 1) ka pa fa kb pb fb 200 (mx_sp pa fa) (mx_sp pb fb) 0 d).1) ((mx_dr (fun x => mx_w cn go ch s x) (pl - 1) ka pa fa kb pb fb 200 (mx_sp pa fa) (mx_sp pb fb) 0 d).2.1) ((mx_dr (fun x => mx_w cn go ch s x) (pl - 1) ka pa fa kb pb fb 200 (mx_sp pa fa) (mx_sp pb fb) 0 d).2.2.1) ((mx_dr (fun x => mx_w cn go ch s x) (pl - 1) ka pa fa kb pb fb 200 (mx_sp pa fa) (mx_sp pb fb) 0 d).2.2.2) h_100 g_100_7 g_100_11 n11 g_100_12 n12 g_100_13 n13 g_100_14 g_100_15 g_100_16 k_100 fr_100 (by omega) (by omega) (by omega) (by rw [he, show (n - i).toNat = (n - (i + 1)).toNat + 1 by omega, mx_mo, eq]) (by omega)
      · refine ik_Wk 2 (pc' := 22) (loc' := [some (.ref 14)]) (st' := [.ref 14, fI 0]) (h' := h_100) (cl' := 0) (sl' := 0) rfl ?_
        refine fw_gf rfl rfl g_100_14 rfl ?_
        refine ik_Wk 1 (pc' := 26) (loc' := [some (.ref 14)]) (st' := [fI 1, .ref 16, fI 0]) (h' := h_100) (cl' := 0) (sl' := 0) rfl ?_
        refine fw_ial (z := 1) rfl g_100_16 (by decide) (Nat.le_of_ble_eq_true rfl) (by decide) ?_
        refine ik_Wk 0 (pc' := 27) (loc' := [some (.ref 14)]) (st' := [fI ((mx_dr (fun x => mx_w cn go ch s x) (pl - 1) ka pa fa kb pb fb 200 (mx_sp pa fa) (mx_sp pb fb) 0 d).2.1), fI 0]) (h' := h_100) (cl' := 0) (sl' := 0) rfl ?_
        refine ik_Wk 1 (pc' := 28) (loc' := [some (.ref 14)]) (st' := [.ref 14, fI ((mx_dr (fun x => mx_w cn go ch s x) (pl - 1) ka pa fa kb pb fb 200 (mx_sp pa fa) (mx_sp pb fb) 0 d).2.1), fI 0]) (h' := h_100) (cl' := 0) (sl' := 0) rfl ?_
        refine fw_gf rfl rfl g_100_14 rfl ?_
        refine ik_Wc 2 1 0 [.ref 7] [fI ((mx_dr (fun x => mx_w cn go ch s x) (pl - 1) ka pa fa kb pb fb 200 (mx_sp pa fa) (mx_sp pb fb) 0 d).2.1), fI 0] rfl rfl rfl (by decide) rfl rfl (fw_rec k_100 rfl g_100_7 rfl (by decide)) ?_
        refine ik_Wk 0 (pc' := 0) (loc' := [some (.ref 7)]) (st' := []) (h' := h_100) (cl' := 0) (sl' := 0) rfl ?_
        refine ik_Wk 1 (pc' := 1) (loc' := [some (.ref 7)]) (st' := [.ref 7]) (h' := h_100) (cl' := 0) (sl' := 0) rfl ?_
        refine fw_gf rfl rfl g_100_7 rfl ?_
        refine ik_Wk 1 (pc' := 5) (loc' := [some (.ref 7)]) (st' := [fI 1, fI pl]) (h' := h_100) (cl' := 0) (sl' := 0) rfl ?_
        refine fw_sub rfl ?_
        refine ik_Wret rfl rfl ⟨_, _, rfl, rfl, ?_⟩
        refine ik_Wk 0 (pc' := 34) (loc' := [some (.ref 14)]) (st' := [fI (pl - 1), fI ((mx_dr (fun x => mx_w cn go ch s x) (pl - 1) ka pa fa kb pb fb 200 (mx_sp pa fa) (mx_sp pb fb) 0 d).2.1), fI 0]) (h' := h_100) (cl' := 0) (sl' := 0) rfl ?_
        refine fw_ic_ne rfl rfl (by omega) (by omega) (by omega) (by omega) (fun hc6 => ?_) (fun hc6 => ?_)
        · refine ik_Wk 2 (pc' := 42) (loc' := [some (.ref 14)]) (st' := [fI 2, fI 0]) (h' := h_100) (cl' := 0) (sl' := 0) rfl ?_
          refine fw_add rfl ?_
          refine ik_Wret rfl rfl ⟨_, _, rfl, rfl, ?_⟩
          refine ik_Wk 0 (pc' := 47) (loc' := [some (.ref 14), some (fI n), some (fI xa), some (fI xb), some (fI mi), some (fI wn), some (fI i)]) (st' := [fI 2]) (h' := h_100) (cl' := 0) (sl' := 0) rfl ?_
          refine ik_Wk 1 (pc' := 48) (loc' := [some (.ref 14), some (fI n), some (fI xa), some (fI xb), some (fI mi), some (fI wn), some (fI i)]) (st' := [fI 1, fI 2]) (h' := h_100) (cl' := 0) (sl' := 0) rfl ?_
          refine fw_ic_ne rfl rfl (by omega) (by omega) (by omega) (by omega) (fun hc7 => absurd hc7 (by omega)) (fun hc7 => ?_)
          refine fw_inc (a := i) (loc' := [some (.ref 14), some (fI n), some (fI xa), some (fI xb), some (fI mi), some (fI wn), some (fI (i + 1))]) rfl rfl (Nat.le_of_ble_eq_true rfl) rfl ?_
          refine ik_Wk 1 (pc' := 26) (loc' := [some (.ref 14), some (fI n), some (fI xa), some (fI xb), some (fI mi), some (fI wn), some (fI (i + 1))]) (st' := []) (h' := h_100) (cl' := 0) (sl' := 0) rfl ?_
          have eq : (if mx_en (pl - 1) (mx_dr (fun x => mx_w cn go ch s x) (pl - 1) ka pa fa kb pb fb 200 (mx_sp pa fa) (mx_sp pb fb) 0 d).1 (mx_dr (fun x => mx_w cn go ch s x) (pl - 1) ka pa fa kb pb fb 200 (mx_sp pa fa) (mx_sp pb fb) 0 d).2.1 = 1 then (1 : Int) else 0) = 0 := by
            rw [hze]; (repeat' split) <;> first | rfl | omega
          exact ih  (i + 1) wn ((mx_dr (fun x => mx_w cn go ch s x) (pl - 1) ka pa fa kb pb fb 200 (mx_sp pa fa) (mx_sp pb fb) 0 d).1) ((mx_dr (fun x => mx_w cn go ch s x) (pl - 1) ka pa fa kb pb fb 200 (mx_sp pa fa) (mx_sp pb fb) 0 d).2.1) ((mx_dr (fun x => mx_w cn go ch s x) (pl - 1) ka pa fa kb pb fb 200 (mx_sp pa fa) (mx_sp pb fb) 0 d).2.2.1) ((mx_dr (fun x => mx_w cn go ch s x) (pl - 1) ka pa fa kb pb fb 200 (mx_sp pa fa) (mx_sp pb fb) 0 d).2.2.2) h_100 g_100_7 g_100_11 n11 g_100_12 n12 g_100_13 n13 g_100_14 g_100_15 g_100_16 k_100 fr_100 (by omega) (by omega) (by omega) (by rw [he, show (n - i).toNat = (n - (i + 1)).toNat + 1 by omega, mx_mo, eq]; simp only [Int.add_zero]) (by omega)
        · refine ik_Wk 1 (pc' := 42) (loc' := [some (.ref 14)]) (st' := [fI 0, fI 0]) (h' := h_100) (cl' := 0) (sl' := 0) rfl ?_
          refine fw_add rfl ?_
          refine ik_Wret rfl rfl ⟨_, _, rfl, rfl, ?_⟩
          refine ik_Wk 0 (pc' := 47) (loc' := [some (.ref 14), some (fI n), some (fI xa), some (fI xb), some (fI mi), some (fI wn), some (fI i)]) (st' := [fI 0]) (h' := h_100) (cl' := 0) (sl' := 0) rfl ?_
          refine ik_Wk 1 (pc' := 48) (loc' := [some (.ref 14), some (fI n), some (fI xa), some (fI xb), some (fI mi), some (fI wn), some (fI i)]) (st' := [fI 1, fI 0]) (h' := h_100) (cl' := 0) (sl' := 0) rfl ?_
          refine fw_ic_ne rfl rfl (by omega) (by omega) (by omega) (by omega) (fun hc8 => absurd hc8 (by omega)) (fun hc8 => ?_)
          refine fw_inc (a := i) (loc' := [some (.ref 14), some (fI n), some (fI xa), some (fI xb), some (fI mi), some (fI wn), some (fI (i + 1))]) rfl rfl (Nat.le_of_ble_eq_true rfl) rfl ?_
          refine ik_Wk 1 (pc' := 26) (loc' := [some (.ref 14), some (fI n), some (fI xa), some (fI xb), some (fI mi), some (fI wn), some (fI (i + 1))]) (st' := []) (h' := h_100) (cl' := 0) (sl' := 0) rfl ?_
          have eq : (if mx_en (pl - 1) (mx_dr (fun x => mx_w cn go ch s x) (pl - 1) ka pa fa kb pb fb 200 (mx_sp pa fa) (mx_sp pb fb) 0 d).1 (mx_dr (fun x => mx_w cn go ch s x) (pl - 1) ka pa fa kb pb fb 200 (mx_sp pa fa) (mx_sp pb fb) 0 d).2.1 = 1 then (1 : Int) else 0) = 0 := by
            rw [hze]; (repeat' split) <;> first | rfl | omega
          exact ih  (i + 1) wn ((mx_dr (fun x => mx_w cn go ch s x) (pl - 1) ka pa fa kb pb fb 200 (mx_sp pa fa) (mx_sp pb fb) 0 d).1) ((mx_dr (fun x => mx_w cn go ch s x) (pl - 1) ka pa fa kb pb fb 200 (mx_sp pa fa) (mx_sp pb fb) 0 d).2.1) ((mx_dr (fun x => mx_w cn go ch s x) (pl - 1) ka pa fa kb pb fb 200 (mx_sp pa fa) (mx_sp pb fb) 0 d).2.2.1) ((mx_dr (fun x => mx_w cn go ch s x) (pl - 1) ka pa fa kb pb fb 200 (mx_sp pa fa) (mx_sp pb fb) 0 d).2.2.2) h_100 g_100_7 g_100_11 n11 g_100_12 n12 g_100_13 n13 g_100_14 g_100_15 g_100_16 k_100 fr_100 (by omega) (by omega) (by omega) (by rw [he, show (n - i).toNat = (n - (i + 1)).toNat + 1 by omega, mx_mo, eq]; simp only [Int.add_zero]) (by omega)

theorem cs_morn {h : List ik_E} {pl : Int} {mi : Int} {sd : Int} {ka : Int} {pa : Int} {fa : Int} {kb : Int} {pb : Int} {fb : Int} {xa : Int} {xb : Int} {s : Nat} {cn : List Int} {go : List Int} {ch : List Int} {n : Int} {lo : Int} {wg : List Int} {wc : List Int} {we : List Int} (q0 : 2 ≤ pl ∧ pl ≤ 12) (q1 : s < 4096) (q2 : 0 ≤ sd ∧ sd < 2147483648) (q3 : 0 ≤ mi ∧ mi < 2000000000) (q4 : ∀ x : Int, 0 ≤ x → x < pl - 1 → mx_wy wg wc we x (mx_w cn go ch s x)) (q5 : ∀ x : Int, 0 ≤ x → x < pl - 1 → mx_ok pl (mx_w cn go ch s x)) (q6 : 0 ≤ ka ∧ ka ≤ 2) (q7 : 0 ≤ kb ∧ kb ≤ 2) (q8 : 0 ≤ fa ∧ fa ≤ 30) (q9 : 0 ≤ fb ∧ fb ≤ 30) (q10 : 0 ≤ pa ∧ pa < pl) (q11 : 0 ≤ pb ∧ pb < pl) (q12 : 1 ≤ n ∧ n ≤ 40) (h7 : cE h 7 (.inr (0, [fI pl, fI ((s : Nat) : Int), fI lo, .ref 8, .ref 9, .ref 10, .ref 11, .ref 12, .ref 13]))) (h11 : cE h 11 (.inl (.int, fA wg))) (n11 : wg.length = 60) (h12 : cE h 12 (.inl (.int, fA wc))) (n12 : wc.length = 60) (h13 : cE h 13 (.inl (.int, fA we))) (n13 : we.length = 12) (h14 : cE h 14 (.inr (1, [.ref 7, .ref 15, .ref 16, fI mi, fJ sd]))) (h15 : cE h 15 (.inl (.int, fA [ka, pa, fa, kb, pb, fb]))) (h16 : cE h 16 (.inl (.int, fA [xa, xb]))) (hl : h.length = 94) : ik_F 28 [.ref 14, fI n] h (fun rv h' => rv = [fI ((mx_mo (fun x => mx_w cn go ch s x) (pl - 1) ka pa fa kb pb fb n.toNat 0 sd).1)] ∧ cE h' 14 (.inr (1, [.ref 7, .ref 15, .ref 16, fI mi, fJ ((mx_mo (fun x => mx_w cn go ch s x) (pl - 1) ka pa fa kb pb fb n.toNat 0 sd).2)])) ∧ cE h' 16 (.inl (.int, fA [xa, xb])) ∧ hfr [14, 16] h h') := by
  refine ik_Wk 1 (pc' := 1) (loc' := [some (.ref 14), some (fI n), none, none, none, none, none]) (st' := [.ref 14]) (h' := h) (cl' := 0) (sl' := 0) rfl ?_
  refine fw_gf rfl rfl h14 rfl ?_
  refine ik_Wk 1 (pc' := 5) (loc' := [some (.ref 14), some (fI n), none, none, none, none, none]) (st' := [fI 0, .ref 16]) (h' := h) (cl' := 0) (sl' := 0) rfl ?_
  refine fw_ial (z := 0) rfl h16 (by decide) (Nat.le_of_ble_eq_true rfl) (by decide) ?_
  refine ik_Wk 0 (pc' := 6) (loc' := [some (.ref 14), some (fI n), none, none, none, none, none]) (st' := [fI xa]) (h' := h) (cl' := 0) (sl' := 0) rfl ?_
  refine ik_Wk 2 (pc' := 8) (loc' := [some (.ref 14), some (fI n), some (fI xa), none, none, none, none]) (st' := [.ref 14]) (h' := h) (cl' := 0) (sl' := 0) rfl ?_
  refine fw_gf rfl rfl h14 rfl ?_
  refine ik_Wk 1 (pc' := 12) (loc' := [some (.ref 14), some (fI n), some (fI xa), none, none, none, none]) (st' := [fI 1, .ref 16]) (h' := h) (cl' := 0) (sl' := 0) rfl ?_
  refine fw_ial (z := 1) rfl h16 (by decide) (Nat.le_of_ble_eq_true rfl) (by decide) ?_
  refine ik_Wk 0 (pc' := 13) (loc' := [some (.ref 14), some (fI n), some (fI xa), none, none, none, none]) (st' := [fI xb]) (h' := h) (cl' := 0) (sl' := 0) rfl ?_
  refine ik_Wk 2 (pc' := 15) (loc' := [some (.ref 14), some (fI n), some (fI xa), some (fI xb), none, none, none]) (st' := [.ref 14]) (h' := h) (cl' := 0) (sl' := 0) rfl ?_
  refine fw_gf rfl rfl h14 rfl ?_
  refine ik_Wk 5 (pc' := 26) (loc' := [some (.ref 14), some (fI n), some (fI xa), some (fI xb), some (fI mi), some (fI 0), some (fI 0)]) (st' := []) (h' := h) (cl' := 0) (sl' := 0) rfl ?_
  exact cs_mornL (pl := pl) (mi := mi) (sd := sd) (ka := ka) (pa := pa) (fa := fa) (kb := kb) (pb := pb) (fb := fb) (xa := xa) (xb := xb) (s := s) (cn := cn) (go := go) (ch := ch) (n := n) (lo := lo) (wg := wg) (wc := wc) (we := we) q0 q1 q2 q3 q4 q5 q6 q7 q8 q9 q10 q11 q12  (n.toNat + 1) 0 0 xa xb mi sd h h7 h11 n11 h12 n12 h13 n13 h14 h15 h16 hl (hfr_refl [14, 16] h) (by omega) (by omega) (by omega) (by rw [show n - 0 = n by omega]) (by omega)

end