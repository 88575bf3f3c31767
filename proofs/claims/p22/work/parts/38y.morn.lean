/-! 38y.morn -/
noncomputable section
/-! suits by draws (written by wip/fx/u5.py) -/
theorem cr_mornL {h : List ik_E} {pl : Int} {mi : Int} {sd : Int} {ka : Int} {pa : Int} {fa : Int} {kb : Int} {pb : Int} {fb : Int} {xa : Int} {xb : Int} {s : Nat} {cn : List Int} {go : List Int} {ch : List Int} {n : Int} {f : Nat → Int} {gt : List Int} {gd : List Int} (q0 : 2 ≤ pl ∧ pl ≤ 12) (q1 : s < 4096) (q2 : 0 ≤ sd ∧ sd < 2147483648) (q3 : 0 ≤ mi ∧ mi < 2000000000) (q4 : ∀ x : Int, (0 : Int) ≤ x → x < pl - 1 → 1 ≤ cn.getD x.toNat 0 ∧ ∀ j : Int, 4 * x ≤ j → j < 4 * x + cn.getD x.toNat 0 → 0 ≤ ch.getD j.toNat 0 ∧ ch.getD j.toNat 0 ≤ 100) (q5 : ∀ x : Int, (0 : Int) ≤ x → x < pl → 0 ≤ cn.getD x.toNat 0 ∧ cn.getD x.toNat 0 ≤ 4) (q6 : ∀ x : Int, (0 : Int) ≤ x → x < pl - 1 → mx_ok pl (mx_w cn go ch s x)) (q7 : (0 : Int) ≤ ka ∧ ka ≤ (2 : Int)) (q8 : (0 : Int) ≤ kb ∧ kb ≤ (2 : Int)) (q9 : (0 : Int) ≤ fa ∧ fa ≤ (30 : Int)) (q10 : (0 : Int) ≤ fb ∧ fb ≤ (30 : Int)) (q11 : (0 : Int) ≤ pa ∧ pa < pl) (q12 : (0 : Int) ≤ pb ∧ pb < pl) (q13 : (1 : Int) ≤ n ∧ n ≤ (40 : Int))  : ∀ (k : Nat) (i : Int) (wn : Int) (x : Int) (y : Int) (m : Int) (d : Int) (w : Int) (g1 : List Int) (d1 : List Int) (u : List ik_E) (u66 : cE u 66 (.inr (10, (fI pl :: .ref 67 :: .ref 68 :: .ref 69 :: fI ((s : Nat) : Int) :: .ref 70 :: .ref 71 :: fI m :: fI d :: .ref 72 :: fI (f 10) :: fI (f 11) :: fI (f 12) :: fJ (f 13) :: fI (f 14) :: fI (f 15) :: fI (f 16) :: fI (f 17) :: .ref 73 :: .ref 74 :: .ref 75 :: .ref 76 :: .ref 77 :: .ref 78 :: fI w :: .ref 79 :: .ref 80 :: .ref 81 :: .ref 82 :: .ref 83 :: .ref 84 :: .ref 85 :: fJ (f 32) :: fJ (f 33) :: .ref 86 :: .ref 87 :: fI (f 36) :: .ref 88 :: .ref 89 :: .ref 90 :: .ref 91 :: .ref 92 :: .ref 93 :: [])))) (u67 : cE u 67 (.inl (.int, fA cn))) (n67 : cn.length = (12 : Nat)) (u68 : cE u 68 (.inl (.int, fA go))) (n68 : go.length = (48 : Nat)) (u69 : cE u 69 (.inl (.int, fA ch))) (n69 : ch.length = (48 : Nat)) (u70 : cE u 70 (.inl (.int, fA [ka, pa, fa, kb, pb, fb]))) (u71 : cE u 71 (.inl (.int, fA [x, y]))) (u77 : cE u 77 (.inl (.int, fA g1))) (n77 : g1.length = (5 : Nat)) (u78 : cE u 78 (.inl (.int, fA d1))) (n78 : d1.length = (5 : Nat)) (ul : u.length = (94 : Nat)) (F : hfr [66, 71, 77, 78] h u) (hi : (0 : Int) ≤ i ∧ i ≤ n) (hw : (0 : Int) ≤ wn ∧ wn ≤ i) (hd : (0 : Int) ≤ d ∧ d < (2147483648 : Int)) (he : (mx_mo (fun x => mx_w cn go ch s x) (pl - 1) ka pa fa kb pb fb n.toNat 0 sd) = (mx_mo (fun x => mx_w cn go ch s x) (pl - 1) ka pa fa kb pb fb ((n - i).toNat) wn d)) (hk : n - i < (k : Int)), ik_G 202 51 [some (.ref 66), some (fI n), some (fI mi), some (fI xa), some (fI xb), some (fI wn), some (fI i)] [] u (fun rv h_q => ∃ (w' : Int) (gt' : List Int) (gd' : List Int), rv = [fI ((mx_mo (fun x => mx_w cn go ch s x) (pl - 1) ka pa fa kb pb fb n.toNat 0 sd).1)] ∧ cE h_q 66 (.inr (10, (fI pl :: .ref 67 :: .ref 68 :: .ref 69 :: fI ((s : Nat) : Int) :: .ref 70 :: .ref 71 :: fI mi :: fI ((mx_mo (fun x => mx_w cn go ch s x) (pl - 1) ka pa fa kb pb fb n.toNat 0 sd).2) :: .ref 72 :: fI (f 10) :: fI (f 11) :: fI (f 12) :: fJ (f 13) :: fI (f 14) :: fI (f 15) :: fI (f 16) :: fI (f 17) :: .ref 73 :: .ref 74 :: .ref 75 :: .ref 76 :: .ref 77 :: .ref 78 :: fI w' :: .ref 79 :: .ref 80 :: .ref 81 :: .ref 82 :: .ref 83 :: .ref 84 :: .ref 85 :: fJ (f 32) :: fJ (f 33) :: .ref 86 :: .ref 87 :: fI (f 36) :: .ref 88 :: .ref 89 :: .ref 90 :: .ref 91 :: .ref 92 :: .ref 93 :: []))) ∧ cE h_q 71 (.inl (.int, fA [xa, xb])) ∧ cE h_q 77 (.inl (.int, fA gt')) ∧ gt'.length = (5 : Nat) ∧ cE h_q 78 (.inl (.int, fA gd')) ∧ gd'.length = (5 : Nat) ∧ hfr [66, 71, 77, 78] h h_q) := by
  intro k
  induction k with
  | zero => intro i wn x y m d w g1 d1 u u66 u67 n67 u68 n68 u69 n69 u70 u71 u77 n77 u78 n78 ul F hi hw hd he hk; omega
  | succ k ih =>
    intro i wn x y m d w g1 d1 u u66 u67 n67 u68 n68 u69 n69 u70 u71 u77 n77 u78 n78 ul F hi hw hd he hk
    have za := mx_sp_b (c := pa) (fr := fa) (pl := pl) (by omega) (by omega)
    have zb := mx_sp_b (c := pb) (fr := fb) (pl := pl) (by omega) (by omega)
    refine ik_Wk 2 (pc_q := 54) (loc_q := [some (.ref 66), some (fI n), some (fI mi), some (fI xa), some (fI xb), some (fI wn), some (fI i)]) (st_q := [fI n, fI i]) (h_q := u) (cl_q := 0) (sl_q := 0) rfl ?_
    refine fw_ic_ge rfl rfl (by omega) (by omega) (by omega) (by omega) (fun hc1 => ?_) (fun hc1 => ?_)
    · refine ik_Wk 2 (pc_q := 90) (loc_q := [some (.ref 66), some (fI n), some (fI mi), some (fI xa), some (fI xb), some (fI wn), some (fI i)]) (st_q := [fI mi, .ref 66]) (h_q := u) (cl_q := 0) (sl_q := 0) rfl ?_
      refine fx_pf rfl rfl u66 (Nat.le_of_ble_eq_true rfl) rfl rfl ?_
      intro h_90 e_90 f_90 l_90
      have k_90 : cL h_90 := l_90.trans ul
      have fr_90 := hfr_wb F f_90 l_90 rfl
      clear l_90
      have g_90_67 := (f_90 67 (Nat.ne_of_beq_eq_false rfl)).trans u67
      have g_90_68 := (f_90 68 (Nat.ne_of_beq_eq_false rfl)).trans u68
      have g_90_69 := (f_90 69 (Nat.ne_of_beq_eq_false rfl)).trans u69
      have g_90_70 := (f_90 70 (Nat.ne_of_beq_eq_false rfl)).trans u70
      have g_90_71 := (f_90 71 (Nat.ne_of_beq_eq_false rfl)).trans u71
      have g_90_77 := (f_90 77 (Nat.ne_of_beq_eq_false rfl)).trans u77
      have g_90_78 := (f_90 78 (Nat.ne_of_beq_eq_false rfl)).trans u78
      have g_90_66 : cE h_90 66 (.inr (10, (fI pl :: .ref 67 :: .ref 68 :: .ref 69 :: fI ((s : Nat) : Int) :: .ref 70 :: .ref 71 :: fI mi :: fI d :: .ref 72 :: fI (f 10) :: fI (f 11) :: fI (f 12) :: fJ (f 13) :: fI (f 14) :: fI (f 15) :: fI (f 16) :: fI (f 17) :: .ref 73 :: .ref 74 :: .ref 75 :: .ref 76 :: .ref 77 :: .ref 78 :: fI w :: .ref 79 :: .ref 80 :: .ref 81 :: .ref 82 :: .ref 83 :: .ref 84 :: .ref 85 :: fJ (f 32) :: fJ (f 33) :: .ref 86 :: .ref 87 :: fI (f 36) :: .ref 88 :: .ref 89 :: .ref 90 :: .ref 91 :: .ref 92 :: .ref 93 :: []))) := e_90
      refine ik_Wk 1 (pc_q := 94) (loc_q := [some (.ref 66), some (fI n), some (fI mi), some (fI xa), some (fI xb), some (fI wn), some (fI i)]) (st_q := [.ref 66]) (h_q := h_90) (cl_q := 0) (sl_q := 0) rfl ?_
      refine fw_gf rfl rfl g_90_66 rfl ?_
      refine ik_Wk 2 (pc_q := 99) (loc_q := [some (.ref 66), some (fI n), some (fI mi), some (fI xa), some (fI xb), some (fI wn), some (fI i)]) (st_q := [fI xa, fI 0, .ref 71]) (h_q := h_90) (cl_q := 0) (sl_q := 0) rfl ?_
      refine fx_ias (z := 0) rfl g_90_71 (by decide +kernel) (Nat.le_of_ble_eq_true rfl) (by decide +kernel) ?_
      intro h_91 e_91 f_91 l_91
      have k_91 : cL h_91 := l_91.trans k_90
      have fr_91 := hfr_wb fr_90 f_91 l_91 rfl
      clear l_91
      have g_91_66 := (f_91 66 (Nat.ne_of_beq_eq_false rfl)).trans g_90_66
      have g_91_67 := (f_91 67 (Nat.ne_of_beq_eq_false rfl)).trans g_90_67
      have g_91_68 := (f_91 68 (Nat.ne_of_beq_eq_false rfl)).trans g_90_68
      have g_91_69 := (f_91 69 (Nat.ne_of_beq_eq_false rfl)).trans g_90_69
      have g_91_70 := (f_91 70 (Nat.ne_of_beq_eq_false rfl)).trans g_90_70
      have g_91_77 := (f_91 77 (Nat.ne_of_beq_eq_false rfl)).trans g_90_77
      have g_91_78 := (f_91 78 (Nat.ne_of_beq_eq_false rfl)).trans g_90_78
      have g_91_71 : cE h_91 71 (.inl (.int, fA [xa, y])) := e_91
      refine ik_Wk 1 (pc_q := 101) (loc_q := [some (.ref 66), some (fI n), some (fI mi), some (fI xa), some (fI xb), some (fI wn), some (fI i)]) (st_q := [.ref 66]) (h_q := h_91) (cl_q := 0) (sl_q := 0) rfl ?_
      refine fw_gf rfl rfl g_91_66 rfl ?_
      refine ik_Wk 2 (pc_q := 107) (loc_q := [some (.ref 66), some (fI n), some (fI mi), some (fI xa), some (fI xb), some (fI wn), some (fI i)]) (st_q := [fI xb, fI 1, .ref 71]) (h_q := h_91) (cl_q := 0) (sl_q := 0) rfl ?_
      refine fx_ias (z := 1) rfl g_91_71 (by decide +kernel) (Nat.le_of_ble_eq_true rfl) (by decide +kernel) ?_
      intro h_92 e_92 f_92 l_92
      have k_92 : cL h_92 := l_92.trans k_91
      have fr_92 := hfr_wb fr_91 f_92 l_92 rfl
      clear l_92
      have g_92_66 := (f_92 66 (Nat.ne_of_beq_eq_false rfl)).trans g_91_66
      have g_92_67 := (f_92 67 (Nat.ne_of_beq_eq_false rfl)).trans g_91_67
      have g_92_68 := (f_92 68 (Nat.ne_of_beq_eq_false rfl)).trans g_91_68
      have g_92_69 := (f_92 69 (Nat.ne_of_beq_eq_false rfl)).trans g_91_69
      have g_92_70 := (f_92 70 (Nat.ne_of_beq_eq_false rfl)).trans g_91_70
      have g_92_77 := (f_92 77 (Nat.ne_of_beq_eq_false rfl)).trans g_91_77
      have g_92_78 := (f_92 78 (Nat.ne_of_beq_eq_false rfl)).trans g_91_78
      have g_92_71 : cE h_92 71 (.inl (.int, fA [xa, xb])) := e_92
      refine ik_Wk 1 (pc_q := 110) (loc_q := [some (.ref 66), some (fI n), some (fI mi), some (fI xa), some (fI xb), some (fI wn), some (fI i)]) (st_q := [fI wn]) (h_q := h_92) (cl_q := 0) (sl_q := 0) rfl ?_
      have e0 : (n - i).toNat = 0 := by omega
      rw [e0] at he
      rw [he]
      exact ik_Wret rfl rfl ⟨_, _, rfl, rfl, rfl, rfl, ⟨w, g1, d1, rfl, g_92_66, g_92_71, g_92_77, n77, g_92_78, n78, fr_92⟩⟩
    · refine ik_Wk 1 (pc_q := 58) (loc_q := [some (.ref 66), some (fI n), some (fI mi), some (fI xa), some (fI xb), some (fI wn), some (fI i)]) (st_q := [.ref 66]) (h_q := u) (cl_q := 0) (sl_q := 0) rfl ?_
      refine fw_call 194 1 0 [.ref 66] [] rfl rfl rfl (Nat.le_of_ble_eq_true rfl) rfl rfl (fw_rec ul rfl u66 rfl (Nat.le_of_ble_eq_true rfl)) (cr_begin (mi := m) (ka := ka) (pa := pa) (fa := fa) (kb := kb) (pb := pb) (fb := fb) (xa := x) (xb := y) (f := fun j => ((pl :: 0 :: 0 :: 0 :: (((s : Nat) : Int)) :: 0 :: 0 :: 0 :: d :: 0 :: f 10 :: f 11 :: f 12 :: f 13 :: f 14 :: f 15 :: f 16 :: f 17 :: 0 :: 0 :: 0 :: 0 :: 0 :: 0 :: w :: 0 :: 0 :: 0 :: 0 :: 0 :: 0 :: 0 :: f 32 :: f 33 :: 0 :: 0 :: f 36 :: 0 :: 0 :: 0 :: 0 :: 0 :: 0 :: []) : List Int).getD j 0) (by omega) (by omega) u66 u70 u71 ul) ?_
      rintro _ h_93 ⟨rfl, e_93_66, e_93_71, F_93⟩
      have k_93 : cL h_93 := F_93.1.trans ul
      have fr_93 := hfr_cb F F_93 rfl
      have g_93_67 := (hfr_g F_93 67 rfl).trans u67
      have g_93_68 := (hfr_g F_93 68 rfl).trans u68
      have g_93_69 := (hfr_g F_93 69 rfl).trans u69
      have g_93_70 := (hfr_g F_93 70 rfl).trans u70
      have g_93_77 := (hfr_g F_93 77 rfl).trans u77
      have g_93_78 := (hfr_g F_93 78 rfl).trans u78
      have g_93_66 : cE h_93 66 (.inr (10, (fI pl :: .ref 67 :: .ref 68 :: .ref 69 :: fI ((s : Nat) : Int) :: .ref 70 :: .ref 71 :: fI 0 :: fI d :: .ref 72 :: fI (f 10) :: fI (f 11) :: fI (f 12) :: fJ (f 13) :: fI (f 14) :: fI (f 15) :: fI (f 16) :: fI (f 17) :: .ref 73 :: .ref 74 :: .ref 75 :: .ref 76 :: .ref 77 :: .ref 78 :: fI w :: .ref 79 :: .ref 80 :: .ref 81 :: .ref 82 :: .ref 83 :: .ref 84 :: .ref 85 :: fJ (f 32) :: fJ (f 33) :: .ref 86 :: .ref 87 :: fI (f 36) :: .ref 88 :: .ref 89 :: .ref 90 :: .ref 91 :: .ref 92 :: .ref 93 :: []))) := e_93_66
      have g_93_71 : cE h_93 71 (.inl (.int, fA [mx_sp pa fa, mx_sp pb fb])) := e_93_71
      refine ik_Wk 0 (pc_q := 61) (loc_q := [some (.ref 66), some (fI n), some (fI mi), some (fI xa), some (fI xb), some (fI wn), some (fI i)]) (st_q := []) (h_q := h_93) (cl_q := 0) (sl_q := 0) rfl ?_
      refine ik_Wk 2 (pc_q := 64) (loc_q := [some (.ref 66), some (fI n), some (fI mi), some (fI xa), some (fI xb), some (fI wn), some (fI i)]) (st_q := [.ref 66, fI wn]) (h_q := h_93) (cl_q := 0) (sl_q := 0) rfl ?_
      refine fw_si rfl (by decide +kernel) ?_
      refine fw_call 198 2 0 [.ref 66, fI 200] [fI wn] rfl rfl rfl (Nat.le_of_ble_eq_true rfl) rfl rfl (fw_rec k_93 rfl g_93_66 rfl (Nat.le_of_ble_eq_true rfl)) (cr_drift (pl := pl) (mi := 0) (sd := d) (ka := ka) (pa := pa) (fa := fa) (kb := kb) (pb := pb) (fb := fb) (xa := mx_sp pa fa) (xb := mx_sp pb fb) (s := s) (cn := cn) (go := go) (ch := ch) (n := 200) (f := fun j => ((0 :: 0 :: 0 :: 0 :: 0 :: 0 :: 0 :: 0 :: 0 :: 0 :: ((f 10)) :: ((f 11)) :: ((f 12)) :: ((f 13)) :: ((f 14)) :: ((f 15)) :: ((f 16)) :: ((f 17)) :: 0 :: 0 :: 0 :: 0 :: 0 :: 0 :: w :: 0 :: 0 :: 0 :: 0 :: 0 :: 0 :: 0 :: ((f 32)) :: ((f 33)) :: 0 :: 0 :: ((f 36)) :: 0 :: 0 :: 0 :: 0 :: 0 :: 0 :: []) : List Int).getD j 0) (gt := g1) (gd := d1) (by omega) (by omega) (by omega) (by omega) q4 q5 q6 (by omega) (by omega) (by omega) (by omega) (by omega) (by omega) (by omega) (by omega) (by omega) (by omega) (by omega) (by omega) g_93_66 g_93_67 n67 g_93_68 n68 g_93_69 n69 g_93_70 g_93_71 g_93_77 n77 g_93_78 n78 k_93) ?_
      rintro _ h_94 ⟨w'_94, gt'_94, gd'_94, rfl, e_94_66, e_94_71, e_94_77, m_94_77, e_94_78, m_94_78, F_94⟩
      have k_94 : cL h_94 := F_94.1.trans k_93
      have fr_94 := hfr_cb fr_93 F_94 rfl
      have g_94_67 := (hfr_g F_94 67 rfl).trans g_93_67
      have g_94_68 := (hfr_g F_94 68 rfl).trans g_93_68
      have g_94_69 := (hfr_g F_94 69 rfl).trans g_93_69
      have g_94_70 := (hfr_g F_94 70 rfl).trans g_93_70
      have g_94_66 : cE h_94 66 (.inr (10, (fI pl :: .ref 67 :: .ref 68 :: .ref 69 :: fI ((s : Nat) : Int) :: .ref 70 :: .ref 71 :: fI ((mx_dr (fun x => mx_w cn go ch s x) (pl - 1) ka pa fa kb pb fb 200 (mx_sp pa fa) (mx_sp pb fb) 0 d).2.2.1) :: fI ((mx_dr (fun x => mx_w cn go ch s x) (pl - 1) ka pa fa kb pb fb 200 (mx_sp pa fa) (mx_sp pb fb) 0 d).2.2.2) :: .ref 72 :: fI (f 10) :: fI (f 11) :: fI (f 12) :: fJ (f 13) :: fI (f 14) :: fI (f 15) :: fI (f 16) :: fI (f 17) :: .ref 73 :: .ref 74 :: .ref 75 :: .ref 76 :: .ref 77 :: .ref 78 :: fI w'_94 :: .ref 79 :: .ref 80 :: .ref 81 :: .ref 82 :: .ref 83 :: .ref 84 :: .ref 85 :: fJ (f 32) :: fJ (f 33) :: .ref 86 :: .ref 87 :: fI (f 36) :: .ref 88 :: .ref 89 :: .ref 90 :: .ref 91 :: .ref 92 :: .ref 93 :: []))) := e_94_66
      have g_94_71 : cE h_94 71 (.inl (.int, fA [(mx_dr (fun x => mx_w cn go ch s x) (pl - 1) ka pa fa kb pb fb 200 (mx_sp pa fa) (mx_sp pb fb) 0 d).1, (mx_dr (fun x => mx_w cn go ch s x) (pl - 1) ka pa fa kb pb fb 200 (mx_sp pa fa) (mx_sp pb fb) 0 d).2.1])) := e_94_71
      have g_94_77 : cE h_94 77 (.inl (.int, fA gt'_94)) := e_94_77
      have g_94_78 : cE h_94 78 (.inl (.int, fA gd'_94)) := e_94_78
      refine ik_Wk 0 (pc_q := 70) (loc_q := [some (.ref 66), some (fI n), some (fI mi), some (fI xa), some (fI xb), some (fI wn), some (fI i)]) (st_q := [fI (mx_en (pl - 1) (mx_dr (fun x => mx_w cn go ch s x) (pl - 1) ka pa fa kb pb fb 200 (mx_sp pa fa) (mx_sp pb fb) 0 d).1 (mx_dr (fun x => mx_w cn go ch s x) (pl - 1) ka pa fa kb pb fb 200 (mx_sp pa fa) (mx_sp pb fb) 0 d).2.1), fI wn]) (h_q := h_94) (cl_q := 0) (sl_q := 0) rfl ?_
      have zi := mx_dr_in (W := (fun x => mx_w cn go ch s x)) (pl := pl) (ka := ka) (kb := kb) (pa := pa) (pb := pb) (fa := fa) (fb := fb) q6 (by omega) (by omega) 200 (mx_sp pa fa) (mx_sp pb fb) 0 d (by omega) (by omega) (by omega) (by omega) (by omega)
      have hze : mx_en (pl - 1) (mx_dr (fun x => mx_w cn go ch s x) (pl - 1) ka pa fa kb pb fb 200 (mx_sp pa fa) (mx_sp pb fb) 0 d).1 (mx_dr (fun x => mx_w cn go ch s x) (pl - 1) ka pa fa kb pb fb 200 (mx_sp pa fa) (mx_sp pb fb) 0 d).2.1 = (if (mx_dr (fun x => mx_w cn go ch s x) (pl - 1) ka pa fa kb pb fb 200 (mx_sp pa fa) (mx_sp pb fb) 0 d).1 = (pl - 1) then 1 else 0) + (if (mx_dr (fun x => mx_w cn go ch s x) (pl - 1) ka pa fa kb pb fb 200 (mx_sp pa fa) (mx_sp pb fb) 0 d).2.1 = (pl - 1) then 2 else 0) := rfl
      refine ik_Wk 1 (pc_q := 71) (loc_q := [some (.ref 66), some (fI n), some (fI mi), some (fI xa), some (fI xb), some (fI wn), some (fI i)]) (st_q := [fI 1, fI (mx_en (pl - 1) (mx_dr (fun x => mx_w cn go ch s x) (pl - 1) ka pa fa kb pb fb 200 (mx_sp pa fa) (mx_sp pb fb) 0 d).1 (mx_dr (fun x => mx_w cn go ch s x) (pl - 1) ka pa fa kb pb fb 200 (mx_sp pa fa) (mx_sp pb fb) 0 d).2.1), fI wn]) (h_q := h_94) (cl_q := 0) (sl_q := 0) rfl ?_
      refine fw_ic_ne rfl rfl (by omega) (by omega) (by omega) (by omega) (fun hc2 => ?_) (fun hc2 => ?_)
      · refine ik_Wk 2 (pc_q := 79) (loc_q := [some (.ref 66), some (fI n), some (fI mi), some (fI xa), some (fI xb), some (fI wn), some (fI i)]) (st_q := [fI 1, fI wn]) (h_q := h_94) (cl_q := 0) (sl_q := 0) rfl ?_
        refine fw_add rfl ?_
        refine ik_Wk 1 (pc_q := 82) (loc_q := [some (.ref 66), some (fI n), some (fI mi), some (fI xa), some (fI xb), some (fI (wn + 1)), some (fI i)]) (st_q := []) (h_q := h_94) (cl_q := 0) (sl_q := 0) rfl ?_
        refine fw_inc (a := i) (loc_q := [some (.ref 66), some (fI n), some (fI mi), some (fI xa), some (fI xb), some (fI (wn + 1)), some (fI (i + 1))]) rfl rfl (Nat.le_of_ble_eq_true rfl) rfl ?_
        refine ik_Wk 1 (pc_q := 51) (loc_q := [some (.ref 66), some (fI n), some (fI mi), some (fI xa), some (fI xb), some (fI (wn + 1)), some (fI (i + 1))]) (st_q := []) (h_q := h_94) (cl_q := 0) (sl_q := 0) rfl ?_
        have eq : (if mx_en (pl - 1) (mx_dr (fun x => mx_w cn go ch s x) (pl - 1) ka pa fa kb pb fb 200 (mx_sp pa fa) (mx_sp pb fb) 0 d).1 (mx_dr (fun x => mx_w cn go ch s x) (pl - 1) ka pa fa kb pb fb 200 (mx_sp pa fa) (mx_sp pb fb) 0 d).2.1 = 1 then (1 : Int) else 0) = 1 := by
          first
          | exact if_pos (by omega)
          | exact if_neg (by omega)
        exact ih  (i + 1) (wn + 1) ((mx_dr (fun x => mx_w cn go ch s x) (pl - 1) ka pa fa kb pb fb 200 (mx_sp pa fa) (mx_sp pb fb) 0 d).1) ((mx_dr (fun x => mx_w cn go ch s x) (pl - 1) ka pa fa kb pb fb 200 (mx_sp pa fa) (mx_sp pb fb) 0 d).2.1) ((mx_dr (fun x => mx_w cn go ch s x) (pl - 1) ka pa fa kb pb fb 200 (mx_sp pa fa) (mx_sp pb fb) 0 d).2.2.1) ((mx_dr (fun x => mx_w cn go ch s x) (pl - 1) ka pa fa kb pb fb 200 (mx_sp pa fa) (mx_sp pb fb) 0 d).2.2.2) w'_94 gt'_94 gd'_94 h_94 g_94_66 g_94_67 n67 g_94_68 n68 g_94_69 n69 g_94_70 g_94_71 g_94_77 m_94_77 g_94_78 m_94_78 k_94 fr_94 (by omega) (by omega) (by omega) (by rw [he, show (n - i).toNat = (n - (i + 1)).toNat + 1 by omega, mx_mo, eq]) (by omega)
      · refine ik_Wk 1 (pc_q := 79) (loc_q := [some (.ref 66), some (fI n), some (fI mi), some (fI xa), some (fI xb), some (fI wn), some (fI i)]) (st_q := [fI 0, fI wn]) (h_q := h_94) (cl_q := 0) (sl_q := 0) rfl ?_
        refine fw_add rfl ?_
        refine ik_Wk 1 (pc_q := 82) (loc_q := [some (.ref 66), some (fI n), some (fI mi), some (fI xa), some (fI xb), some (fI (wn + 0)), some (fI i)]) (st_q := []) (h_q := h_94) (cl_q := 0) (sl_q := 0) rfl ?_
        refine fw_inc (a := i) (loc_q := [some (.ref 66), some (fI n), some (fI mi), some (fI xa), some (fI xb), some (fI (wn + 0)), some (fI (i + 1))]) rfl rfl (Nat.le_of_ble_eq_true rfl) rfl ?_
        refine ik_Wk 1 (pc_q := 51) (loc_q := [some (.ref 66), some (fI n), some (fI mi), some (fI xa), some (fI xb), some (fI (wn + 0)), some (fI (i + 1))]) (st_q := []) (h_q := h_94) (cl_q := 0) (sl_q := 0) rfl ?_
        have eq : (if mx_en (pl - 1) (mx_dr (fun x => mx_w cn go ch s x) (pl - 1) ka pa fa kb pb fb 200 (mx_sp pa fa) (mx_sp pb fb) 0 d).1 (mx_dr (fun x => mx_w cn go ch s x) (pl - 1) ka pa fa kb pb fb 200 (mx_sp pa fa) (mx_sp pb fb) 0 d).2.1 = 1 then (1 : Int) else 0) = 0 := by
          first
          | exact if_pos (by omega)
          | exact if_neg (by omega)
        exact ih  (i + 1) (wn + 0) ((mx_dr (fun x => mx_w cn go ch s x) (pl - 1) ka pa fa kb pb fb 200 (mx_sp pa fa) (mx_sp pb fb) 0 d).1) ((mx_dr (fun x => mx_w cn go ch s x) (pl - 1) ka pa fa kb pb fb 200 (mx_sp pa fa) (mx_sp pb fb) 0 d).2.1) ((mx_dr (fun x => mx_w cn go ch s x) (pl - 1) ka pa fa kb pb fb 200 (mx_sp pa fa) (mx_sp pb fb) 0 d).2.2.1) ((mx_dr (fun x => mx_w cn go ch s x) (pl - 1) ka pa fa kb pb fb 200 (mx_sp pa fa) (mx_sp pb fb) 0 d).2.2.2) w'_94 gt'_94 gd'_94 h_94 g_94_66 g_94_67 n67 g_94_68 n68 g_94_69 n69 g_94_70 g_94_71 g_94_77 m_94_77 g_94_78 m_94_78 k_94 fr_94 (by omega) (by omega) (by omega) (by rw [he, show (n - i).toNat = (n - (i + 1)).toNat + 1 by omega, mx_mo, eq]) (by omega)

theorem cr_morn {h : List ik_E} {pl : Int} {mi : Int} {sd : Int} {ka : Int} {pa : Int} {fa : Int} {kb : Int} {pb : Int} {fb : Int} {xa : Int} {xb : Int} {s : Nat} {cn : List Int} {go : List Int} {ch : List Int} {n : Int} {f : Nat → Int} {gt : List Int} {gd : List Int} (q0 : 2 ≤ pl ∧ pl ≤ 12) (q1 : s < 4096) (q2 : 0 ≤ sd ∧ sd < 2147483648) (q3 : 0 ≤ mi ∧ mi < 2000000000) (q4 : ∀ x : Int, (0 : Int) ≤ x → x < pl - 1 → 1 ≤ cn.getD x.toNat 0 ∧ ∀ j : Int, 4 * x ≤ j → j < 4 * x + cn.getD x.toNat 0 → 0 ≤ ch.getD j.toNat 0 ∧ ch.getD j.toNat 0 ≤ 100) (q5 : ∀ x : Int, (0 : Int) ≤ x → x < pl → 0 ≤ cn.getD x.toNat 0 ∧ cn.getD x.toNat 0 ≤ 4) (q6 : ∀ x : Int, (0 : Int) ≤ x → x < pl - 1 → mx_ok pl (mx_w cn go ch s x)) (q7 : (0 : Int) ≤ ka ∧ ka ≤ (2 : Int)) (q8 : (0 : Int) ≤ kb ∧ kb ≤ (2 : Int)) (q9 : (0 : Int) ≤ fa ∧ fa ≤ (30 : Int)) (q10 : (0 : Int) ≤ fb ∧ fb ≤ (30 : Int)) (q11 : (0 : Int) ≤ pa ∧ pa < pl) (q12 : (0 : Int) ≤ pb ∧ pb < pl) (q13 : (1 : Int) ≤ n ∧ n ≤ (40 : Int)) (h66 : cE h 66 (.inr (10, (fI pl :: .ref 67 :: .ref 68 :: .ref 69 :: fI ((s : Nat) : Int) :: .ref 70 :: .ref 71 :: fI mi :: fI sd :: .ref 72 :: fI (f 10) :: fI (f 11) :: fI (f 12) :: fJ (f 13) :: fI (f 14) :: fI (f 15) :: fI (f 16) :: fI (f 17) :: .ref 73 :: .ref 74 :: .ref 75 :: .ref 76 :: .ref 77 :: .ref 78 :: fI (f 24) :: .ref 79 :: .ref 80 :: .ref 81 :: .ref 82 :: .ref 83 :: .ref 84 :: .ref 85 :: fJ (f 32) :: fJ (f 33) :: .ref 86 :: .ref 87 :: fI (f 36) :: .ref 88 :: .ref 89 :: .ref 90 :: .ref 91 :: .ref 92 :: .ref 93 :: [])))) (h67 : cE h 67 (.inl (.int, fA cn))) (n67 : cn.length = (12 : Nat)) (h68 : cE h 68 (.inl (.int, fA go))) (n68 : go.length = (48 : Nat)) (h69 : cE h 69 (.inl (.int, fA ch))) (n69 : ch.length = (48 : Nat)) (h70 : cE h 70 (.inl (.int, fA [ka, pa, fa, kb, pb, fb]))) (h71 : cE h 71 (.inl (.int, fA [xa, xb]))) (h77 : cE h 77 (.inl (.int, fA gt))) (n77 : gt.length = (5 : Nat)) (h78 : cE h 78 (.inl (.int, fA gd))) (n78 : gd.length = (5 : Nat)) (hl : h.length = (94 : Nat)) : ik_F 202 [.ref 66, fI n] h (fun rv h_q => ∃ (w' : Int) (gt' : List Int) (gd' : List Int), rv = [fI ((mx_mo (fun x => mx_w cn go ch s x) (pl - 1) ka pa fa kb pb fb n.toNat 0 sd).1)] ∧ cE h_q 66 (.inr (10, (fI pl :: .ref 67 :: .ref 68 :: .ref 69 :: fI ((s : Nat) : Int) :: .ref 70 :: .ref 71 :: fI mi :: fI ((mx_mo (fun x => mx_w cn go ch s x) (pl - 1) ka pa fa kb pb fb n.toNat 0 sd).2) :: .ref 72 :: fI (f 10) :: fI (f 11) :: fI (f 12) :: fJ (f 13) :: fI (f 14) :: fI (f 15) :: fI (f 16) :: fI (f 17) :: .ref 73 :: .ref 74 :: .ref 75 :: .ref 76 :: .ref 77 :: .ref 78 :: fI w' :: .ref 79 :: .ref 80 :: .ref 81 :: .ref 82 :: .ref 83 :: .ref 84 :: .ref 85 :: fJ (f 32) :: fJ (f 33) :: .ref 86 :: .ref 87 :: fI (f 36) :: .ref 88 :: .ref 89 :: .ref 90 :: .ref 91 :: .ref 92 :: .ref 93 :: []))) ∧ cE h_q 71 (.inl (.int, fA [xa, xb])) ∧ cE h_q 77 (.inl (.int, fA gt')) ∧ gt'.length = (5 : Nat) ∧ cE h_q 78 (.inl (.int, fA gd')) ∧ gd'.length = (5 : Nat) ∧ hfr [66, 71, 77, 78] h h_q) := by
  refine ik_Wk 1 (pc_q := 1) (loc_q := [some (.ref 66), some (fI n), none, none, none, none, none]) (st_q := [fI n]) (h_q := h) (cl_q := 0) (sl_q := 0) rfl ?_
  refine fw_i2l rfl (by omega) (by omega) ?_
  refine fw_lc (z := 1) rfl (by decide +kernel) ?_
  refine fw_l2 40 rfl rfl (by decide +kernel) ?_
  refine fw_call 127 3 3 [fJ n, fJ 1, fJ 40] [] rfl rfl rfl (Nat.le_of_ble_eq_true rfl) rfl rfl (fw_sta hl rfl (by decide +kernel)) (cr_in (v := n) (a := 1) (b := 40) (by omega) (by omega) (by omega)  hl) ?_
  rintro _ h_95 (⟨rfl, p_95_0, F_95⟩ | ⟨rfl, p_95_0, F_95⟩)
  · have k_95 : cL h_95 := F_95.1.trans hl
    have fr_95 := hfr_cb (hfr_refl [66, 71, 77, 78] h) F_95 rfl
    have g_95_66 := (hfr_g F_95 66 rfl).trans h66
    have g_95_67 := (hfr_g F_95 67 rfl).trans h67
    have g_95_68 := (hfr_g F_95 68 rfl).trans h68
    have g_95_69 := (hfr_g F_95 69 rfl).trans h69
    have g_95_70 := (hfr_g F_95 70 rfl).trans h70
    have g_95_71 := (hfr_g F_95 71 rfl).trans h71
    have g_95_77 := (hfr_g F_95 77 rfl).trans h77
    have g_95_78 := (hfr_g F_95 78 rfl).trans h78
    refine ik_Wk 0 (pc_q := 9) (loc_q := [some (.ref 66), some (fI n), none, none, none, none, none]) (st_q := [fI 1]) (h_q := h_95) (cl_q := 0) (sl_q := 0) rfl ?_
    refine fw_if_ne rfl rfl (by decide +kernel) (by decide +kernel) (fun hc1 => absurd hc1 (by decide +kernel)) (fun hc1 => ?_)
    refine ik_Wk 1 (pc_q := 16) (loc_q := [some (.ref 66), some (fI n), none, none, none, none, none]) (st_q := [.ref 66]) (h_q := h_95) (cl_q := 0) (sl_q := 0) rfl ?_
    refine ik_Wc 134 1 0 [.ref 66] [] rfl rfl rfl (by decide +kernel) rfl rfl (fw_rec k_95 rfl g_95_66 rfl (Nat.le_of_ble_eq_true rfl)) ?_
    refine ik_Wk 0 (pc_q := 0) (loc_q := [some (.ref 66)]) (st_q := []) (h_q := h_95) (cl_q := 0) (sl_q := 0) rfl ?_
    refine ik_Wk 1 (pc_q := 1) (loc_q := [some (.ref 66)]) (st_q := [.ref 66]) (h_q := h_95) (cl_q := 0) (sl_q := 0) rfl ?_
    refine fw_gf rfl rfl g_95_66 rfl ?_
    refine ik_Wk 1 (pc_q := 5) (loc_q := [some (.ref 66)]) (st_q := [fI 1, fI pl]) (h_q := h_95) (cl_q := 0) (sl_q := 0) rfl ?_
    refine fw_ic_le rfl rfl (by omega) (by omega) (by omega) (by omega) (fun hc2 => absurd hc2 (by omega)) (fun hc2 => ?_)
    refine ik_Wk 2 (pc_q := 13) (loc_q := [some (.ref 66)]) (st_q := [fI 1]) (h_q := h_95) (cl_q := 0) (sl_q := 0) rfl ?_
    refine ik_Wret rfl rfl ⟨_, _, rfl, rfl, ?_⟩
    refine ik_Wk 0 (pc_q := 19) (loc_q := [some (.ref 66), some (fI n), none, none, none, none, none]) (st_q := [fI 1]) (h_q := h_95) (cl_q := 0) (sl_q := 0) rfl ?_
    refine fw_if_ne rfl rfl (by decide +kernel) (by decide +kernel) (fun hc3 => absurd hc3 (by decide +kernel)) (fun hc3 => ?_)
    refine ik_Wk 1 (pc_q := 26) (loc_q := [some (.ref 66), some (fI n), none, none, none, none, none]) (st_q := [.ref 66]) (h_q := h_95) (cl_q := 0) (sl_q := 0) rfl ?_
    refine fw_gf rfl rfl g_95_66 rfl ?_
    refine ik_Wk 2 (pc_q := 31) (loc_q := [some (.ref 66), some (fI n), some (fI mi), none, none, none, none]) (st_q := [.ref 66]) (h_q := h_95) (cl_q := 0) (sl_q := 0) rfl ?_
    refine fw_gf rfl rfl g_95_66 rfl ?_
    refine ik_Wk 1 (pc_q := 35) (loc_q := [some (.ref 66), some (fI n), some (fI mi), none, none, none, none]) (st_q := [fI 0, .ref 71]) (h_q := h_95) (cl_q := 0) (sl_q := 0) rfl ?_
    refine fw_ial (z := 0) rfl g_95_71 (by decide +kernel) (Nat.le_of_ble_eq_true rfl) (by decide +kernel) ?_
    refine ik_Wk 0 (pc_q := 36) (loc_q := [some (.ref 66), some (fI n), some (fI mi), none, none, none, none]) (st_q := [fI xa]) (h_q := h_95) (cl_q := 0) (sl_q := 0) rfl ?_
    refine ik_Wk 2 (pc_q := 38) (loc_q := [some (.ref 66), some (fI n), some (fI mi), some (fI xa), none, none, none]) (st_q := [.ref 66]) (h_q := h_95) (cl_q := 0) (sl_q := 0) rfl ?_
    refine fw_gf rfl rfl g_95_66 rfl ?_
    refine ik_Wk 1 (pc_q := 42) (loc_q := [some (.ref 66), some (fI n), some (fI mi), some (fI xa), none, none, none]) (st_q := [fI 1, .ref 71]) (h_q := h_95) (cl_q := 0) (sl_q := 0) rfl ?_
    refine fw_ial (z := 1) rfl g_95_71 (by decide +kernel) (Nat.le_of_ble_eq_true rfl) (by decide +kernel) ?_
    refine ik_Wk 0 (pc_q := 43) (loc_q := [some (.ref 66), some (fI n), some (fI mi), some (fI xa), none, none, none]) (st_q := [fI xb]) (h_q := h_95) (cl_q := 0) (sl_q := 0) rfl ?_
    refine ik_Wk 5 (pc_q := 51) (loc_q := [some (.ref 66), some (fI n), some (fI mi), some (fI xa), some (fI xb), some (fI 0), some (fI 0)]) (st_q := []) (h_q := h_95) (cl_q := 0) (sl_q := 0) rfl ?_
    exact cr_mornL (pl := pl) (mi := mi) (sd := sd) (ka := ka) (pa := pa) (fa := fa) (kb := kb) (pb := pb) (fb := fb) (xa := xa) (xb := xb) (s := s) (cn := cn) (go := go) (ch := ch) (n := n) (f := f) (gt := gt) (gd := gd) q0 q1 q2 q3 q4 q5 q6 q7 q8 q9 q10 q11 q12 q13  (n.toNat + 1) 0 0 xa xb mi sd (f 24) gt gd h_95 g_95_66 g_95_67 n67 g_95_68 n68 g_95_69 n69 g_95_70 g_95_71 g_95_77 n77 g_95_78 n78 k_95 fr_95 (by omega) (by omega) (by omega) (by rw [show n - 0 = n by omega]) (by omega)
  · have k_95 : cL h_95 := F_95.1.trans hl
    have fr_95 := hfr_cb (hfr_refl [66, 71, 77, 78] h) F_95 rfl
    have g_95_66 := (hfr_g F_95 66 rfl).trans h66
    have g_95_67 := (hfr_g F_95 67 rfl).trans h67
    have g_95_68 := (hfr_g F_95 68 rfl).trans h68
    have g_95_69 := (hfr_g F_95 69 rfl).trans h69
    have g_95_70 := (hfr_g F_95 70 rfl).trans h70
    have g_95_71 := (hfr_g F_95 71 rfl).trans h71
    have g_95_77 := (hfr_g F_95 77 rfl).trans h77
    have g_95_78 := (hfr_g F_95 78 rfl).trans h78
    omega

theorem cs_mornL {h : List ik_E} {pl : Int} {mi : Int} {sd : Int} {ka : Int} {pa : Int} {fa : Int} {kb : Int} {pb : Int} {fb : Int} {xa : Int} {xb : Int} {s : Nat} {cn : List Int} {go : List Int} {ch : List Int} {n : Int} {lo : Int} {wg : List Int} {wc : List Int} {we : List Int} (q0 : 2 ≤ pl ∧ pl ≤ 12) (q1 : s < 4096) (q2 : 0 ≤ sd ∧ sd < 2147483648) (q3 : 0 ≤ mi ∧ mi < 2000000000) (q4 : ∀ x : Int, (0 : Int) ≤ x → x < pl - 1 → mx_wy wg wc we x (mx_w cn go ch s x)) (q5 : ∀ x : Int, (0 : Int) ≤ x → x < pl - 1 → mx_ok pl (mx_w cn go ch s x)) (q6 : (0 : Int) ≤ ka ∧ ka ≤ (2 : Int)) (q7 : (0 : Int) ≤ kb ∧ kb ≤ (2 : Int)) (q8 : (0 : Int) ≤ fa ∧ fa ≤ (30 : Int)) (q9 : (0 : Int) ≤ fb ∧ fb ≤ (30 : Int)) (q10 : (0 : Int) ≤ pa ∧ pa < pl) (q11 : (0 : Int) ≤ pb ∧ pb < pl) (q12 : (1 : Int) ≤ n ∧ n ≤ (40 : Int))  : ∀ (k : Nat) (i : Int) (wn : Int) (x : Int) (y : Int) (m : Int) (d : Int) (u : List ik_E) (u7 : cE u 7 (.inr (0, [fI pl, fI ((s : Nat) : Int), fI lo, .ref 8, .ref 9, .ref 10, .ref 11, .ref 12, .ref 13]))) (u11 : cE u 11 (.inl (.int, fA wg))) (n11 : wg.length = (60 : Nat)) (u12 : cE u 12 (.inl (.int, fA wc))) (n12 : wc.length = (60 : Nat)) (u13 : cE u 13 (.inl (.int, fA we))) (n13 : we.length = (12 : Nat)) (u14 : cE u 14 (.inr (1, [.ref 7, .ref 15, .ref 16, fI m, fJ d]))) (u15 : cE u 15 (.inl (.int, fA [ka, pa, fa, kb, pb, fb]))) (u16 : cE u 16 (.inl (.int, fA [x, y]))) (ul : u.length = (94 : Nat)) (F : hfr [14, 16] h u) (hi : (0 : Int) ≤ i ∧ i ≤ n) (hw : (0 : Int) ≤ wn ∧ wn ≤ i) (hd : (0 : Int) ≤ d ∧ d < (2147483648 : Int)) (he : (mx_mo (fun x => mx_w cn go ch s x) (pl - 1) ka pa fa kb pb fb n.toNat 0 sd) = (mx_mo (fun x => mx_w cn go ch s x) (pl - 1) ka pa fa kb pb fb ((n - i).toNat) wn d)) (hk : n - i < (k : Int)), ik_G 28 26 [some (.ref 14), some (fI n), some (fI xa), some (fI xb), some (fI mi), some (fI wn), some (fI i)] [] u (fun rv h_q => rv = [fI ((mx_mo (fun x => mx_w cn go ch s x) (pl - 1) ka pa fa kb pb fb n.toNat 0 sd).1)] ∧ cE h_q 14 (.inr (1, [.ref 7, .ref 15, .ref 16, fI mi, fJ ((mx_mo (fun x => mx_w cn go ch s x) (pl - 1) ka pa fa kb pb fb n.toNat 0 sd).2)])) ∧ cE h_q 16 (.inl (.int, fA [xa, xb])) ∧ hfr [14, 16] h h_q) := by
  intro k
  induction k with
  | zero => intro i wn x y m d u u7 u11 n11 u12 n12 u13 n13 u14 u15 u16 ul F hi hw hd he hk; omega
  | succ k ih =>
    intro i wn x y m d u u7 u11 n11 u12 n12 u13 n13 u14 u15 u16 ul F hi hw hd he hk
    have za := mx_sp_b (c := pa) (fr := fa) (pl := pl) (by omega) (by omega)
    have zb := mx_sp_b (c := pb) (fr := fb) (pl := pl) (by omega) (by omega)
    refine ik_Wk 2 (pc_q := 29) (loc_q := [some (.ref 14), some (fI n), some (fI xa), some (fI xb), some (fI mi), some (fI wn), some (fI i)]) (st_q := [fI n, fI i]) (h_q := u) (cl_q := 0) (sl_q := 0) rfl ?_
    refine fw_ic_ge rfl rfl (by omega) (by omega) (by omega) (by omega) (fun hc1 => ?_) (fun hc1 => ?_)
    · refine ik_Wk 1 (pc_q := 61) (loc_q := [some (.ref 14), some (fI n), some (fI xa), some (fI xb), some (fI mi), some (fI wn), some (fI i)]) (st_q := [.ref 14]) (h_q := u) (cl_q := 0) (sl_q := 0) rfl ?_
      refine fw_gf rfl rfl u14 rfl ?_
      refine ik_Wk 2 (pc_q := 66) (loc_q := [some (.ref 14), some (fI n), some (fI xa), some (fI xb), some (fI mi), some (fI wn), some (fI i)]) (st_q := [fI xa, fI 0, .ref 16]) (h_q := u) (cl_q := 0) (sl_q := 0) rfl ?_
      refine fx_ias (z := 0) rfl u16 (by decide +kernel) (Nat.le_of_ble_eq_true rfl) (by decide +kernel) ?_
      intro h_96 e_96 f_96 l_96
      have k_96 : cL h_96 := l_96.trans ul
      have fr_96 := hfr_wb F f_96 l_96 rfl
      clear l_96
      have g_96_7 := (f_96 7 (Nat.ne_of_beq_eq_false rfl)).trans u7
      have g_96_11 := (f_96 11 (Nat.ne_of_beq_eq_false rfl)).trans u11
      have g_96_12 := (f_96 12 (Nat.ne_of_beq_eq_false rfl)).trans u12
      have g_96_13 := (f_96 13 (Nat.ne_of_beq_eq_false rfl)).trans u13
      have g_96_14 := (f_96 14 (Nat.ne_of_beq_eq_false rfl)).trans u14
      have g_96_15 := (f_96 15 (Nat.ne_of_beq_eq_false rfl)).trans u15
      have g_96_16 : cE h_96 16 (.inl (.int, fA [xa, y])) := e_96
      refine ik_Wk 1 (pc_q := 68) (loc_q := [some (.ref 14), some (fI n), some (fI xa), some (fI xb), some (fI mi), some (fI wn), some (fI i)]) (st_q := [.ref 14]) (h_q := h_96) (cl_q := 0) (sl_q := 0) rfl ?_
      refine fw_gf rfl rfl g_96_14 rfl ?_
      refine ik_Wk 2 (pc_q := 73) (loc_q := [some (.ref 14), some (fI n), some (fI xa), some (fI xb), some (fI mi), some (fI wn), some (fI i)]) (st_q := [fI xb, fI 1, .ref 16]) (h_q := h_96) (cl_q := 0) (sl_q := 0) rfl ?_
      refine fx_ias (z := 1) rfl g_96_16 (by decide +kernel) (Nat.le_of_ble_eq_true rfl) (by decide +kernel) ?_
      intro h_97 e_97 f_97 l_97
      have k_97 : cL h_97 := l_97.trans k_96
      have fr_97 := hfr_wb fr_96 f_97 l_97 rfl
      clear l_97
      have g_97_7 := (f_97 7 (Nat.ne_of_beq_eq_false rfl)).trans g_96_7
      have g_97_11 := (f_97 11 (Nat.ne_of_beq_eq_false rfl)).trans g_96_11
      have g_97_12 := (f_97 12 (Nat.ne_of_beq_eq_false rfl)).trans g_96_12
      have g_97_13 := (f_97 13 (Nat.ne_of_beq_eq_false rfl)).trans g_96_13
      have g_97_14 := (f_97 14 (Nat.ne_of_beq_eq_false rfl)).trans g_96_14
      have g_97_15 := (f_97 15 (Nat.ne_of_beq_eq_false rfl)).trans g_96_15
      have g_97_16 : cE h_97 16 (.inl (.int, fA [xa, xb])) := e_97
      refine ik_Wk 2 (pc_q := 77) (loc_q := [some (.ref 14), some (fI n), some (fI xa), some (fI xb), some (fI mi), some (fI wn), some (fI i)]) (st_q := [fI mi, .ref 14]) (h_q := h_97) (cl_q := 0) (sl_q := 0) rfl ?_
      refine fx_pf rfl rfl g_97_14 (Nat.le_of_ble_eq_true rfl) rfl rfl ?_
      intro h_98 e_98 f_98 l_98
      have k_98 : cL h_98 := l_98.trans k_97
      have fr_98 := hfr_wb fr_97 f_98 l_98 rfl
      clear l_98
      have g_98_7 := (f_98 7 (Nat.ne_of_beq_eq_false rfl)).trans g_97_7
      have g_98_11 := (f_98 11 (Nat.ne_of_beq_eq_false rfl)).trans g_97_11
      have g_98_12 := (f_98 12 (Nat.ne_of_beq_eq_false rfl)).trans g_97_12
      have g_98_13 := (f_98 13 (Nat.ne_of_beq_eq_false rfl)).trans g_97_13
      have g_98_15 := (f_98 15 (Nat.ne_of_beq_eq_false rfl)).trans g_97_15
      have g_98_16 := (f_98 16 (Nat.ne_of_beq_eq_false rfl)).trans g_97_16
      have g_98_14 : cE h_98 14 (.inr (1, [.ref 7, .ref 15, .ref 16, fI mi, fJ d])) := e_98
      refine ik_Wk 1 (pc_q := 82) (loc_q := [some (.ref 14), some (fI n), some (fI xa), some (fI xb), some (fI mi), some (fI wn), some (fI i)]) (st_q := [fI wn]) (h_q := h_98) (cl_q := 0) (sl_q := 0) rfl ?_
      have e0 : (n - i).toNat = 0 := by omega
      rw [e0] at he
      rw [he]
      exact ik_Wret rfl rfl ⟨_, _, rfl, rfl, rfl, rfl, ⟨rfl, g_98_14, g_98_16, fr_98⟩⟩
    · refine ik_Wk 1 (pc_q := 33) (loc_q := [some (.ref 14), some (fI n), some (fI xa), some (fI xb), some (fI mi), some (fI wn), some (fI i)]) (st_q := [.ref 14]) (h_q := u) (cl_q := 0) (sl_q := 0) rfl ?_
      refine fw_call 23 1 0 [.ref 14] [] rfl rfl rfl (Nat.le_of_ble_eq_true rfl) rfl rfl (fw_rec ul rfl u14 rfl (Nat.le_of_ble_eq_true rfl)) (cs_restart (mi := m) (ka := ka) (pa := pa) (fa := fa) (kb := kb) (pb := pb) (fb := fb) (xa := x) (xb := y) (sd := d) (by omega) (by omega) u14 u15 u16 ul) ?_
      rintro _ h_99 ⟨rfl, e_99_14, e_99_16, F_99⟩
      have k_99 : cL h_99 := F_99.1.trans ul
      have fr_99 := hfr_cb F F_99 rfl
      have g_99_7 := (hfr_g F_99 7 rfl).trans u7
      have g_99_11 := (hfr_g F_99 11 rfl).trans u11
      have g_99_12 := (hfr_g F_99 12 rfl).trans u12
      have g_99_13 := (hfr_g F_99 13 rfl).trans u13
      have g_99_15 := (hfr_g F_99 15 rfl).trans u15
      have g_99_14 : cE h_99 14 (.inr (1, [.ref 7, .ref 15, .ref 16, fI 0, fJ d])) := e_99_14
      have g_99_16 : cE h_99 16 (.inl (.int, fA [mx_sp pa fa, mx_sp pb fb])) := e_99_16
      refine ik_Wk 0 (pc_q := 36) (loc_q := [some (.ref 14), some (fI n), some (fI xa), some (fI xb), some (fI mi), some (fI wn), some (fI i)]) (st_q := []) (h_q := h_99) (cl_q := 0) (sl_q := 0) rfl ?_
      refine ik_Wk 1 (pc_q := 37) (loc_q := [some (.ref 14), some (fI n), some (fI xa), some (fI xb), some (fI mi), some (fI wn), some (fI i)]) (st_q := [.ref 14]) (h_q := h_99) (cl_q := 0) (sl_q := 0) rfl ?_
      refine fw_si rfl (by decide +kernel) ?_
      refine fw_call 25 2 0 [.ref 14, fI 200] [] rfl rfl rfl (Nat.le_of_ble_eq_true rfl) rfl rfl (fw_rec k_99 rfl g_99_14 rfl (Nat.le_of_ble_eq_true rfl)) (cs_drift (pl := pl) (mi := 0) (sd := d) (ka := ka) (pa := pa) (fa := fa) (kb := kb) (pb := pb) (fb := fb) (xa := mx_sp pa fa) (xb := mx_sp pb fb) (s := s) (n := 200) (lo := lo) (wg := wg) (wc := wc) (we := we) (by omega) (by omega) (by omega) (by omega) q4 q5 (by omega) (by omega) (by omega) (by omega) (by omega) (by omega) (by omega) (by omega) (by omega) (by omega) (by omega) (by omega) g_99_7 g_99_11 n11 g_99_12 n12 g_99_13 n13 g_99_14 g_99_15 g_99_16 k_99) ?_
      rintro _ h_100 ⟨rfl, e_100_14, e_100_16, F_100⟩
      have k_100 : cL h_100 := F_100.1.trans k_99
      have fr_100 := hfr_cb fr_99 F_100 rfl
      have g_100_7 := (hfr_g F_100 7 rfl).trans g_99_7
      have g_100_11 := (hfr_g F_100 11 rfl).trans g_99_11
      have g_100_12 := (hfr_g F_100 12 rfl).trans g_99_12
      have g_100_13 := (hfr_g F_100 13 rfl).trans g_99_13
      have g_100_15 := (hfr_g F_100 15 rfl).trans g_99_15
      have g_100_14 : cE h_100 14 (.inr (1, [.ref 7, .ref 15, .ref 16, fI ((mx_dr (fun x => mx_w cn go ch s x) (pl - 1) ka pa fa kb pb fb 200 (mx_sp pa fa) (mx_sp pb fb) 0 d).2.2.1), fJ ((mx_dr (fun x => mx_w cn go ch s x) (pl - 1) ka pa fa kb pb fb 200 (mx_sp pa fa) (mx_sp pb fb) 0 d).2.2.2)])) := e_100_14
      have g_100_16 : cE h_100 16 (.inl (.int, fA [(mx_dr (fun x => mx_w cn go ch s x) (pl - 1) ka pa fa kb pb fb 200 (mx_sp pa fa) (mx_sp pb fb) 0 d).1, (mx_dr (fun x => mx_w cn go ch s x) (pl - 1) ka pa fa kb pb fb 200 (mx_sp pa fa) (mx_sp pb fb) 0 d).2.1])) := e_100_16
      refine ik_Wk 0 (pc_q := 43) (loc_q := [some (.ref 14), some (fI n), some (fI xa), some (fI xb), some (fI mi), some (fI wn), some (fI i)]) (st_q := []) (h_q := h_100) (cl_q := 0) (sl_q := 0) rfl ?_
      have zi := mx_dr_in (W := (fun x => mx_w cn go ch s x)) (pl := pl) (ka := ka) (kb := kb) (pa := pa) (pb := pb) (fa := fa) (fb := fb) q5 (by omega) (by omega) 200 (mx_sp pa fa) (mx_sp pb fb) 0 d (by omega) (by omega) (by omega) (by omega) (by omega)
      have hze : mx_en (pl - 1) (mx_dr (fun x => mx_w cn go ch s x) (pl - 1) ka pa fa kb pb fb 200 (mx_sp pa fa) (mx_sp pb fb) 0 d).1 (mx_dr (fun x => mx_w cn go ch s x) (pl - 1) ka pa fa kb pb fb 200 (mx_sp pa fa) (mx_sp pb fb) 0 d).2.1 = (if (mx_dr (fun x => mx_w cn go ch s x) (pl - 1) ka pa fa kb pb fb 200 (mx_sp pa fa) (mx_sp pb fb) 0 d).1 = (pl - 1) then 1 else 0) + (if (mx_dr (fun x => mx_w cn go ch s x) (pl - 1) ka pa fa kb pb fb 200 (mx_sp pa fa) (mx_sp pb fb) 0 d).2.1 = (pl - 1) then 2 else 0) := rfl
      refine ik_Wk 1 (pc_q := 44) (loc_q := [some (.ref 14), some (fI n), some (fI xa), some (fI xb), some (fI mi), some (fI wn), some (fI i)]) (st_q := [.ref 14]) (h_q := h_100) (cl_q := 0) (sl_q := 0) rfl ?_
      refine ik_Wc 24 1 0 [.ref 14] [] rfl rfl rfl (by decide +kernel) rfl rfl (fw_rec k_100 rfl g_100_14 rfl (Nat.le_of_ble_eq_true rfl)) ?_
      refine ik_Wk 0 (pc_q := 0) (loc_q := [some (.ref 14)]) (st_q := []) (h_q := h_100) (cl_q := 0) (sl_q := 0) rfl ?_
      refine ik_Wk 1 (pc_q := 1) (loc_q := [some (.ref 14)]) (st_q := [.ref 14]) (h_q := h_100) (cl_q := 0) (sl_q := 0) rfl ?_
      refine fw_gf rfl rfl g_100_14 rfl ?_
      refine ik_Wk 1 (pc_q := 5) (loc_q := [some (.ref 14)]) (st_q := [fI 0, .ref 16]) (h_q := h_100) (cl_q := 0) (sl_q := 0) rfl ?_
      refine fw_ial (z := 0) rfl g_100_16 (by decide +kernel) (Nat.le_of_ble_eq_true rfl) (by decide +kernel) ?_
      refine ik_Wk 0 (pc_q := 6) (loc_q := [some (.ref 14)]) (st_q := [fI ((mx_dr (fun x => mx_w cn go ch s x) (pl - 1) ka pa fa kb pb fb 200 (mx_sp pa fa) (mx_sp pb fb) 0 d).1)]) (h_q := h_100) (cl_q := 0) (sl_q := 0) rfl ?_
      refine ik_Wk 1 (pc_q := 7) (loc_q := [some (.ref 14)]) (st_q := [.ref 14, fI ((mx_dr (fun x => mx_w cn go ch s x) (pl - 1) ka pa fa kb pb fb 200 (mx_sp pa fa) (mx_sp pb fb) 0 d).1)]) (h_q := h_100) (cl_q := 0) (sl_q := 0) rfl ?_
      refine fw_gf rfl rfl g_100_14 rfl ?_
      refine ik_Wc 2 1 0 [.ref 7] [fI ((mx_dr (fun x => mx_w cn go ch s x) (pl - 1) ka pa fa kb pb fb 200 (mx_sp pa fa) (mx_sp pb fb) 0 d).1)] rfl rfl rfl (by decide +kernel) rfl rfl (fw_rec k_100 rfl g_100_7 rfl (Nat.le_of_ble_eq_true rfl)) ?_
      refine ik_Wk 0 (pc_q := 0) (loc_q := [some (.ref 7)]) (st_q := []) (h_q := h_100) (cl_q := 0) (sl_q := 0) rfl ?_
      refine ik_Wk 1 (pc_q := 1) (loc_q := [some (.ref 7)]) (st_q := [.ref 7]) (h_q := h_100) (cl_q := 0) (sl_q := 0) rfl ?_
      refine fw_gf rfl rfl g_100_7 rfl ?_
      refine ik_Wk 1 (pc_q := 5) (loc_q := [some (.ref 7)]) (st_q := [fI 1, fI pl]) (h_q := h_100) (cl_q := 0) (sl_q := 0) rfl ?_
      refine fw_sub rfl ?_
      refine ik_Wret rfl rfl ⟨_, _, rfl, rfl, ?_⟩
      refine ik_Wk 0 (pc_q := 13) (loc_q := [some (.ref 14)]) (st_q := [fI (pl - 1), fI ((mx_dr (fun x => mx_w cn go ch s x) (pl - 1) ka pa fa kb pb fb 200 (mx_sp pa fa) (mx_sp pb fb) 0 d).1)]) (h_q := h_100) (cl_q := 0) (sl_q := 0) rfl ?_
      refine fw_ic_ne rfl rfl (by omega) (by omega) (by omega) (by omega) (fun hc2 => ?_) (fun hc2 => ?_)
      · refine ik_Wk 3 (pc_q := 22) (loc_q := [some (.ref 14)]) (st_q := [.ref 14, fI 1]) (h_q := h_100) (cl_q := 0) (sl_q := 0) rfl ?_
        refine fw_gf rfl rfl g_100_14 rfl ?_
        refine ik_Wk 1 (pc_q := 26) (loc_q := [some (.ref 14)]) (st_q := [fI 1, .ref 16, fI 1]) (h_q := h_100) (cl_q := 0) (sl_q := 0) rfl ?_
        refine fw_ial (z := 1) rfl g_100_16 (by decide +kernel) (Nat.le_of_ble_eq_true rfl) (by decide +kernel) ?_
        refine ik_Wk 0 (pc_q := 27) (loc_q := [some (.ref 14)]) (st_q := [fI ((mx_dr (fun x => mx_w cn go ch s x) (pl - 1) ka pa fa kb pb fb 200 (mx_sp pa fa) (mx_sp pb fb) 0 d).2.1), fI 1]) (h_q := h_100) (cl_q := 0) (sl_q := 0) rfl ?_
        refine ik_Wk 1 (pc_q := 28) (loc_q := [some (.ref 14)]) (st_q := [.ref 14, fI ((mx_dr (fun x => mx_w cn go ch s x) (pl - 1) ka pa fa kb pb fb 200 (mx_sp pa fa) (mx_sp pb fb) 0 d).2.1), fI 1]) (h_q := h_100) (cl_q := 0) (sl_q := 0) rfl ?_
        refine fw_gf rfl rfl g_100_14 rfl ?_
        refine ik_Wc 2 1 0 [.ref 7] [fI ((mx_dr (fun x => mx_w cn go ch s x) (pl - 1) ka pa fa kb pb fb 200 (mx_sp pa fa) (mx_sp pb fb) 0 d).2.1), fI 1] rfl rfl rfl (by decide +kernel) rfl rfl (fw_rec k_100 rfl g_100_7 rfl (Nat.le_of_ble_eq_true rfl)) ?_
        refine ik_Wk 0 (pc_q := 0) (loc_q := [some (.ref 7)]) (st_q := []) (h_q := h_100) (cl_q := 0) (sl_q := 0) rfl ?_
        refine ik_Wk 1 (pc_q := 1) (loc_q := [some (.ref 7)]) (st_q := [.ref 7]) (h_q := h_100) (cl_q := 0) (sl_q := 0) rfl ?_
        refine fw_gf rfl rfl g_100_7 rfl ?_
        refine ik_Wk 1 (pc_q := 5) (loc_q := [some (.ref 7)]) (st_q := [fI 1, fI pl]) (h_q := h_100) (cl_q := 0) (sl_q := 0) rfl ?_
        refine fw_sub rfl ?_
        refine ik_Wret rfl rfl ⟨_, _, rfl, rfl, ?_⟩
        refine ik_Wk 0 (pc_q := 34) (loc_q := [some (.ref 14)]) (st_q := [fI (pl - 1), fI ((mx_dr (fun x => mx_w cn go ch s x) (pl - 1) ka pa fa kb pb fb 200 (mx_sp pa fa) (mx_sp pb fb) 0 d).2.1), fI 1]) (h_q := h_100) (cl_q := 0) (sl_q := 0) rfl ?_
        refine fw_ic_ne rfl rfl (by omega) (by omega) (by omega) (by omega) (fun hc3 => ?_) (fun hc3 => ?_)
        · refine ik_Wk 2 (pc_q := 42) (loc_q := [some (.ref 14)]) (st_q := [fI 2, fI 1]) (h_q := h_100) (cl_q := 0) (sl_q := 0) rfl ?_
          refine fw_add rfl ?_
          refine ik_Wret rfl rfl ⟨_, _, rfl, rfl, ?_⟩
          refine ik_Wk 0 (pc_q := 47) (loc_q := [some (.ref 14), some (fI n), some (fI xa), some (fI xb), some (fI mi), some (fI wn), some (fI i)]) (st_q := [fI 3]) (h_q := h_100) (cl_q := 0) (sl_q := 0) rfl ?_
          refine ik_Wk 1 (pc_q := 48) (loc_q := [some (.ref 14), some (fI n), some (fI xa), some (fI xb), some (fI mi), some (fI wn), some (fI i)]) (st_q := [fI 1, fI 3]) (h_q := h_100) (cl_q := 0) (sl_q := 0) rfl ?_
          refine fw_ic_ne rfl rfl (by decide +kernel) (by decide +kernel) (by decide +kernel) (by decide +kernel) (fun hc4 => absurd hc4 (by decide +kernel)) (fun hc4 => ?_)
          refine fw_inc (a := i) (loc_q := [some (.ref 14), some (fI n), some (fI xa), some (fI xb), some (fI mi), some (fI wn), some (fI (i + 1))]) rfl rfl (Nat.le_of_ble_eq_true rfl) rfl ?_
          refine ik_Wk 1 (pc_q := 26) (loc_q := [some (.ref 14), some (fI n), some (fI xa), some (fI xb), some (fI mi), some (fI wn), some (fI (i + 1))]) (st_q := []) (h_q := h_100) (cl_q := 0) (sl_q := 0) rfl ?_
          have eq : (if mx_en (pl - 1) (mx_dr (fun x => mx_w cn go ch s x) (pl - 1) ka pa fa kb pb fb 200 (mx_sp pa fa) (mx_sp pb fb) 0 d).1 (mx_dr (fun x => mx_w cn go ch s x) (pl - 1) ka pa fa kb pb fb 200 (mx_sp pa fa) (mx_sp pb fb) 0 d).2.1 = 1 then (1 : Int) else 0) = 0 := by
            rw [hze]; (repeat' split) <;> first | rfl | omega
          exact ih  (i + 1) wn ((mx_dr (fun x => mx_w cn go ch s x) (pl - 1) ka pa fa kb pb fb 200 (mx_sp pa fa) (mx_sp pb fb) 0 d).1) ((mx_dr (fun x => mx_w cn go ch s x) (pl - 1) ka pa fa kb pb fb 200 (mx_sp pa fa) (mx_sp pb fb) 0 d).2.1) ((mx_dr (fun x => mx_w cn go ch s x) (pl - 1) ka pa fa kb pb fb 200 (mx_sp pa fa) (mx_sp pb fb) 0 d).2.2.1) ((mx_dr (fun x => mx_w cn go ch s x) (pl - 1) ka pa fa kb pb fb 200 (mx_sp pa fa) (mx_sp pb fb) 0 d).2.2.2) h_100 g_100_7 g_100_11 n11 g_100_12 n12 g_100_13 n13 g_100_14 g_100_15 g_100_16 k_100 fr_100 (by omega) (by omega) (by omega) (by rw [he, show (n - i).toNat = (n - (i + 1)).toNat + 1 by omega, mx_mo, eq]; simp only [Int.add_zero]) (by omega)
        · refine ik_Wk 1 (pc_q := 42) (loc_q := [some (.ref 14)]) (st_q := [fI 0, fI 1]) (h_q := h_100) (cl_q := 0) (sl_q := 0) rfl ?_
          refine fw_add rfl ?_
          refine ik_Wret rfl rfl ⟨_, _, rfl, rfl, ?_⟩
          refine ik_Wk 0 (pc_q := 47) (loc_q := [some (.ref 14), some (fI n), some (fI xa), some (fI xb), some (fI mi), some (fI wn), some (fI i)]) (st_q := [fI 1]) (h_q := h_100) (cl_q := 0) (sl_q := 0) rfl ?_
          refine ik_Wk 1 (pc_q := 48) (loc_q := [some (.ref 14), some (fI n), some (fI xa), some (fI xb), some (fI mi), some (fI wn), some (fI i)]) (st_q := [fI 1, fI 1]) (h_q := h_100) (cl_q := 0) (sl_q := 0) rfl ?_
          refine fw_ic_ne rfl rfl (by decide +kernel) (by decide +kernel) (by decide +kernel) (by decide +kernel) (fun hc5 => ?_) (fun hc5 => absurd hc5 (by decide +kernel))
          refine fw_inc (a := wn) (loc_q := [some (.ref 14), some (fI n), some (fI xa), some (fI xb), some (fI mi), some (fI (wn + 1)), some (fI i)]) rfl rfl (Nat.le_of_ble_eq_true rfl) rfl ?_
          refine fw_inc (a := i) (loc_q := [some (.ref 14), some (fI n), some (fI xa), some (fI xb), some (fI mi), some (fI (wn + 1)), some (fI (i + 1))]) rfl rfl (Nat.le_of_ble_eq_true rfl) rfl ?_
          refine ik_Wk 1 (pc_q := 26) (loc_q := [some (.ref 14), some (fI n), some (fI xa), some (fI xb), some (fI mi), some (fI (wn + 1)), some (fI (i + 1))]) (st_q := []) (h_q := h_100) (cl_q := 0) (sl_q := 0) rfl ?_
          have eq : (if mx_en (pl - 1) (mx_dr (fun x => mx_w cn go ch s x) (pl - 1) ka pa fa kb pb fb 200 (mx_sp pa fa) (mx_sp pb fb) 0 d).1 (mx_dr (fun x => mx_w cn go ch s x) (pl - 1) ka pa fa kb pb fb 200 (mx_sp pa fa) (mx_sp pb fb) 0 d).2.1 = 1 then (1 : Int) else 0) = 1 := by
            rw [hze]; (repeat' split) <;> first | rfl | omega
          exact ih  (i + 1) (wn + 1) ((mx_dr (fun x => mx_w cn go ch s x) (pl - 1) ka pa fa kb pb fb 200 (mx_sp pa fa) (mx_sp pb fb) 0 d).1) ((mx_dr (fun x => mx_w cn go ch s x) (pl - 1) ka pa fa kb pb fb 200 (mx_sp pa fa) (mx_sp pb fb) 0 d).2.1) ((mx_dr (fun x => mx_w cn go ch s x) (pl - 1) ka pa fa kb pb fb 200 (mx_sp pa fa) (mx_sp pb fb) 0 d).2.2.1) ((mx_dr (fun x => mx_w cn go ch s x) (pl - 1) ka pa fa kb pb fb 200 (mx_sp pa fa) (mx_sp pb fb) 0 d).2.2.2) h_100 g_100_7 g_100_11 n11 g_100_12 n12 g_100_13 n13 g_100_14 g_100_15 g_100_16 k_100 fr_100 (by omega) (by omega) (by omega) (by rw [he, show (n - i).toNat = (n - (i + 1)).toNat + 1 by omega, mx_mo, eq]) (by omega)
      · refine ik_Wk 2 (pc_q := 22) (loc_q := [some (.ref 14)]) (st_q := [.ref 14, fI 0]) (h_q := h_100) (cl_q := 0) (sl_q := 0) rfl ?_
        refine fw_gf rfl rfl g_100_14 rfl ?_
        refine ik_Wk 1 (pc_q := 26) (loc_q := [some (.ref 14)]) (st_q := [fI 1, .ref 16, fI 0]) (h_q := h_100) (cl_q := 0) (sl_q := 0) rfl ?_
        refine fw_ial (z := 1) rfl g_100_16 (by decide +kernel) (Nat.le_of_ble_eq_true rfl) (by decide +kernel) ?_
        refine ik_Wk 0 (pc_q := 27) (loc_q := [some (.ref 14)]) (st_q := [fI ((mx_dr (fun x => mx_w cn go ch s x) (pl - 1) ka pa fa kb pb fb 200 (mx_sp pa fa) (mx_sp pb fb) 0 d).2.1), fI 0]) (h_q := h_100) (cl_q := 0) (sl_q := 0) rfl ?_
        refine ik_Wk 1 (pc_q := 28) (loc_q := [some (.ref 14)]) (st_q := [.ref 14, fI ((mx_dr (fun x => mx_w cn go ch s x) (pl - 1) ka pa fa kb pb fb 200 (mx_sp pa fa) (mx_sp pb fb) 0 d).2.1), fI 0]) (h_q := h_100) (cl_q := 0) (sl_q := 0) rfl ?_
        refine fw_gf rfl rfl g_100_14 rfl ?_
        refine ik_Wc 2 1 0 [.ref 7] [fI ((mx_dr (fun x => mx_w cn go ch s x) (pl - 1) ka pa fa kb pb fb 200 (mx_sp pa fa) (mx_sp pb fb) 0 d).2.1), fI 0] rfl rfl rfl (by decide +kernel) rfl rfl (fw_rec k_100 rfl g_100_7 rfl (Nat.le_of_ble_eq_true rfl)) ?_
        refine ik_Wk 0 (pc_q := 0) (loc_q := [some (.ref 7)]) (st_q := []) (h_q := h_100) (cl_q := 0) (sl_q := 0) rfl ?_
        refine ik_Wk 1 (pc_q := 1) (loc_q := [some (.ref 7)]) (st_q := [.ref 7]) (h_q := h_100) (cl_q := 0) (sl_q := 0) rfl ?_
        refine fw_gf rfl rfl g_100_7 rfl ?_
        refine ik_Wk 1 (pc_q := 5) (loc_q := [some (.ref 7)]) (st_q := [fI 1, fI pl]) (h_q := h_100) (cl_q := 0) (sl_q := 0) rfl ?_
        refine fw_sub rfl ?_
        refine ik_Wret rfl rfl ⟨_, _, rfl, rfl, ?_⟩
        refine ik_Wk 0 (pc_q := 34) (loc_q := [some (.ref 14)]) (st_q := [fI (pl - 1), fI ((mx_dr (fun x => mx_w cn go ch s x) (pl - 1) ka pa fa kb pb fb 200 (mx_sp pa fa) (mx_sp pb fb) 0 d).2.1), fI 0]) (h_q := h_100) (cl_q := 0) (sl_q := 0) rfl ?_
        refine fw_ic_ne rfl rfl (by omega) (by omega) (by omega) (by omega) (fun hc6 => ?_) (fun hc6 => ?_)
        · refine ik_Wk 2 (pc_q := 42) (loc_q := [some (.ref 14)]) (st_q := [fI 2, fI 0]) (h_q := h_100) (cl_q := 0) (sl_q := 0) rfl ?_
          refine fw_add rfl ?_
          refine ik_Wret rfl rfl ⟨_, _, rfl, rfl, ?_⟩
          refine ik_Wk 0 (pc_q := 47) (loc_q := [some (.ref 14), some (fI n), some (fI xa), some (fI xb), some (fI mi), some (fI wn), some (fI i)]) (st_q := [fI 2]) (h_q := h_100) (cl_q := 0) (sl_q := 0) rfl ?_
          refine ik_Wk 1 (pc_q := 48) (loc_q := [some (.ref 14), some (fI n), some (fI xa), some (fI xb), some (fI mi), some (fI wn), some (fI i)]) (st_q := [fI 1, fI 2]) (h_q := h_100) (cl_q := 0) (sl_q := 0) rfl ?_
          refine fw_ic_ne rfl rfl (by decide +kernel) (by decide +kernel) (by decide +kernel) (by decide +kernel) (fun hc7 => absurd hc7 (by decide +kernel)) (fun hc7 => ?_)
          refine fw_inc (a := i) (loc_q := [some (.ref 14), some (fI n), some (fI xa), some (fI xb), some (fI mi), some (fI wn), some (fI (i + 1))]) rfl rfl (Nat.le_of_ble_eq_true rfl) rfl ?_
          refine ik_Wk 1 (pc_q := 26) (loc_q := [some (.ref 14), some (fI n), some (fI xa), some (fI xb), some (fI mi), some (fI wn), some (fI (i + 1))]) (st_q := []) (h_q := h_100) (cl_q := 0) (sl_q := 0) rfl ?_
          have eq : (if mx_en (pl - 1) (mx_dr (fun x => mx_w cn go ch s x) (pl - 1) ka pa fa kb pb fb 200 (mx_sp pa fa) (mx_sp pb fb) 0 d).1 (mx_dr (fun x => mx_w cn go ch s x) (pl - 1) ka pa fa kb pb fb 200 (mx_sp pa fa) (mx_sp pb fb) 0 d).2.1 = 1 then (1 : Int) else 0) = 0 := by
            rw [hze]; (repeat' split) <;> first | rfl | omega
          exact ih  (i + 1) wn ((mx_dr (fun x => mx_w cn go ch s x) (pl - 1) ka pa fa kb pb fb 200 (mx_sp pa fa) (mx_sp pb fb) 0 d).1) ((mx_dr (fun x => mx_w cn go ch s x) (pl - 1) ka pa fa kb pb fb 200 (mx_sp pa fa) (mx_sp pb fb) 0 d).2.1) ((mx_dr (fun x => mx_w cn go ch s x) (pl - 1) ka pa fa kb pb fb 200 (mx_sp pa fa) (mx_sp pb fb) 0 d).2.2.1) ((mx_dr (fun x => mx_w cn go ch s x) (pl - 1) ka pa fa kb pb fb 200 (mx_sp pa fa) (mx_sp pb fb) 0 d).2.2.2) h_100 g_100_7 g_100_11 n11 g_100_12 n12 g_100_13 n13 g_100_14 g_100_15 g_100_16 k_100 fr_100 (by omega) (by omega) (by omega) (by rw [he, show (n - i).toNat = (n - (i + 1)).toNat + 1 by omega, mx_mo, eq]; simp only [Int.add_zero]) (by omega)
        · refine ik_Wk 1 (pc_q := 42) (loc_q := [some (.ref 14)]) (st_q := [fI 0, fI 0]) (h_q := h_100) (cl_q := 0) (sl_q := 0) rfl ?_
          refine fw_add rfl ?_
          refine ik_Wret rfl rfl ⟨_, _, rfl, rfl, ?_⟩
          refine ik_Wk 0 (pc_q := 47) (loc_q := [some (.ref 14), some (fI n), some (fI xa), some (fI xb), some (fI mi), some (fI wn), some (fI i)]) (st_q := [fI 0]) (h_q := h_100) (cl_q := 0) (sl_q := 0) rfl ?_
          refine ik_Wk 1 (pc_q := 48) (loc_q := [some (.ref 14), some (fI n), some (fI xa), some (fI xb), some (fI mi), some (fI wn), some (fI i)]) (st_q := [fI 1, fI 0]) (h_q := h_100) (cl_q := 0) (sl_q := 0) rfl ?_
          refine fw_ic_ne rfl rfl (by decide +kernel) (by decide +kernel) (by decide +kernel) (by decide +kernel) (fun hc8 => absurd hc8 (by decide +kernel)) (fun hc8 => ?_)
          refine fw_inc (a := i) (loc_q := [some (.ref 14), some (fI n), some (fI xa), some (fI xb), some (fI mi), some (fI wn), some (fI (i + 1))]) rfl rfl (Nat.le_of_ble_eq_true rfl) rfl ?_
          refine ik_Wk 1 (pc_q := 26) (loc_q := [some (.ref 14), some (fI n), some (fI xa), some (fI xb), some (fI mi), some (fI wn), some (fI (i + 1))]) (st_q := []) (h_q := h_100) (cl_q := 0) (sl_q := 0) rfl ?_
          have eq : (if mx_en (pl - 1) (mx_dr (fun x => mx_w cn go ch s x) (pl - 1) ka pa fa kb pb fb 200 (mx_sp pa fa) (mx_sp pb fb) 0 d).1 (mx_dr (fun x => mx_w cn go ch s x) (pl - 1) ka pa fa kb pb fb 200 (mx_sp pa fa) (mx_sp pb fb) 0 d).2.1 = 1 then (1 : Int) else 0) = 0 := by
            rw [hze]; (repeat' split) <;> first | rfl | omega
          exact ih  (i + 1) wn ((mx_dr (fun x => mx_w cn go ch s x) (pl - 1) ka pa fa kb pb fb 200 (mx_sp pa fa) (mx_sp pb fb) 0 d).1) ((mx_dr (fun x => mx_w cn go ch s x) (pl - 1) ka pa fa kb pb fb 200 (mx_sp pa fa) (mx_sp pb fb) 0 d).2.1) ((mx_dr (fun x => mx_w cn go ch s x) (pl - 1) ka pa fa kb pb fb 200 (mx_sp pa fa) (mx_sp pb fb) 0 d).2.2.1) ((mx_dr (fun x => mx_w cn go ch s x) (pl - 1) ka pa fa kb pb fb 200 (mx_sp pa fa) (mx_sp pb fb) 0 d).2.2.2) h_100 g_100_7 g_100_11 n11 g_100_12 n12 g_100_13 n13 g_100_14 g_100_15 g_100_16 k_100 fr_100 (by omega) (by omega) (by omega) (by rw [he, show (n - i).toNat = (n - (i + 1)).toNat + 1 by omega, mx_mo, eq]; simp only [Int.add_zero]) (by omega)

theorem cs_morn {h : List ik_E} {pl : Int} {mi : Int} {sd : Int} {ka : Int} {pa : Int} {fa : Int} {kb : Int} {pb : Int} {fb : Int} {xa : Int} {xb : Int} {s : Nat} {cn : List Int} {go : List Int} {ch : List Int} {n : Int} {lo : Int} {wg : List Int} {wc : List Int} {we : List Int} (q0 : 2 ≤ pl ∧ pl ≤ 12) (q1 : s < 4096) (q2 : 0 ≤ sd ∧ sd < 2147483648) (q3 : 0 ≤ mi ∧ mi < 2000000000) (q4 : ∀ x : Int, (0 : Int) ≤ x → x < pl - 1 → mx_wy wg wc we x (mx_w cn go ch s x)) (q5 : ∀ x : Int, (0 : Int) ≤ x → x < pl - 1 → mx_ok pl (mx_w cn go ch s x)) (q6 : (0 : Int) ≤ ka ∧ ka ≤ (2 : Int)) (q7 : (0 : Int) ≤ kb ∧ kb ≤ (2 : Int)) (q8 : (0 : Int) ≤ fa ∧ fa ≤ (30 : Int)) (q9 : (0 : Int) ≤ fb ∧ fb ≤ (30 : Int)) (q10 : (0 : Int) ≤ pa ∧ pa < pl) (q11 : (0 : Int) ≤ pb ∧ pb < pl) (q12 : (1 : Int) ≤ n ∧ n ≤ (40 : Int)) (h7 : cE h 7 (.inr (0, [fI pl, fI ((s : Nat) : Int), fI lo, .ref 8, .ref 9, .ref 10, .ref 11, .ref 12, .ref 13]))) (h11 : cE h 11 (.inl (.int, fA wg))) (n11 : wg.length = (60 : Nat)) (h12 : cE h 12 (.inl (.int, fA wc))) (n12 : wc.length = (60 : Nat)) (h13 : cE h 13 (.inl (.int, fA we))) (n13 : we.length = (12 : Nat)) (h14 : cE h 14 (.inr (1, [.ref 7, .ref 15, .ref 16, fI mi, fJ sd]))) (h15 : cE h 15 (.inl (.int, fA [ka, pa, fa, kb, pb, fb]))) (h16 : cE h 16 (.inl (.int, fA [xa, xb]))) (hl : h.length = (94 : Nat)) : ik_F 28 [.ref 14, fI n] h (fun rv h_q => rv = [fI ((mx_mo (fun x => mx_w cn go ch s x) (pl - 1) ka pa fa kb pb fb n.toNat 0 sd).1)] ∧ cE h_q 14 (.inr (1, [.ref 7, .ref 15, .ref 16, fI mi, fJ ((mx_mo (fun x => mx_w cn go ch s x) (pl - 1) ka pa fa kb pb fb n.toNat 0 sd).2)])) ∧ cE h_q 16 (.inl (.int, fA [xa, xb])) ∧ hfr [14, 16] h h_q) := by
  refine ik_Wk 1 (pc_q := 1) (loc_q := [some (.ref 14), some (fI n), none, none, none, none, none]) (st_q := [.ref 14]) (h_q := h) (cl_q := 0) (sl_q := 0) rfl ?_
  refine fw_gf rfl rfl h14 rfl ?_
  refine ik_Wk 1 (pc_q := 5) (loc_q := [some (.ref 14), some (fI n), none, none, none, none, none]) (st_q := [fI 0, .ref 16]) (h_q := h) (cl_q := 0) (sl_q := 0) rfl ?_
  refine fw_ial (z := 0) rfl h16 (by decide +kernel) (Nat.le_of_ble_eq_true rfl) (by decide +kernel) ?_
  refine ik_Wk 0 (pc_q := 6) (loc_q := [some (.ref 14), some (fI n), none, none, none, none, none]) (st_q := [fI xa]) (h_q := h) (cl_q := 0) (sl_q := 0) rfl ?_
  refine ik_Wk 2 (pc_q := 8) (loc_q := [some (.ref 14), some (fI n), some (fI xa), none, none, none, none]) (st_q := [.ref 14]) (h_q := h) (cl_q := 0) (sl_q := 0) rfl ?_
  refine fw_gf rfl rfl h14 rfl ?_
  refine ik_Wk 1 (pc_q := 12) (loc_q := [some (.ref 14), some (fI n), some (fI xa), none, none, none, none]) (st_q := [fI 1, .ref 16]) (h_q := h) (cl_q := 0) (sl_q := 0) rfl ?_
  refine fw_ial (z := 1) rfl h16 (by decide +kernel) (Nat.le_of_ble_eq_true rfl) (by decide +kernel) ?_
  refine ik_Wk 0 (pc_q := 13) (loc_q := [some (.ref 14), some (fI n), some (fI xa), none, none, none, none]) (st_q := [fI xb]) (h_q := h) (cl_q := 0) (sl_q := 0) rfl ?_
  refine ik_Wk 2 (pc_q := 15) (loc_q := [some (.ref 14), some (fI n), some (fI xa), some (fI xb), none, none, none]) (st_q := [.ref 14]) (h_q := h) (cl_q := 0) (sl_q := 0) rfl ?_
  refine fw_gf rfl rfl h14 rfl ?_
  refine ik_Wk 5 (pc_q := 26) (loc_q := [some (.ref 14), some (fI n), some (fI xa), some (fI xb), some (fI mi), some (fI 0), some (fI 0)]) (st_q := []) (h_q := h) (cl_q := 0) (sl_q := 0) rfl ?_
  exact cs_mornL (pl := pl) (mi := mi) (sd := sd) (ka := ka) (pa := pa) (fa := fa) (kb := kb) (pb := pb) (fb := fb) (xa := xa) (xb := xb) (s := s) (cn := cn) (go := go) (ch := ch) (n := n) (lo := lo) (wg := wg) (wc := wc) (we := we) q0 q1 q2 q3 q4 q5 q6 q7 q8 q9 q10 q11 q12  (n.toNat + 1) 0 0 xa xb mi sd h h7 h11 n11 h12 n12 h13 n13 h14 h15 h16 hl (hfr_refl [14, 16] h) (by omega) (by omega) (by omega) (by rw [show n - 0 = n by omega]) (by omega)

end

/-! 38z.dig -/
noncomputable section
/-! stones and digging: turnStone, shift (written by wip/fx/u6.py) -/
theorem mx_xor_lt {s p : Nat} (hs : s < 4096) (hp : p < 12) : s ^^^ 1 <<< p < 4096 := by
  have h1 : 1 <<< p < 2 ^ 12 := by
    rw [Nat.shiftLeft_eq, Nat.one_mul]
    exact Nat.pow_lt_pow_right (by decide +kernel) hp
  exact Nat.xor_lt_two_pow (n := 12) hs h1
def mx_sh (ch : List Int) (p a b n : Int) : List Int := (ch.set (4 * p + a).toNat (ch.getD (4 * p + a).toNat 0 - n)).set (4 * p + b).toNat (ch.getD (4 * p + b).toNat 0 + n)
theorem mx_sh_len (ch : List Int) (p a b n : Int) : (mx_sh ch p a b n).length = ch.length := by unfold mx_sh; rw [List.length_set, List.length_set]
theorem mx_sh_b {ch : List Int} {p a b n c : Int} (hc : ∀ j : Int, 4 * p ≤ j → j < 4 * p + c → 0 ≤ ch.getD j.toNat 0 ∧ ch.getD j.toNat 0 ≤ 100) (ha : (0 : Int) ≤ a ∧ a < c) (hb : (0 : Int) ≤ b ∧ b < c) (h1 : 0 ≤ ch.getD (4 * p + a).toNat 0 - n) (h0 : (0 : Int) ≤ n) (h2 : ch.getD (4 * p + b).toNat 0 + n ≤ 100) : ∀ j : Int, 4 * p ≤ j → j < 4 * p + c → 0 ≤ (mx_sh ch p a b n).getD j.toNat 0 ∧ (mx_sh ch p a b n).getD j.toNat 0 ≤ 100 := by
  intro j j0 j1
  unfold mx_sh
  have e1 := hc j j0 j1
  have e2 := hc (4 * p + a) (by omega) (by omega)
  have e3 := hc (4 * p + b) (by omega) (by omega)
  rw [fz_getD_set]
  split
  · omega
  · rw [fz_getD_set]
    split
    · omega
    · exact e1
theorem cs_turn {h : List ik_E} {p : Int} {pl : Int} {lo : Int} {s : Nat} {cn : List Int} {go : List Int} {ch : List Int} {wg : List Int} {wc : List Int} {we : List Int} (q0 : 0 ≤ p) (q1 : p < 12) (q2 : s < 4096) (q3 : 0 ≤ cn.getD p.toNat 0 ∧ cn.getD p.toNat 0 ≤ 4) (q4 : ∀ j : Int, 4 * p ≤ j → j < 4 * p + cn.getD p.toNat 0 → 0 ≤ ch.getD j.toNat 0 ∧ ch.getD j.toNat 0 ≤ 100) (q5 : 1 ≤ cn.getD p.toNat 0) (h7 : cE h 7 (.inr (0, [fI pl, fI ((s : Nat) : Int), fI lo, .ref 8, .ref 9, .ref 10, .ref 11, .ref 12, .ref 13]))) (h8 : cE h 8 (.inl (.int, fA cn))) (n8 : cn.length = (12 : Nat)) (h9 : cE h 9 (.inl (.int, fA go))) (n9 : go.length = (48 : Nat)) (h10 : cE h 10 (.inl (.int, fA ch))) (n10 : ch.length = (48 : Nat)) (h11 : cE h 11 (.inl (.int, fA wg))) (n11 : wg.length = (60 : Nat)) (h12 : cE h 12 (.inl (.int, fA wc))) (n12 : wc.length = (60 : Nat)) (h13 : cE h 13 (.inl (.int, fA we))) (n13 : we.length = (12 : Nat)) (hl : h.length = (94 : Nat)) : ik_F 14 [.ref 7, fI p] h (fun rv h_q => ∃ (wg' : List Int) (wc' : List Int), rv = [] ∧ cE h_q 7 (.inr (0, [fI pl, fI ((s ^^^ 1 <<< p.toNat : Nat) : Int), fI lo, .ref 8, .ref 9, .ref 10, .ref 11, .ref 12, .ref 13])) ∧ cE h_q 11 (.inl (.int, fA wg')) ∧ wg'.length = (60 : Nat) ∧ cE h_q 12 (.inl (.int, fA wc')) ∧ wc'.length = (60 : Nat) ∧ cE h_q 13 (.inl (.int, fA (we.set p.toNat (5 * p + ((mx_w cn go ch (s ^^^ 1 <<< p.toNat) p).length : Int))))) ∧ (we.set p.toNat (5 * p + ((mx_w cn go ch (s ^^^ 1 <<< p.toNat) p).length : Int))).length = (12 : Nat) ∧ (mx_at (5 * p.toNat) (mx_w cn go ch (s ^^^ 1 <<< p.toNat) p) wg' wc' (mx_w cn go ch (s ^^^ 1 <<< p.toNat) p).length) ∧ (mx_out (5 * p.toNat) (5 * p.toNat + 5) wg wg') ∧ (mx_out (5 * p.toNat) (5 * p.toNat + 5) wc wc') ∧ hfr [7, 11, 12, 13] h h_q) := by
  refine ik_Wk 2 (pc_q := 2) (loc_q := [some (.ref 7), some (fI p)]) (st_q := [.ref 7, .ref 7]) (h_q := h) (cl_q := 0) (sl_q := 0) rfl ?_
  refine fw_gf rfl rfl h7 rfl ?_
  refine ik_Wk 2 (pc_q := 7) (loc_q := [some (.ref 7), some (fI p)]) (st_q := [fI p, fI 1, fI ((s : Nat) : Int), .ref 7]) (h_q := h) (cl_q := 0) (sl_q := 0) rfl ?_
  refine fx_shl rfl (by omega) (by omega) ?_
  refine fx_xor (m := s) (n := 1 <<< p.toNat) rfl ?_
  refine fx_pf rfl rfl h7 (Nat.le_of_ble_eq_true rfl) rfl rfl ?_
  intro h_101 e_101 f_101 l_101
  have k_101 : cL h_101 := l_101.trans hl
  have fr_101 := hfr_wb (hfr_refl [7, 11, 12, 13] h) f_101 l_101 rfl
  clear l_101
  have g_101_8 := (f_101 8 (Nat.ne_of_beq_eq_false rfl)).trans h8
  have g_101_9 := (f_101 9 (Nat.ne_of_beq_eq_false rfl)).trans h9
  have g_101_10 := (f_101 10 (Nat.ne_of_beq_eq_false rfl)).trans h10
  have g_101_11 := (f_101 11 (Nat.ne_of_beq_eq_false rfl)).trans h11
  have g_101_12 := (f_101 12 (Nat.ne_of_beq_eq_false rfl)).trans h12
  have g_101_13 := (f_101 13 (Nat.ne_of_beq_eq_false rfl)).trans h13
  have g_101_7 : cE h_101 7 (.inr (0, [fI pl, fI ((s ^^^ (1 <<< p.toNat) : Nat) : Int), fI lo, .ref 8, .ref 9, .ref 10, .ref 11, .ref 12, .ref 13])) := e_101
  refine ik_Wk 2 (pc_q := 14) (loc_q := [some (.ref 7), some (fI p)]) (st_q := [fI p, .ref 7]) (h_q := h_101) (cl_q := 0) (sl_q := 0) rfl ?_
  refine fw_call 12 2 0 [.ref 7, fI p] [] rfl rfl rfl (Nat.le_of_ble_eq_true rfl) rfl rfl (fw_rec k_101 rfl g_101_7 rfl (Nat.le_of_ble_eq_true rfl)) (cs_settle (p := p) (pl := pl) (lo := lo) (s := s ^^^ (1 <<< p.toNat)) (cn := cn) (go := go) (ch := ch) (wg := wg) (wc := wc) (we := we) (by omega) (by omega) (mx_xor_lt q2 (by omega)) q3 q4 (fun _ => q5) g_101_7 g_101_8 n8 g_101_9 n9 g_101_10 n10 g_101_11 n11 g_101_12 n12 g_101_13 n13 k_101) ?_
  rintro _ h_102 ⟨wg'_102, wc'_102, rfl, e_102_11, m_102_11, e_102_12, m_102_12, e_102_13, m_102_13, p_102_0, p_102_1, p_102_2, F_102⟩
  have k_102 : cL h_102 := F_102.1.trans k_101
  have fr_102 := hfr_cb fr_101 F_102 rfl
  have g_102_7 := (hfr_g F_102 7 rfl).trans g_101_7
  have g_102_8 := (hfr_g F_102 8 rfl).trans g_101_8
  have g_102_9 := (hfr_g F_102 9 rfl).trans g_101_9
  have g_102_10 := (hfr_g F_102 10 rfl).trans g_101_10
  have g_102_11 : cE h_102 11 (.inl (.int, fA wg'_102)) := e_102_11
  have g_102_12 : cE h_102 12 (.inl (.int, fA wc'_102)) := e_102_12
  have g_102_13 : cE h_102 13 (.inl (.int, fA (we.set p.toNat (5 * p + ((mx_w cn go ch (s ^^^ (1 <<< p.toNat)) p).length : Int))))) := e_102_13
  refine ik_Wk 0 (pc_q := 17) (loc_q := [some (.ref 7), some (fI p)]) (st_q := []) (h_q := h_102) (cl_q := 0) (sl_q := 0) rfl ?_
  exact ik_Wret rfl rfl ⟨_, _, rfl, rfl, rfl, rfl, ⟨wg'_102, wc'_102, rfl, g_102_7, g_102_11, m_102_11, g_102_12, m_102_12, g_102_13, m_102_13, p_102_0, p_102_1, p_102_2, fr_102⟩⟩

theorem cs_shift {h : List ik_E} {p : Int} {pl : Int} {lo : Int} {s : Nat} {cn : List Int} {go : List Int} {ch : List Int} {wg : List Int} {wc : List Int} {we : List Int} {a : Int} {b : Int} {n : Int} (q0 : 0 ≤ p) (q1 : p < 12) (q2 : s < 4096) (q3 : 0 ≤ cn.getD p.toNat 0 ∧ cn.getD p.toNat 0 ≤ 4) (q4 : ∀ j : Int, 4 * p ≤ j → j < 4 * p + cn.getD p.toNat 0 → 0 ≤ ch.getD j.toNat 0 ∧ ch.getD j.toNat 0 ≤ 100) (q5 : 1 ≤ cn.getD p.toNat 0) (q6 : (0 : Int) ≤ a ∧ a < cn.getD p.toNat 0) (q7 : (0 : Int) ≤ b ∧ b < cn.getD p.toNat 0) (q8 : ¬ a = b) (q9 : (0 : Int) ≤ n ∧ n ≤ (99 : Int)) (q10 : 0 ≤ ch.getD (4 * p + a).toNat 0 - n) (q11 : ch.getD (4 * p + b).toNat 0 + n ≤ 100) (h7 : cE h 7 (.inr (0, [fI pl, fI ((s : Nat) : Int), fI lo, .ref 8, .ref 9, .ref 10, .ref 11, .ref 12, .ref 13]))) (h8 : cE h 8 (.inl (.int, fA cn))) (n8 : cn.length = (12 : Nat)) (h9 : cE h 9 (.inl (.int, fA go))) (n9 : go.length = (48 : Nat)) (h10 : cE h 10 (.inl (.int, fA ch))) (n10 : ch.length = (48 : Nat)) (h11 : cE h 11 (.inl (.int, fA wg))) (n11 : wg.length = (60 : Nat)) (h12 : cE h 12 (.inl (.int, fA wc))) (n12 : wc.length = (60 : Nat)) (h13 : cE h 13 (.inl (.int, fA we))) (n13 : we.length = (12 : Nat)) (hl : h.length = (94 : Nat)) : ik_F 16 [.ref 7, fI p, fI a, fI b, fI n] h (fun rv h_q => ∃ (wg' : List Int) (wc' : List Int), rv = [] ∧ cE h_q 10 (.inl (.int, fA (mx_sh ch p a b n))) ∧ (mx_sh ch p a b n).length = (48 : Nat) ∧ cE h_q 11 (.inl (.int, fA wg')) ∧ wg'.length = (60 : Nat) ∧ cE h_q 12 (.inl (.int, fA wc')) ∧ wc'.length = (60 : Nat) ∧ cE h_q 13 (.inl (.int, fA (we.set p.toNat (5 * p + ((mx_w cn go (mx_sh ch p a b n) s p).length : Int))))) ∧ (we.set p.toNat (5 * p + ((mx_w cn go (mx_sh ch p a b n) s p).length : Int))).length = (12 : Nat) ∧ (mx_at (5 * p.toNat) (mx_w cn go (mx_sh ch p a b n) s p) wg' wc' (mx_w cn go (mx_sh ch p a b n) s p).length) ∧ (mx_out (5 * p.toNat) (5 * p.toNat + 5) wg wg') ∧ (mx_out (5 * p.toNat) (5 * p.toNat + 5) wc wc') ∧ hfr [10, 11, 12, 13] h h_q) := by
  refine ik_Wk 1 (pc_q := 1) (loc_q := [some (.ref 7), some (fI p), some (fI a), some (fI b), some (fI n)]) (st_q := [.ref 7]) (h_q := h) (cl_q := 0) (sl_q := 0) rfl ?_
  refine fw_gf rfl rfl h7 rfl ?_
  refine ik_Wk 2 (pc_q := 6) (loc_q := [some (.ref 7), some (fI p), some (fI a), some (fI b), some (fI n)]) (st_q := [fI 4, fI p, .ref 10]) (h_q := h) (cl_q := 0) (sl_q := 0) rfl ?_
  refine fx_mulc rfl ?_
  refine ik_Wk 1 (pc_q := 8) (loc_q := [some (.ref 7), some (fI p), some (fI a), some (fI b), some (fI n)]) (st_q := [fI a, fI (4 * p), .ref 10]) (h_q := h) (cl_q := 0) (sl_q := 0) rfl ?_
  refine fw_add rfl ?_
  refine ik_Wk 1 (pc_q := 10) (loc_q := [some (.ref 7), some (fI p), some (fI a), some (fI b), some (fI n)]) (st_q := [fI ((4 * p) + a), .ref 10, fI ((4 * p) + a), .ref 10]) (h_q := h) (cl_q := 0) (sl_q := 0) rfl ?_
  refine fw_ial rfl h10 (by omega) (by omega) (by omega) ?_
  have hd1 := q4 ((4 * p) + a) (by omega) (by omega)
  refine ik_Wk 1 (pc_q := 13) (loc_q := [some (.ref 7), some (fI p), some (fI a), some (fI b), some (fI n)]) (st_q := [fI n, fI (ch.getD ((4 * p) + a).toNat 0), fI ((4 * p) + a), .ref 10]) (h_q := h) (cl_q := 0) (sl_q := 0) rfl ?_
  refine fw_sub rfl ?_
  have hl2 : (ch.set ((4 * p) + a).toNat ((ch.getD ((4 * p) + a).toNat 0) - n)).length = 48 := (List.length_set ..).trans n10
  refine fx_ias rfl h10 (by omega) (by omega) (by omega) ?_
  intro h_103 e_103 f_103 l_103
  have k_103 : cL h_103 := l_103.trans hl
  have fr_103 := hfr_wb (hfr_refl [10, 11, 12, 13] h) f_103 l_103 rfl
  clear l_103
  have g_103_7 := (f_103 7 (Nat.ne_of_beq_eq_false rfl)).trans h7
  have g_103_8 := (f_103 8 (Nat.ne_of_beq_eq_false rfl)).trans h8
  have g_103_9 := (f_103 9 (Nat.ne_of_beq_eq_false rfl)).trans h9
  have g_103_11 := (f_103 11 (Nat.ne_of_beq_eq_false rfl)).trans h11
  have g_103_12 := (f_103 12 (Nat.ne_of_beq_eq_false rfl)).trans h12
  have g_103_13 := (f_103 13 (Nat.ne_of_beq_eq_false rfl)).trans h13
  have g_103_10 : cE h_103 10 (.inl (.int, fA (ch.set ((4 * p) + a).toNat ((ch.getD ((4 * p) + a).toNat 0) - n)))) := e_103
  refine ik_Wk 1 (pc_q := 16) (loc_q := [some (.ref 7), some (fI p), some (fI a), some (fI b), some (fI n)]) (st_q := [.ref 7]) (h_q := h_103) (cl_q := 0) (sl_q := 0) rfl ?_
  refine fw_gf rfl rfl g_103_7 rfl ?_
  refine ik_Wk 2 (pc_q := 21) (loc_q := [some (.ref 7), some (fI p), some (fI a), some (fI b), some (fI n)]) (st_q := [fI 4, fI p, .ref 10]) (h_q := h_103) (cl_q := 0) (sl_q := 0) rfl ?_
  refine fx_mulc rfl ?_
  refine ik_Wk 1 (pc_q := 23) (loc_q := [some (.ref 7), some (fI p), some (fI a), some (fI b), some (fI n)]) (st_q := [fI b, fI (4 * p), .ref 10]) (h_q := h_103) (cl_q := 0) (sl_q := 0) rfl ?_
  refine fw_add rfl ?_
  refine ik_Wk 1 (pc_q := 25) (loc_q := [some (.ref 7), some (fI p), some (fI a), some (fI b), some (fI n)]) (st_q := [fI ((4 * p) + b), .ref 10, fI ((4 * p) + b), .ref 10]) (h_q := h_103) (cl_q := 0) (sl_q := 0) rfl ?_
  refine fw_ial rfl g_103_10 (by omega) (by omega) (by omega) ?_
  have hd3 := q4 ((4 * p) + b) (by omega) (by omega)
  rw [show (ch.set ((4 * p) + a).toNat ((ch.getD ((4 * p) + a).toNat 0) - n)).getD ((4 * p) + b).toNat 0 = ch.getD ((4 * p) + b).toNat 0 from by rw [fz_getD_set, if_neg (by omega)]]
  refine ik_Wk 1 (pc_q := 28) (loc_q := [some (.ref 7), some (fI p), some (fI a), some (fI b), some (fI n)]) (st_q := [fI n, fI (ch.getD ((4 * p) + b).toNat 0), fI ((4 * p) + b), .ref 10]) (h_q := h_103) (cl_q := 0) (sl_q := 0) rfl ?_
  refine fw_add rfl ?_
  have hl4 : ((ch.set ((4 * p) + a).toNat ((ch.getD ((4 * p) + a).toNat 0) - n)).set ((4 * p) + b).toNat ((ch.getD ((4 * p) + b).toNat 0) + n)).length = 48 := (List.length_set ..).trans hl2
  refine fx_ias rfl g_103_10 (by omega) (by omega) (by omega) ?_
  intro h_104 e_104 f_104 l_104
  have k_104 : cL h_104 := l_104.trans k_103
  have fr_104 := hfr_wb fr_103 f_104 l_104 rfl
  clear l_104
  have g_104_7 := (f_104 7 (Nat.ne_of_beq_eq_false rfl)).trans g_103_7
  have g_104_8 := (f_104 8 (Nat.ne_of_beq_eq_false rfl)).trans g_103_8
  have g_104_9 := (f_104 9 (Nat.ne_of_beq_eq_false rfl)).trans g_103_9
  have g_104_11 := (f_104 11 (Nat.ne_of_beq_eq_false rfl)).trans g_103_11
  have g_104_12 := (f_104 12 (Nat.ne_of_beq_eq_false rfl)).trans g_103_12
  have g_104_13 := (f_104 13 (Nat.ne_of_beq_eq_false rfl)).trans g_103_13
  have g_104_10 : cE h_104 10 (.inl (.int, fA ((ch.set ((4 * p) + a).toNat ((ch.getD ((4 * p) + a).toNat 0) - n)).set ((4 * p) + b).toNat ((ch.getD ((4 * p) + b).toNat 0) + n)))) := e_104
  refine ik_Wk 2 (pc_q := 32) (loc_q := [some (.ref 7), some (fI p), some (fI a), some (fI b), some (fI n)]) (st_q := [fI p, .ref 7]) (h_q := h_104) (cl_q := 0) (sl_q := 0) rfl ?_
  refine fw_call 12 2 0 [.ref 7, fI p] [] rfl rfl rfl (Nat.le_of_ble_eq_true rfl) rfl rfl (fw_rec k_104 rfl g_104_7 rfl (Nat.le_of_ble_eq_true rfl)) (cs_settle (p := p) (pl := pl) (lo := lo) (s := s) (cn := cn) (go := go) (ch := (ch.set ((4 * p) + a).toNat ((ch.getD ((4 * p) + a).toNat 0) - n)).set ((4 * p) + b).toNat ((ch.getD ((4 * p) + b).toNat 0) + n)) (wg := wg) (wc := wc) (we := we) (by omega) (by omega) (by omega) q3 (mx_sh_b q4 q6 q7 q10 (by omega) q11) (fun _ => q5) g_104_7 g_104_8 n8 g_104_9 n9 g_104_10 hl4 g_104_11 n11 g_104_12 n12 g_104_13 n13 k_104) ?_
  rintro _ h_105 ⟨wg'_105, wc'_105, rfl, e_105_11, m_105_11, e_105_12, m_105_12, e_105_13, m_105_13, p_105_0, p_105_1, p_105_2, F_105⟩
  have k_105 : cL h_105 := F_105.1.trans k_104
  have fr_105 := hfr_cb fr_104 F_105 rfl
  have g_105_7 := (hfr_g F_105 7 rfl).trans g_104_7
  have g_105_8 := (hfr_g F_105 8 rfl).trans g_104_8
  have g_105_9 := (hfr_g F_105 9 rfl).trans g_104_9
  have g_105_10 := (hfr_g F_105 10 rfl).trans g_104_10
  have g_105_11 : cE h_105 11 (.inl (.int, fA wg'_105)) := e_105_11
  have g_105_12 : cE h_105 12 (.inl (.int, fA wc'_105)) := e_105_12
  have g_105_13 : cE h_105 13 (.inl (.int, fA (we.set p.toNat (5 * p + ((mx_w cn go ((ch.set ((4 * p) + a).toNat ((ch.getD ((4 * p) + a).toNat 0) - n)).set ((4 * p) + b).toNat ((ch.getD ((4 * p) + b).toNat 0) + n)) s p).length : Int))))) := e_105_13
  refine ik_Wk 0 (pc_q := 35) (loc_q := [some (.ref 7), some (fI p), some (fI a), some (fI b), some (fI n)]) (st_q := []) (h_q := h_105) (cl_q := 0) (sl_q := 0) rfl ?_
  exact ik_Wret rfl rfl ⟨_, _, rfl, rfl, rfl, rfl, ⟨wg'_105, wc'_105, rfl, g_105_10, hl4, g_105_11, m_105_11, g_105_12, m_105_12, g_105_13, m_105_13, p_105_0, p_105_1, p_105_2, fr_105⟩⟩

end

/-! 38za.fmodel -/
noncomputable section
/-! THE MODEL of odds: one go of all odds, many goes, what comes to the bridge -/
theorem wv_n {L : Nat} : ([] : List Value).all (ik_wv L) = true := rfl
theorem wv_r {L a : Nat} (h : a < L) : ik_wv L (.ref a) = true := decide_eq_true h
theorem wl_r {L a : Nat} (h : a < L) : ik_wl L (some (.ref a)) = true := decide_eq_true h
theorem fx_aln {X : Option (Nat × (Nat → Int32))} {mid pc : Nat} {loc : ik_L} {r : List Value} {h : List ik_E} {cl sl : Nat} {post : ik_St → Prop} {a L : Nat} {ty : FieldType} {vs : List Value} (hi : ik_at mid pc = some .arraylength) (hc : h[a]? = some (.inl (ty, vs))) (hv : vs.length = L) (hL : Int32.ofNat L = Int32.ofInt (L : Int)) (K : ik_W X mid (pc + 1) loc (fI (L : Int) :: r) h cl sl post) : ik_W X mid pc loc (.ref a :: r) h cl sl post := by
  refine fw_1 hi rfl rfl ?_ K
  simp only [ik_step, hc]
  rw [hv, hL]
theorem wv_c {L : Nat} {v : Value} {l : List Value} (h : ik_wv L v = true) (t : l.all (ik_wv L) = true) : (v :: l).all (ik_wv L) = true := by rw [List.all_cons, h, t]; rfl
theorem fw_ftx {mid q L : Nat} {as rest : List Value} {loc : ik_L} (h : (decide (ik_fr q + 1 ≤ ik_fr mid) && decide (8 + (ik_ml q + 11) + ik_lo q ≤ ik_lo mid) && decide (ik_sum rest ≤ 8) && decide ((ik_args as).length ≤ ik_ml q) && decide (q < 227)) = true) (hr : rest.all (ik_wv L) = true) (hl : loc.all (ik_wl L) = true) : fw_ft mid q L as rest loc = true := by
  unfold fw_ft
  rw [h, hr, hl]
  rfl
def mf_up (o : Nat → Int) (g : Nat) (v : Int) : Nat → Int := fun j => if j = g then v else o j
theorem mf_up_s (o : Nat → Int) (g : Nat) (v : Int) : mf_up o g v g = v := if_pos rfl
theorem mf_up_n {o : Nat → Int} {g j : Nat} {v : Int} (h : ¬ j = g) : mf_up o g v j = o j := if_neg h
/-- x goes by the ways of L, l of it is left -/
def mf_ps : List (Int × Int) → Int → Int → (Nat → Int) → (Nat → Int)
  | [], _, _, T => T
  | (g, c) :: L, x, l, T => if L.length = 0 then mf_up T g.toNat (T g.toNat + l) else mf_ps L x (l - x * c / 100) (mf_up T g.toNat (T g.toNat + x * c / 100))
theorem mf_ps_d {L : List (Int × Int)} {j : Nat} (h : j < L.length) (x l : Int) (T : Nat → Int) : mf_ps (L.drop j) x l T = if j + 1 = L.length then mf_up T (L.getD j (0, 0)).1.toNat (T (L.getD j (0, 0)).1.toNat + l) else mf_ps (L.drop (j + 1)) x (l - x * (L.getD j (0, 0)).2 / 100) (mf_up T (L.getD j (0, 0)).1.toNat (T (L.getD j (0, 0)).1.toNat + x * (L.getD j (0, 0)).2 / 100)) := by
  have e : (L.drop (j + 1)).length = 0 ↔ j + 1 = L.length := by rw [List.length_drop]; omega
  rw [List.drop_eq_getElem_cons h, List.getD_eq_getElem?_getD, List.getElem?_eq_getElem h]
  show (if (L.drop (j + 1)).length = 0 then _ else _) = _
  by_cases q : j + 1 = L.length
  · rw [if_pos (e.mpr q), if_pos q]; rfl
  · rw [if_neg (fun w => q (e.mp w)), if_neg q]; rfl
theorem mf_ps_e {L : List (Int × Int)} {j : Nat} (h : L.length ≤ j) (x l : Int) (T : Nat → Int) : mf_ps (L.drop j) x l T = T := by
  rw [List.drop_eq_nil_of_le h]
  rfl
/-- the odds behind the first n places' goes -/
def mf_fn (W : Int → List (Int × Int)) (o : Nat → Int) (br : Nat) : Nat → (Nat → Int)
  | 0 => fun j => if j = br then o br else 0
  | p + 1 => if 0 < o p then mf_ps (W (p : Nat)) (o p) (o p) (mf_fn W o br p) else mf_fn W o br p
theorem mf_fn_s {W : Int → List (Int × Int)} {o : Nat → Int} {br : Nat} {p : Int} (h : 0 ≤ p) : mf_fn W o br (p + 1).toNat = if 0 < o p.toNat then mf_ps (W p) (o p.toNat) (o p.toNat) (mf_fn W o br p.toNat) else mf_fn W o br p.toNat := by
  rw [show (p + 1).toNat = p.toNat + 1 by omega]
  show (if 0 < o p.toNat then mf_ps (W ((p.toNat : Nat) : Int)) _ _ _ else _) = _
  rw [Int.toNat_of_nonneg h]
/-- one go of all odds -/
def mf_fl (W : Int → List (Int × Int)) (br : Int) (o : Nat → Int) : Nat → Int := mf_fn W o br.toNat br.toNat
def mf_it (W : Int → List (Int × Int)) (br : Int) : Nat → (Nat → Int) → (Nat → Int)
  | 0, o => o
  | n + 1, o => mf_it W br n (mf_fl W br o)
/-- the odds of a cork of kind k, set in at place q, after u minutes -/
def mf_od (W : Int → List (Int × Int)) (br k q : Int) : Nat → (Nat → Int)
  | 0 => mf_up (fun _ => 0) q.toNat 1000000000
  | u + 1 => mf_it W br (mx_tm k ((u + 1 : Nat) : Int)) (mf_od W br k q u)
def mf_cm (W : Int → List (Int × Int)) (br k q : Int) (u : Nat) : Int := mf_od W br k q u br.toNat
theorem mf_od_s {W : Int → List (Int × Int)} {br k q u : Int} (h : 0 ≤ u) : mf_od W br k q (u + 1).toNat = mf_it W br (mx_tm k (u + 1)) (mf_od W br k q u.toNat) := by
  rw [show (u + 1).toNat = u.toNat + 1 by omega]
  show mf_it W br (mx_tm k ((u.toNat + 1 : Nat) : Int)) _ = _
  rw [show ((u.toNat + 1 : Nat) : Int) = u + 1 by omega]
/-- a row holds these odds for the first n places -/
def mf_is (n : Int) (xs : List Int) (o : Nat → Int) : Prop := ∀ j : Nat, (j : Int) < n → xs.getD j 0 = o j
theorem mf_is_x {n : Int} {xs : List Int} {o : Nat → Int} {v : Int} (h : mf_is n xs o) (h0 : 0 ≤ n) (hl : n.toNat < xs.length) (e : v = o n.toNat) : mf_is (n + 1) (xs.set n.toNat v) o := by
  intro j hj
  rw [fz_getD_set]
  by_cases q : j = n.toNat
  · rw [if_pos ⟨q, hl⟩, q]; exact e
  · rw [if_neg (fun w => q w.1)]; exact h j (by omega)
theorem mf_is_0 {xs : List Int} {o : Nat → Int} {n : Int} (h : n ≤ 0) : mf_is n xs o := fun j hj => absurd hj (by omega)
theorem mf_is_a {pl : Int} {ys : List Int} {T : Nat → Int} {g G v w : Int} (h : mf_is pl ys T) (e : G = g) (h0 : 0 ≤ g) (hg : g < pl) (hl : g.toNat < ys.length) (ev : v = w) : mf_is pl (ys.set G.toNat (ys.getD G.toNat 0 + v)) (mf_up T g.toNat (T g.toNat + w)) := by
  subst e
  subst ev
  intro j hj
  rw [fz_getD_set]
  by_cases q : j = G.toNat
  · rw [if_pos ⟨q, hl⟩, q, mf_up_s, h G.toNat (by omega)]
  · rw [if_neg (fun w => q w.1), mf_up_n q]; exact h j hj
theorem mf_is_b {pl : Int} {W : Int → List (Int × Int)} {o : Nat → Int} {xs ys : List Int} (h : mf_is (pl - 1) ys (fun _ => 0)) (h1 : 1 ≤ pl) (hx : mf_is pl xs o) (hl : (pl - 1).toNat < ys.length) : mf_is pl (ys.set (pl - 1).toNat (xs.getD (pl - 1).toNat 0)) (mf_fn W o (pl - 1).toNat 0) := by
  intro j hj
  rw [fz_getD_set]
  show _ = if j = (pl - 1).toNat then o (pl - 1).toNat else 0
  by_cases q : j = (pl - 1).toNat
  · rw [if_pos ⟨q, hl⟩, if_pos q]; exact hx _ (by omega)
  · rw [if_neg (fun w => q w.1), if_neg q]; exact h j (by omega)
/-! sums and bounds -/
def mf_su (o : Nat → Int) : Nat → Int
  | 0 => 0
  | n + 1 => mf_su o n + o n
theorem mf_su_hi {o : Nat → Int} {g : Nat} {v : Int} : ∀ n, n ≤ g → mf_su (mf_up o g v) n = mf_su o n := by
  intro n
  induction n with
  | zero => intro _; rfl
  | succ n ih =>
    intro h
    show mf_su (mf_up o g v) n + mf_up o g v n = mf_su o n + o n
    rw [ih (by omega), mf_up_n (by omega)]
theorem mf_su_up {o : Nat → Int} {g : Nat} {v : Int} : ∀ n, g < n → mf_su (mf_up o g v) n = mf_su o n - o g + v := by
  intro n
  induction n with
  | zero => intro h; omega
  | succ n ih =>
    intro h
    show mf_su (mf_up o g v) n + mf_up o g v n = mf_su o n + o n - o g + v
    by_cases q : n = g
    · subst q; rw [mf_su_hi n (Nat.le_refl n), mf_up_s]; omega
    · rw [ih (by omega), mf_up_n q]; omega
theorem mf_su_nn {o : Nat → Int} (h : ∀ j, 0 ≤ o j) : ∀ n, 0 ≤ mf_su o n := by
  intro n
  induction n with
  | zero => exact Int.le_refl 0
  | succ n ih => have := h n; show 0 ≤ mf_su o n + o n; omega
theorem mf_su_le {o : Nat → Int} (h : ∀ j, 0 ≤ o j) : ∀ n j, j < n → o j ≤ mf_su o n := by
  intro n
  induction n with
  | zero => intro j hj; omega
  | succ n ih =>
    intro j hj
    show o j ≤ mf_su o n + o n
    by_cases q : j = n
    · subst q; have := mf_su_nn h j; omega
    · have := ih j (by omega); have := h n; omega
theorem mf_su_mono {o : Nat → Int} (h : ∀ j, 0 ≤ o j) : ∀ n m, n ≤ m → mf_su o n ≤ mf_su o m := by
  intro n m
  induction m with
  | zero => intro q; rw [show n = 0 by omega]; exact Int.le_refl _
  | succ m ih =>
    intro q
    by_cases e : n = m + 1
    · rw [e]; exact Int.le_refl _
    · have := ih (by omega); have := h m; show mf_su o n ≤ mf_su o m + o m; omega
/-- odds as they are: none below 0, together at most a billion, none beyond the places -/
def mf_gd (pl : Int) (o : Nat → Int) : Prop := (∀ j, 0 ≤ o j) ∧ mf_su o pl.toNat ≤ 1000000000 ∧ ∀ j : Nat, pl ≤ (j : Int) → o j = 0
theorem mf_gd_b {pl : Int} {o : Nat → Int} (h : mf_gd pl o) (j : Nat) : 0 ≤ o j ∧ o j ≤ 1000000000 := by
  refine ⟨h.1 j, ?_⟩
  by_cases q : (j : Int) < pl
  · have := mf_su_le h.1 pl.toNat j (by omega); have := h.2.1; omega
  · rw [h.2.2 j (by omega)]; decide
theorem mx_cs_nn {pl : Int} {L : List (Int × Int)} (hL : mx_ok pl L) : ∀ n j, L.length - j = n → 0 ≤ mx_cs (L.drop j) := by
  intro n
  induction n with
  | zero => intro j e; rw [mx_cs_e (by omega)]; exact Int.le_refl 0
  | succ n ih =>
    intro j e
    rw [mx_cs_d (by omega)]
    have := ih (j + 1) (by omega)
    have := hL.2.2 j (by omega)
    omega
theorem mf_mul_b {x c : Int} (h0 : 0 ≤ x) (h1 : x ≤ 1000000000) (c0 : 1 ≤ c) (c1 : c ≤ 100) : 0 ≤ x * c ∧ x * c ≤ 100000000000 := by
  refine ⟨Int.mul_nonneg h0 (by omega), ?_⟩
  have a := Int.mul_le_mul h1 c1 (by omega) (by omega : (0 : Int) ≤ 1000000000)
  omega
theorem mf_left_n {pl x l : Int} {L : List (Int × Int)} {j : Nat} (hL : mx_ok pl L) (hx : 0 ≤ x) (hj : j < L.length) (h : x * mx_cs (L.drop j) ≤ 100 * l) : x * mx_cs (L.drop (j + 1)) ≤ 100 * (l - x * (L.getD j (0, 0)).2 / 100) ∧ 0 ≤ l - x * (L.getD j (0, 0)).2 / 100 ∧ 0 ≤ x * (L.getD j (0, 0)).2 / 100 := by
  rw [mx_cs_d hj, Int.mul_add] at h
  have hb := hL.2.2 j hj
  have h2 : 0 ≤ x * mx_cs (L.drop (j + 1)) := Int.mul_nonneg hx (mx_cs_nn hL _ (j + 1) rfl)
  have h3 : 0 ≤ x * (L.getD j (0, 0)).2 := Int.mul_nonneg hx (by omega)
  omega
theorem mf_left_p {pl x l : Int} {L : List (Int × Int)} {j : Nat} (hL : mx_ok pl L) (hx : 0 < x) (hj : j < L.length) (h : x * mx_cs (L.drop j) ≤ 100 * l) : 0 < l := by
  rw [mx_cs_d hj, Int.mul_add] at h
  have hb := hL.2.2 j hj
  have h2 : 0 ≤ x * mx_cs (L.drop (j + 1)) := Int.mul_nonneg (by omega) (mx_cs_nn hL _ (j + 1) rfl)
  have h3 : x * 1 ≤ x * (L.getD j (0, 0)).2 := Int.mul_le_mul_of_nonneg_left (by omega) (by omega)
  omega
theorem mf_ps_gd {pl x : Int} {L : List (Int × Int)} (hL : mx_ok pl L) (hx : 0 ≤ x) : ∀ (n j : Nat) (l : Int) (T : Nat → Int), L.length - j = n → j < L.length → x * mx_cs (L.drop j) ≤ 100 * l → (∀ i, 0 ≤ T i) → (∀ i : Nat, pl ≤ (i : Int) → T i = 0) →
    (∀ i, T i ≤ mf_ps (L.drop j) x l T i) ∧ mf_su (mf_ps (L.drop j) x l T) pl.toNat = mf_su T pl.toNat + l ∧ ∀ i : Nat, pl ≤ (i : Int) → mf_ps (L.drop j) x l T i = 0 := by
  intro n
  induction n with
  | zero => intro j l T e hj; omega
  | succ n ih =>
    intro j l T e hj h h0 hz
    have hb := hL.2.2 j hj
    have hn := mf_left_n hL hx hj h
    have hg : (L.getD j (0, 0)).1.toNat < pl.toNat := by omega
    have hl : 0 ≤ l := by have h2 : 0 ≤ x * mx_cs (L.drop j) := Int.mul_nonneg hx (mx_cs_nn hL _ j rfl); omega
    rw [mf_ps_d hj]
    by_cases q : j + 1 = L.length
    · rw [if_pos q, mf_su_up _ hg]
      refine ⟨fun i => ?_, by omega, fun i hi => ?_⟩
      · by_cases w : i = (L.getD j (0, 0)).1.toNat
        · subst w; rw [mf_up_s]; omega
        · rw [mf_up_n w]; exact Int.le_refl _
      · rw [mf_up_n (by omega)]; exact hz i hi
    · rw [if_neg q]
      have t1 : ∀ i, T i ≤ mf_up T (L.getD j (0, 0)).1.toNat (T (L.getD j (0, 0)).1.toNat + x * (L.getD j (0, 0)).2 / 100) i := by
        intro i
        by_cases w : i = (L.getD j (0, 0)).1.toNat
        · subst w; rw [mf_up_s]; omega
        · rw [mf_up_n w]; exact Int.le_refl _
      have r := ih (j + 1) (l - x * (L.getD j (0, 0)).2 / 100) (mf_up T (L.getD j (0, 0)).1.toNat (T (L.getD j (0, 0)).1.toNat + x * (L.getD j (0, 0)).2 / 100)) (by omega) (by omega) hn.1
        (fun i => Int.le_trans (h0 i) (t1 i)) (fun i hi => by rw [mf_up_n (by omega)]; exact hz i hi)
      refine ⟨fun i => Int.le_trans (t1 i) (r.1 i), ?_, r.2.2⟩
      rw [r.2.1, mf_su_up _ hg]
      omega
theorem mf_fn_gd {W : Int → List (Int × Int)} {pl : Int} {o : Nat → Int} (hW : ∀ x : Int, (0 : Int) ≤ x → x < pl - 1 → mx_ok pl (W x)) (h1 : (1 : Int) ≤ pl) (ho : ∀ j, 0 ≤ o j) : ∀ p : Nat, (p : Int) ≤ pl - 1 → (∀ i, 0 ≤ mf_fn W o (pl - 1).toNat p i) ∧ mf_su (mf_fn W o (pl - 1).toNat p) pl.toNat = mf_su o p + o (pl - 1).toNat ∧ (∀ i : Nat, pl ≤ (i : Int) → mf_fn W o (pl - 1).toNat p i = 0) ∧ o (pl - 1).toNat ≤ mf_fn W o (pl - 1).toNat p (pl - 1).toNat := by
  intro p
  induction p with
  | zero =>
    intro _
    have e : mf_fn W o (pl - 1).toNat 0 = mf_up (fun _ => 0) (pl - 1).toNat (o (pl - 1).toNat) := rfl
    have z : ∀ n, mf_su (fun _ => 0) n = 0 := by
      intro n
      induction n with
      | zero => rfl
      | succ n ih => show mf_su (fun _ => 0) n + 0 = 0; rw [ih]; rfl
    rw [e]
    refine ⟨fun i => ?_, ?_, fun i hi => ?_, ?_⟩
    · by_cases w : i = (pl - 1).toNat
      · subst w; rw [mf_up_s]; exact ho _
      · rw [mf_up_n w]; exact Int.le_refl 0
    · rw [mf_su_up _ (by omega), z]; show 0 - 0 + _ = 0 + _; omega
    · rw [mf_up_n (by omega)]
    · rw [mf_up_s]; exact Int.le_refl _
  | succ p ih =>
    intro hp
    have r := ih (by omega)
    have hw := hW (p : Nat) (by omega) (by omega)
    by_cases q : 0 < o p
    · have e : mf_fn W o (pl - 1).toNat (p + 1) = mf_ps (W (p : Nat)) (o p) (o p) (mf_fn W o (pl - 1).toNat p) := if_pos q
      have hl : 0 < (W (p : Nat)).length := by
        rcases Nat.eq_zero_or_pos (W (p : Nat)).length with w | w
        · have a := mx_cs_e (L := W (p : Nat)) (j := 0) (by omega); rw [List.drop_zero] at a; have := hw.2.1; omega
        · exact w
      have g := mf_ps_gd hw (Int.le_of_lt q) (W (p : Nat)).length 0 (o p) (mf_fn W o (pl - 1).toNat p) (by omega) hl (by rw [List.drop_zero, hw.2.1]; omega) r.1 r.2.2.1
      rw [List.drop_zero] at g
      rw [e]
      refine ⟨fun i => Int.le_trans (r.1 i) (g.1 i), ?_, g.2.2, Int.le_trans r.2.2.2 (g.1 _)⟩
      rw [g.2.1, r.2.1]
      show _ = mf_su o p + o p + _
      omega
    · have e : mf_fn W o (pl - 1).toNat (p + 1) = mf_fn W o (pl - 1).toNat p := if_neg q
      rw [e]
      refine ⟨r.1, ?_, r.2.2⟩
      rw [r.2.1]
      have := ho p
      show _ = mf_su o p + o p + _
      omega
theorem mf_fl_gd {W : Int → List (Int × Int)} {pl : Int} {o : Nat → Int} (hW : ∀ x : Int, (0 : Int) ≤ x → x < pl - 1 → mx_ok pl (W x)) (h1 : (1 : Int) ≤ pl) (ho : mf_gd pl o) : mf_gd pl (mf_fl W (pl - 1) o) ∧ o (pl - 1).toNat ≤ mf_fl W (pl - 1) o (pl - 1).toNat := by
  have r := mf_fn_gd hW h1 ho.1 (pl - 1).toNat (by omega)
  refine ⟨⟨r.1, ?_, r.2.2.1⟩, r.2.2.2⟩
  show mf_su (mf_fn W o (pl - 1).toNat (pl - 1).toNat) pl.toNat ≤ _
  rw [r.2.1]
  have e : pl.toNat = (pl - 1).toNat + 1 := by omega
  have := ho.2.1
  rw [e] at this
  exact this
theorem mf_it_gd {W : Int → List (Int × Int)} {pl : Int} (hW : ∀ x : Int, (0 : Int) ≤ x → x < pl - 1 → mx_ok pl (W x)) (h1 : (1 : Int) ≤ pl) : ∀ (n : Nat) (o : Nat → Int), mf_gd pl o → mf_gd pl (mf_it W (pl - 1) n o) ∧ o (pl - 1).toNat ≤ mf_it W (pl - 1) n o (pl - 1).toNat := by
  intro n
  induction n with
  | zero => intro o h; exact ⟨h, Int.le_refl _⟩
  | succ n ih =>
    intro o h
    have a := mf_fl_gd hW h1 h
    have b := ih _ a.1
    exact ⟨b.1, Int.le_trans a.2 b.2⟩
theorem mf_od_gd {W : Int → List (Int × Int)} {pl k q : Int} (hW : ∀ x : Int, (0 : Int) ≤ x → x < pl - 1 → mx_ok pl (W x)) (hq : (0 : Int) ≤ q ∧ q < pl) : ∀ u : Nat, mf_gd pl (mf_od W (pl - 1) k q u) := by
  intro u
  induction u with
  | zero =>
    have z : ∀ n, mf_su (fun _ => 0) n = 0 := by
      intro n
      induction n with
      | zero => rfl
      | succ n ih => show mf_su (fun _ => 0) n + 0 = 0; rw [ih]; rfl
    show mf_gd pl (mf_up (fun _ => 0) q.toNat 1000000000)
    refine ⟨fun i => ?_, ?_, fun i hi => ?_⟩
    · by_cases w : i = q.toNat
      · subst w; rw [mf_up_s]; decide
      · rw [mf_up_n w]; exact Int.le_refl 0
    · rw [mf_su_up _ (by omega), z]; decide
    · rw [mf_up_n (by omega)]
  | succ u ih => exact (mf_it_gd hW (by omega) _ _ ih).1
theorem mf_cm_b {W : Int → List (Int × Int)} {pl k q : Int} (hW : ∀ x : Int, (0 : Int) ≤ x → x < pl - 1 → mx_ok pl (W x)) (hq : (0 : Int) ≤ q ∧ q < pl) (u : Nat) : 0 ≤ mf_cm W (pl - 1) k q u ∧ mf_cm W (pl - 1) k q u ≤ 1000000000 ∧ mf_cm W (pl - 1) k q u ≤ mf_cm W (pl - 1) k q (u + 1) := by
  have g := mf_od_gd (k := k) hW hq u
  have a := mf_gd_b g (pl - 1).toNat
  exact ⟨a.1, a.2, (mf_it_gd hW (by omega) _ _ g).2⟩
theorem mf_cm_0 {W : Int → List (Int × Int)} {pl k q : Int} (hq : 0 ≤ q ∧ q < pl - 1) : mf_cm W (pl - 1) k q 0 = 0 := by
  show mf_up (fun _ => 0) q.toNat 1000000000 (pl - 1).toNat = 0
  rw [mf_up_n (by omega)]
end

/-! 38zb.flow -/
noncomputable section
/-! one go of all odds: flow of both (written by wip/fx/u7.py) -/
theorem cs_flowI {h : List ik_E} {a : Nat} {b : Nat} {pl : Int} {lo : Int} {s : Nat} {wg : List Int} {wc : List Int} {we : List Int} {xs : List Int} {ys : List Int} {o : Nat → Int} {W : Int → List (Int × Int)} (q0 : 1 ≤ pl ∧ pl ≤ 12) (q1 : ∀ x : Int, (0 : Int) ≤ x → x < pl - 1 → mx_wy wg wc we x (W x)) (q2 : ∀ x : Int, (0 : Int) ≤ x → x < pl - 1 → mx_ok pl (W x)) (q3 : mf_is pl xs o) (q4 : mf_gd pl o) (q5 : 14 < a ∧ a < 94 ∧ 14 < b ∧ b < 94 ∧ ¬ a = b) (p : Int) (hp : (0 : Int) ≤ p ∧ p < pl - 1) {R : List Value → List ik_E → Prop} (K : ∀ (w : List ik_E) (y2 : List Int) (l2 : Int) (k2 : Int) (x9 : Option Value) (w7 : cE w 7 (.inr (0, [fI pl, fI ((s : Nat) : Int), fI lo, .ref 8, .ref 9, .ref 10, .ref 11, .ref 12, .ref 13]))) (w11 : cE w 11 (.inl (.int, fA wg))) (nw_11 : wg.length = (60 : Nat)) (w12 : cE w 12 (.inl (.int, fA wc))) (nw_12 : wc.length = (60 : Nat)) (w13 : cE w 13 (.inl (.int, fA we))) (nw_13 : we.length = (12 : Nat)) (wa : cE w a (.inl (.long, fL xs))) (nw_a : xs.length = (12 : Nat)) (wb : cE w b (.inl (.long, fL y2))) (nw_b : y2.length = (12 : Nat)) (wl : w.length = (94 : Nat)) (F : hfr [b] h w) (hy2 : mf_is pl y2 (mf_fn W o (pl - 1).toNat (p + 1).toNat)), ik_G 17 137 [some (.ref 7), some (.ref a), some (.ref b), some (fI (pl - 1)), some (fI p), some (fJ l2), none, some (fI (we.getD p.toNat 0 - 1)), some (fI k2), x9, none] [] w R) : ∀ (k : Nat) (j : Nat) (l : Int) (kk : Int) (y1 : List Int) (T : Nat → Int) (x9 : Option Value) (u : List ik_E) (u7 : cE u 7 (.inr (0, [fI pl, fI ((s : Nat) : Int), fI lo, .ref 8, .ref 9, .ref 10, .ref 11, .ref 12, .ref 13]))) (u11 : cE u 11 (.inl (.int, fA wg))) (n11 : wg.length = (60 : Nat)) (u12 : cE u 12 (.inl (.int, fA wc))) (n12 : wc.length = (60 : Nat)) (u13 : cE u 13 (.inl (.int, fA we))) (n13 : we.length = (12 : Nat)) (ua : cE u a (.inl (.long, fL xs))) (na : xs.length = (12 : Nat)) (ub : cE u b (.inl (.long, fL y1))) (nb : y1.length = (12 : Nat)) (ul : u.length = (94 : Nat)) (F : hfr [b] h u) (hj : j ≤ (W p).length) (hkk : kk = 5 * p + (j : Int)) (hl0 : (0 : Int) ≤ l ∧ l ≤ o p.toNat) (hlc : o p.toNat * mx_cs ((W p).drop j) ≤ 100 * l) (hy : mf_is pl y1 T) (hT : (0 < o p.toNat ∧ mf_fn W o (pl - 1).toNat (p + 1).toNat = mf_ps ((W p).drop j) (o p.toNat) l T) ∨ (o p.toNat = 0 ∧ mf_fn W o (pl - 1).toNat (p + 1).toNat = T)) (hk : ((W p).length : Int) - (j : Int) < (k : Int)), ik_G 17 65 [some (.ref 7), some (.ref a), some (.ref b), some (fI (pl - 1)), some (fI p), some (fJ l), none, some (fI (we.getD p.toNat 0 - 1)), some (fI kk), x9, none] [] u R := by
  intro k
  induction k with
  | zero => intro j l kk y1 T x9 u u7 u11 n11 u12 n12 u13 n13 ua na ub nb ul F hj hkk hl0 hlc hy hT hk; omega
  | succ k ih =>
    intro j l kk y1 T x9 u u7 u11 n11 u12 n12 u13 n13 ua na ub nb ul F hj hkk hl0 hlc hy hT hk
    have hok := q2 p (by omega) (by omega)
    obtain ⟨w1, w2⟩ := q1 p (by omega) (by omega)
    obtain ⟨o1, o2, o3⟩ := hok
    have hx := q3 p.toNat (by omega)
    have hb := mf_gd_b q4 p.toNat
    refine ik_Wk 2 (pc_q := 69) (loc_q := [some (.ref 7), some (.ref a), some (.ref b), some (fI (pl - 1)), some (fI p), some (fJ l), none, some (fI (we.getD p.toNat 0 - 1)), some (fI kk), x9, none]) (st_q := [fI (we.getD p.toNat 0 - 1), fI kk]) (h_q := u) (cl_q := 0) (sl_q := 0) rfl ?_
    refine fw_ic_gt rfl rfl (by omega) (by omega) (by omega) (by omega) (fun hc1 => ?_) (fun hc1 => ?_)
    · have hy2 : mf_is pl y1 (mf_fn W o (pl - 1).toNat (p + 1).toNat) := by
        rcases hT with q | q
        · rcases Nat.lt_or_ge j (W p).length with w | w
          · have := mf_left_p ⟨o1, o2, o3⟩ q.1 w hlc
            omega
          · rw [q.2, mf_ps_e w]; exact hy
        · rw [q.2]; exact hy
      exact K u y1 l kk x9 u7 u11 n11 u12 n12 u13 n13 ua na ub nb ul F hy2
    · refine ik_Wk 1 (pc_q := 74) (loc_q := [some (.ref 7), some (.ref a), some (.ref b), some (fI (pl - 1)), some (fI p), some (fJ l), none, some (fI (we.getD p.toNat 0 - 1)), some (fI kk), x9, none]) (st_q := [fJ l]) (h_q := u) (cl_q := 0) (sl_q := 0) rfl ?_
      refine fw_lc (z := 0) rfl (by decide +kernel) ?_
      refine fw_lcmp_le rfl rfl rfl (by omega) (by omega) (by omega) (by omega) (fun hc2 => ?_) (fun hc2 => ?_)
      · have hy2 : mf_is pl y1 (mf_fn W o (pl - 1).toNat (p + 1).toNat) := by
          rcases hT with q | q
          · rcases Nat.lt_or_ge j (W p).length with w | w
            · have := mf_left_p ⟨o1, o2, o3⟩ q.1 w hlc
              omega
            · rw [q.2, mf_ps_e w]; exact hy
          · rw [q.2]; exact hy
        exact K u y1 l kk x9 u7 u11 n11 u12 n12 u13 n13 ua na ub nb ul F hy2
      · refine ik_Wk 2 (pc_q := 83) (loc_q := [some (.ref 7), some (.ref a), some (.ref b), some (fI (pl - 1)), some (fI p), some (fJ l), none, some (fI (we.getD p.toNat 0 - 1)), some (fI kk), x9, none]) (st_q := [fI (we.getD p.toNat 0 - 1), fI kk]) (h_q := u) (cl_q := 0) (sl_q := 0) rfl ?_
        have ej : kk.toNat = 5 * p.toNat + j := by omega
        have hw := w2 j (by omega)
        rw [← ej] at hw
        have hq := o3 j (by omega)
        have hlp : 0 < o p.toNat := by omega
        have hT2 : mf_fn W o (pl - 1).toNat (p + 1).toNat = mf_ps ((W p).drop j) (o p.toNat) l T := by
          rcases hT with q | q
          · exact q.2
          · omega
        have hln := mf_left_n (l := l) ⟨o1, o2, o3⟩ (Int.le_of_lt hlp) (show j < (W p).length by omega) hlc
        refine fw_ic_ne rfl rfl (by omega) (by omega) (by omega) (by omega) (fun hc3 => ?_) (fun hc3 => ?_)
        · refine ik_Wk 5 (pc_q := 112) (loc_q := [some (.ref 7), some (.ref a), some (.ref b), some (fI (pl - 1)), some (fI p), some (fJ l), none, some (fI (we.getD p.toNat 0 - 1)), some (fI kk), some (fJ l), none]) (st_q := [.ref 7, .ref b]) (h_q := u) (cl_q := 0) (sl_q := 0) rfl ?_
          refine fw_gf rfl rfl u7 rfl ?_
          refine ik_Wk 1 (pc_q := 117) (loc_q := [some (.ref 7), some (.ref a), some (.ref b), some (fI (pl - 1)), some (fI p), some (fJ l), none, some (fI (we.getD p.toNat 0 - 1)), some (fI kk), some (fJ l), none]) (st_q := [fI kk, .ref 11, .ref b]) (h_q := u) (cl_q := 0) (sl_q := 0) rfl ?_
          refine fw_ial rfl u11 (by omega) (by omega) (by omega) ?_
          refine ik_Wk 1 (pc_q := 119) (loc_q := [some (.ref 7), some (.ref a), some (.ref b), some (fI (pl - 1)), some (fI p), some (fJ l), none, some (fI (we.getD p.toNat 0 - 1)), some (fI kk), some (fJ l), none]) (st_q := [fI (wg.getD kk.toNat 0), .ref b, fI (wg.getD kk.toNat 0), .ref b]) (h_q := u) (cl_q := 0) (sl_q := 0) rfl ?_
          refine fx_lal rfl ub (by omega) (by omega) (by omega) ?_
          refine ik_Wk 1 (pc_q := 122) (loc_q := [some (.ref 7), some (.ref a), some (.ref b), some (fI (pl - 1)), some (fI p), some (fJ l), none, some (fI (we.getD p.toNat 0 - 1)), some (fI kk), some (fJ l), none]) (st_q := [fJ l, fJ (y1.getD (wg.getD kk.toNat 0).toNat 0), fI (wg.getD kk.toNat 0), .ref b]) (h_q := u) (cl_q := 0) (sl_q := 0) rfl ?_
          refine fw_ladd rfl ?_
          have hl4 : (y1.set (wg.getD kk.toNat 0).toNat ((y1.getD (wg.getD kk.toNat 0).toNat 0) + l)).length = 12 := (List.length_set ..).trans nb
          refine fx_las rfl ub (by omega) (by omega) (by omega) ?_
          intro h_106 e_106 f_106 l_106
          have k_106 : cL h_106 := l_106.trans ul
          have fr_106 := hfr_w F f_106 l_106 (by simp <;> omega)
          clear l_106
          have g_106_7 := (f_106 7 (by omega)).trans u7
          have g_106_11 := (f_106 11 (by omega)).trans u11
          have g_106_12 := (f_106 12 (by omega)).trans u12
          have g_106_13 := (f_106 13 (by omega)).trans u13
          have g_106_a := (f_106 a (by omega)).trans ua
          have g_106_b : cE h_106 b (.inl (.long, fL (y1.set (wg.getD kk.toNat 0).toNat ((y1.getD (wg.getD kk.toNat 0).toNat 0) + l)))) := e_106
          refine ik_Wk 2 (pc_q := 128) (loc_q := [some (.ref 7), some (.ref a), some (.ref b), some (fI (pl - 1)), some (fI p), some (fJ l), none, some (fI (we.getD p.toNat 0 - 1)), some (fI kk), some (fJ l), none]) (st_q := [fJ l, fJ l]) (h_q := h_106) (cl_q := 0) (sl_q := 0) rfl ?_
          refine fw_lsub rfl ?_
          refine ik_Wk 1 (pc_q := 131) (loc_q := [some (.ref 7), some (.ref a), some (.ref b), some (fI (pl - 1)), some (fI p), some (fJ (l - l)), none, some (fI (we.getD p.toNat 0 - 1)), some (fI kk), some (fJ l), none]) (st_q := []) (h_q := h_106) (cl_q := 0) (sl_q := 0) rfl ?_
          refine fw_inc (a := kk) (loc_q := [some (.ref 7), some (.ref a), some (.ref b), some (fI (pl - 1)), some (fI p), some (fJ (l - l)), none, some (fI (we.getD p.toNat 0 - 1)), some (fI (kk + 1)), some (fJ l), none]) rfl rfl (Nat.le_of_ble_eq_true rfl) rfl ?_
          refine ik_Wk 1 (pc_q := 65) (loc_q := [some (.ref 7), some (.ref a), some (.ref b), some (fI (pl - 1)), some (fI p), some (fJ (l - l)), none, some (fI (we.getD p.toNat 0 - 1)), some (fI (kk + 1)), some (fJ l), none]) (st_q := []) (h_q := h_106) (cl_q := 0) (sl_q := 0) rfl ?_
          have ejl : j + 1 = (W p).length := by omega
          have hce := mx_cs_e (L := W p) (j := j + 1) (by omega)
          exact ih (j + 1) (l - l) (kk + 1) (y1.set (wg.getD kk.toNat 0).toNat ((y1.getD (wg.getD kk.toNat 0).toNat 0) + l)) (mf_up T ((W p).getD j (0, 0)).1.toNat (T ((W p).getD j (0, 0)).1.toNat + l)) (some (fJ l)) h_106 g_106_7 g_106_11 n11 g_106_12 n12 g_106_13 n13 g_106_a na g_106_b hl4 k_106 fr_106 (by omega) (by omega) (by omega) (by rw [hce]; omega) (mf_is_a hy hw.1 (by omega) (by omega) (by omega) rfl) (Or.inl ⟨hlp, by rw [hT2, mf_ps_d (by omega), if_pos ejl, mf_ps_e (by omega)]⟩) (by omega)
        · refine ik_Wk 2 (pc_q := 94) (loc_q := [some (.ref 7), some (.ref a), some (.ref b), some (fI (pl - 1)), some (fI p), some (fJ l), none, some (fI (we.getD p.toNat 0 - 1)), some (fI kk), x9, none]) (st_q := [fI p, .ref a]) (h_q := u) (cl_q := 0) (sl_q := 0) rfl ?_
          refine fx_lal rfl ua (by omega) (by omega) (by omega) ?_
          refine ik_Wk 1 (pc_q := 96) (loc_q := [some (.ref 7), some (.ref a), some (.ref b), some (fI (pl - 1)), some (fI p), some (fJ l), none, some (fI (we.getD p.toNat 0 - 1)), some (fI kk), x9, none]) (st_q := [.ref 7, fJ (xs.getD p.toNat 0)]) (h_q := u) (cl_q := 0) (sl_q := 0) rfl ?_
          refine fw_gf rfl rfl u7 rfl ?_
          refine ik_Wk 1 (pc_q := 101) (loc_q := [some (.ref 7), some (.ref a), some (.ref b), some (fI (pl - 1)), some (fI p), some (fJ l), none, some (fI (we.getD p.toNat 0 - 1)), some (fI kk), x9, none]) (st_q := [fI kk, .ref 12, fJ (xs.getD p.toNat 0)]) (h_q := u) (cl_q := 0) (sl_q := 0) rfl ?_
          refine fw_ial rfl u12 (by omega) (by omega) (by omega) ?_
          refine fw_i2l rfl (by omega) (by omega) ?_
          refine fw_lmul rfl ?_
          refine fw_l2 100 rfl rfl (by decide +kernel) ?_
          have hmb := mf_mul_b (x := xs.getD p.toNat 0) (c := wc.getD kk.toNat 0) (by omega) (by omega) (by omega) (by omega)
          refine fx_ldiv rfl (by omega) (by omega) (by omega) (by omega) ?_
          refine ik_Wk 3 (pc_q := 112) (loc_q := [some (.ref 7), some (.ref a), some (.ref b), some (fI (pl - 1)), some (fI p), some (fJ l), none, some (fI (we.getD p.toNat 0 - 1)), some (fI kk), some (fJ (((xs.getD p.toNat 0) * (wc.getD kk.toNat 0)) / 100)), none]) (st_q := [.ref 7, .ref b]) (h_q := u) (cl_q := 0) (sl_q := 0) rfl ?_
          refine fw_gf rfl rfl u7 rfl ?_
          refine ik_Wk 1 (pc_q := 117) (loc_q := [some (.ref 7), some (.ref a), some (.ref b), some (fI (pl - 1)), some (fI p), some (fJ l), none, some (fI (we.getD p.toNat 0 - 1)), some (fI kk), some (fJ (((xs.getD p.toNat 0) * (wc.getD kk.toNat 0)) / 100)), none]) (st_q := [fI kk, .ref 11, .ref b]) (h_q := u) (cl_q := 0) (sl_q := 0) rfl ?_
          refine fw_ial rfl u11 (by omega) (by omega) (by omega) ?_
          refine ik_Wk 1 (pc_q := 119) (loc_q := [some (.ref 7), some (.ref a), some (.ref b), some (fI (pl - 1)), some (fI p), some (fJ l), none, some (fI (we.getD p.toNat 0 - 1)), some (fI kk), some (fJ (((xs.getD p.toNat 0) * (wc.getD kk.toNat 0)) / 100)), none]) (st_q := [fI (wg.getD kk.toNat 0), .ref b, fI (wg.getD kk.toNat 0), .ref b]) (h_q := u) (cl_q := 0) (sl_q := 0) rfl ?_
          refine fx_lal rfl ub (by omega) (by omega) (by omega) ?_
          refine ik_Wk 1 (pc_q := 122) (loc_q := [some (.ref 7), some (.ref a), some (.ref b), some (fI (pl - 1)), some (fI p), some (fJ l), none, some (fI (we.getD p.toNat 0 - 1)), some (fI kk), some (fJ (((xs.getD p.toNat 0) * (wc.getD kk.toNat 0)) / 100)), none]) (st_q := [fJ (((xs.getD p.toNat 0) * (wc.getD kk.toNat 0)) / 100), fJ (y1.getD (wg.getD kk.toNat 0).toNat 0), fI (wg.getD kk.toNat 0), .ref b]) (h_q := u) (cl_q := 0) (sl_q := 0) rfl ?_
          refine fw_ladd rfl ?_
          have hl5 : (y1.set (wg.getD kk.toNat 0).toNat ((y1.getD (wg.getD kk.toNat 0).toNat 0) + (((xs.getD p.toNat 0) * (wc.getD kk.toNat 0)) / 100))).length = 12 := (List.length_set ..).trans nb
          refine fx_las rfl ub (by omega) (by omega) (by omega) ?_
          intro h_107 e_107 f_107 l_107
          have k_107 : cL h_107 := l_107.trans ul
          have fr_107 := hfr_w F f_107 l_107 (by simp <;> omega)
          clear l_107
          have g_107_7 := (f_107 7 (by omega)).trans u7
          have g_107_11 := (f_107 11 (by omega)).trans u11
          have g_107_12 := (f_107 12 (by omega)).trans u12
          have g_107_13 := (f_107 13 (by omega)).trans u13
          have g_107_a := (f_107 a (by omega)).trans ua
          have g_107_b : cE h_107 b (.inl (.long, fL (y1.set (wg.getD kk.toNat 0).toNat ((y1.getD (wg.getD kk.toNat 0).toNat 0) + (((xs.getD p.toNat 0) * (wc.getD kk.toNat 0)) / 100))))) := e_107
          refine ik_Wk 2 (pc_q := 128) (loc_q := [some (.ref 7), some (.ref a), some (.ref b), some (fI (pl - 1)), some (fI p), some (fJ l), none, some (fI (we.getD p.toNat 0 - 1)), some (fI kk), some (fJ (((xs.getD p.toNat 0) * (wc.getD kk.toNat 0)) / 100)), none]) (st_q := [fJ (((xs.getD p.toNat 0) * (wc.getD kk.toNat 0)) / 100), fJ l]) (h_q := h_107) (cl_q := 0) (sl_q := 0) rfl ?_
          refine fw_lsub rfl ?_
          refine ik_Wk 1 (pc_q := 131) (loc_q := [some (.ref 7), some (.ref a), some (.ref b), some (fI (pl - 1)), some (fI p), some (fJ (l - (((xs.getD p.toNat 0) * (wc.getD kk.toNat 0)) / 100))), none, some (fI (we.getD p.toNat 0 - 1)), some (fI kk), some (fJ (((xs.getD p.toNat 0) * (wc.getD kk.toNat 0)) / 100)), none]) (st_q := []) (h_q := h_107) (cl_q := 0) (sl_q := 0) rfl ?_
          refine fw_inc (a := kk) (loc_q := [some (.ref 7), some (.ref a), some (.ref b), some (fI (pl - 1)), some (fI p), some (fJ (l - (((xs.getD p.toNat 0) * (wc.getD kk.toNat 0)) / 100))), none, some (fI (we.getD p.toNat 0 - 1)), some (fI (kk + 1)), some (fJ (((xs.getD p.toNat 0) * (wc.getD kk.toNat 0)) / 100)), none]) rfl rfl (Nat.le_of_ble_eq_true rfl) rfl ?_
          refine ik_Wk 1 (pc_q := 65) (loc_q := [some (.ref 7), some (.ref a), some (.ref b), some (fI (pl - 1)), some (fI p), some (fJ (l - (((xs.getD p.toNat 0) * (wc.getD kk.toNat 0)) / 100))), none, some (fI (we.getD p.toNat 0 - 1)), some (fI (kk + 1)), some (fJ (((xs.getD p.toNat 0) * (wc.getD kk.toNat 0)) / 100)), none]) (st_q := []) (h_q := h_107) (cl_q := 0) (sl_q := 0) rfl ?_
          have ejl : ¬ j + 1 = (W p).length := by omega
          have epx : xs.getD p.toNat 0 * wc.getD kk.toNat 0 / 100 = o p.toNat * ((W p).getD j (0, 0)).2 / 100 := by rw [hx, hw.2]
          exact ih (j + 1) (l - (((xs.getD p.toNat 0) * (wc.getD kk.toNat 0)) / 100)) (kk + 1) (y1.set (wg.getD kk.toNat 0).toNat ((y1.getD (wg.getD kk.toNat 0).toNat 0) + (((xs.getD p.toNat 0) * (wc.getD kk.toNat 0)) / 100))) (mf_up T ((W p).getD j (0, 0)).1.toNat (T ((W p).getD j (0, 0)).1.toNat + (o p.toNat * ((W p).getD j (0, 0)).2 / 100))) (some (fJ (((xs.getD p.toNat 0) * (wc.getD kk.toNat 0)) / 100))) h_107 g_107_7 g_107_11 n11 g_107_12 n12 g_107_13 n13 g_107_a na g_107_b hl5 k_107 fr_107 (by omega) (by omega) (by rw [epx]; omega) (by rw [epx]; exact hln.1) (mf_is_a hy hw.1 (by omega) (by omega) (by omega) epx) (Or.inl ⟨hlp, by rw [hT2, mf_ps_d (by omega), if_neg ejl, epx]⟩) (by omega)

theorem cs_flowO {h : List ik_E} {a : Nat} {b : Nat} {pl : Int} {lo : Int} {s : Nat} {wg : List Int} {wc : List Int} {we : List Int} {xs : List Int} {ys : List Int} {o : Nat → Int} {W : Int → List (Int × Int)} (q0 : 1 ≤ pl ∧ pl ≤ 12) (q1 : ∀ x : Int, (0 : Int) ≤ x → x < pl - 1 → mx_wy wg wc we x (W x)) (q2 : ∀ x : Int, (0 : Int) ≤ x → x < pl - 1 → mx_ok pl (W x)) (q3 : mf_is pl xs o) (q4 : mf_gd pl o) (q5 : 14 < a ∧ a < 94 ∧ 14 < b ∧ b < 94 ∧ ¬ a = b)  : ∀ (k : Nat) (p : Int) (y1 : List Int) (x5 : Option Value) (x7 : Option Value) (x8 : Option Value) (x9 : Option Value) (u : List ik_E) (u7 : cE u 7 (.inr (0, [fI pl, fI ((s : Nat) : Int), fI lo, .ref 8, .ref 9, .ref 10, .ref 11, .ref 12, .ref 13]))) (u11 : cE u 11 (.inl (.int, fA wg))) (n11 : wg.length = (60 : Nat)) (u12 : cE u 12 (.inl (.int, fA wc))) (n12 : wc.length = (60 : Nat)) (u13 : cE u 13 (.inl (.int, fA we))) (n13 : we.length = (12 : Nat)) (ua : cE u a (.inl (.long, fL xs))) (na : xs.length = (12 : Nat)) (ub : cE u b (.inl (.long, fL y1))) (nb : y1.length = (12 : Nat)) (ul : u.length = (94 : Nat)) (F : hfr [b] h u) (hp : (0 : Int) ≤ p ∧ p ≤ pl - 1) (hy : mf_is pl y1 (mf_fn W o (pl - 1).toNat p.toNat)) (hk : pl - 1 - p < (k : Int)), ik_G 17 36 [some (.ref 7), some (.ref a), some (.ref b), some (fI (pl - 1)), some (fI p), x5, none, x7, x8, x9, none] [] u (fun rv h_q => ∃ (ys' : List Int), rv = [] ∧ cE h_q b (.inl (.long, fL ys')) ∧ ys'.length = (12 : Nat) ∧ (mf_is pl ys' (mf_fl W (pl - 1) o)) ∧ hfr [b] h h_q) := by
  intro k
  induction k with
  | zero => intro p y1 x5 x7 x8 x9 u u7 u11 n11 u12 n12 u13 n13 ua na ub nb ul F hp hy hk; omega
  | succ k ih =>
    intro p y1 x5 x7 x8 x9 u u7 u11 n11 u12 n12 u13 n13 ua na ub nb ul F hp hy hk
    refine ik_Wk 2 (pc_q := 39) (loc_q := [some (.ref 7), some (.ref a), some (.ref b), some (fI (pl - 1)), some (fI p), x5, none, x7, x8, x9, none]) (st_q := [fI (pl - 1), fI p]) (h_q := u) (cl_q := 0) (sl_q := 0) rfl ?_
    refine fw_ic_ge rfl rfl (by omega) (by omega) (by omega) (by omega) (fun hc1 => ?_) (fun hc1 => ?_)
    · have ep : p = pl - 1 := by omega
      rw [ep] at hy
      exact ik_Wret rfl rfl ⟨_, _, rfl, rfl, rfl, rfl, ⟨y1, rfl, ub, nb, hy, F⟩⟩
    · refine ik_Wk 2 (pc_q := 45) (loc_q := [some (.ref 7), some (.ref a), some (.ref b), some (fI (pl - 1)), some (fI p), x5, none, x7, x8, x9, none]) (st_q := [fI p, .ref a]) (h_q := u) (cl_q := 0) (sl_q := 0) rfl ?_
      refine fx_lal rfl ua (by omega) (by omega) (by omega) ?_
      refine ik_Wk 2 (pc_q := 49) (loc_q := [some (.ref 7), some (.ref a), some (.ref b), some (fI (pl - 1)), some (fI p), some (fJ (xs.getD p.toNat 0)), none, x7, x8, x9, none]) (st_q := [.ref 7]) (h_q := u) (cl_q := 0) (sl_q := 0) rfl ?_
      refine fw_gf rfl rfl u7 rfl ?_
      refine ik_Wk 1 (pc_q := 54) (loc_q := [some (.ref 7), some (.ref a), some (.ref b), some (fI (pl - 1)), some (fI p), some (fJ (xs.getD p.toNat 0)), none, x7, x8, x9, none]) (st_q := [fI p, .ref 13]) (h_q := u) (cl_q := 0) (sl_q := 0) rfl ?_
      refine fw_ial rfl u13 (by omega) (by omega) (by omega) ?_
      refine ik_Wk 1 (pc_q := 56) (loc_q := [some (.ref 7), some (.ref a), some (.ref b), some (fI (pl - 1)), some (fI p), some (fJ (xs.getD p.toNat 0)), none, x7, x8, x9, none]) (st_q := [fI 1, fI (we.getD p.toNat 0)]) (h_q := u) (cl_q := 0) (sl_q := 0) rfl ?_
      refine fw_sub rfl ?_
      refine ik_Wk 3 (pc_q := 62) (loc_q := [some (.ref 7), some (.ref a), some (.ref b), some (fI (pl - 1)), some (fI p), some (fJ (xs.getD p.toNat 0)), none, some (fI ((we.getD p.toNat 0) - 1)), x8, x9, none]) (st_q := [fI 5, fI p]) (h_q := u) (cl_q := 0) (sl_q := 0) rfl ?_
      refine fx_mulc rfl ?_
      refine ik_Wk 1 (pc_q := 65) (loc_q := [some (.ref 7), some (.ref a), some (.ref b), some (fI (pl - 1)), some (fI p), some (fJ (xs.getD p.toNat 0)), none, some (fI ((we.getD p.toNat 0) - 1)), some (fI (5 * p)), x9, none]) (st_q := []) (h_q := u) (cl_q := 0) (sl_q := 0) rfl ?_
      have hok := q2 p (by omega) (by omega)
      have hx := q3 p.toNat (by omega)
      have hb := mf_gd_b q4 p.toNat
      have hfs := mf_fn_s (W := W) (o := o) (br := (pl - 1).toNat) (p := p) (by omega)
      have hT : (0 < o p.toNat ∧ mf_fn W o (pl - 1).toNat (p + 1).toNat = mf_ps ((W p).drop 0) (o p.toNat) (xs.getD p.toNat 0) (mf_fn W o (pl - 1).toNat p.toNat)) ∨ (o p.toNat = 0 ∧ mf_fn W o (pl - 1).toNat (p + 1).toNat = mf_fn W o (pl - 1).toNat p.toNat) := by
        by_cases q : 0 < o p.toNat
        · rw [if_pos q] at hfs; exact Or.inl ⟨q, by rw [hfs, hx, List.drop_zero]⟩
        · rw [if_neg q] at hfs; exact Or.inr ⟨by omega, hfs⟩
      refine cs_flowI (a := a) (b := b) (pl := pl) (lo := lo) (s := s) (wg := wg) (wc := wc) (we := we) (xs := xs) (ys := ys) (o := o) (W := W) q0 q1 q2 q3 q4 q5 p (by omega) (R := (fun rv h_q => ∃ (ys' : List Int), rv = [] ∧ cE h_q b (.inl (.long, fL ys')) ∧ ys'.length = 12 ∧ (mf_is pl ys' (mf_fl W (pl - 1) o)) ∧ hfr [b] h h_q)) (fun h_108 y2_108 l2_108 k2_108 x9_108 g_108_7 g_108_11 m_108_11 g_108_12 m_108_12 g_108_13 m_108_13 g_108_a m_108_a g_108_b m_108_b k_108 fr_108 hy2_108 => ?_) ((W p).length + 1) 0 (xs.getD p.toNat 0) (5 * p) y1 (mf_fn W o (pl - 1).toNat p.toNat) x9 u u7 u11 n11 u12 n12 u13 n13 ua na ub nb ul F (by omega) (by omega) (by omega) (by rw [List.drop_zero, hok.2.1, hx]; omega) hy hT (by omega)
      refine fw_inc (a := p) (loc_q := [some (.ref 7), some (.ref a), some (.ref b), some (fI (pl - 1)), some (fI (p + 1)), some (fJ l2_108), none, some (fI (we.getD p.toNat 0 - 1)), some (fI k2_108), x9_108, none]) rfl rfl (Nat.le_of_ble_eq_true rfl) rfl ?_
      refine ik_Wk 1 (pc_q := 36) (loc_q := [some (.ref 7), some (.ref a), some (.ref b), some (fI (pl - 1)), some (fI (p + 1)), some (fJ l2_108), none, some (fI (we.getD p.toNat 0 - 1)), some (fI k2_108), x9_108, none]) (st_q := []) (h_q := h_108) (cl_q := 0) (sl_q := 0) rfl ?_
      exact ih  (p + 1) y2_108 (some (fJ l2_108)) (some (fI (we.getD p.toNat 0 - 1))) (some (fI k2_108)) x9_108 h_108 g_108_7 g_108_11 m_108_11 g_108_12 m_108_12 g_108_13 m_108_13 g_108_a m_108_a g_108_b m_108_b k_108 fr_108 (by omega) hy2_108 (by omega)

theorem cs_flowZ {h : List ik_E} {a : Nat} {b : Nat} {pl : Int} {lo : Int} {s : Nat} {wg : List Int} {wc : List Int} {we : List Int} {xs : List Int} {ys : List Int} {o : Nat → Int} {W : Int → List (Int × Int)} (q0 : 1 ≤ pl ∧ pl ≤ 12) (q1 : ∀ x : Int, (0 : Int) ≤ x → x < pl - 1 → mx_wy wg wc we x (W x)) (q2 : ∀ x : Int, (0 : Int) ≤ x → x < pl - 1 → mx_ok pl (W x)) (q3 : mf_is pl xs o) (q4 : mf_gd pl o) (q5 : 14 < a ∧ a < 94 ∧ 14 < b ∧ b < 94 ∧ ¬ a = b)  : ∀ (k : Nat) (p : Int) (y1 : List Int) (u : List ik_E) (u7 : cE u 7 (.inr (0, [fI pl, fI ((s : Nat) : Int), fI lo, .ref 8, .ref 9, .ref 10, .ref 11, .ref 12, .ref 13]))) (u11 : cE u 11 (.inl (.int, fA wg))) (n11 : wg.length = (60 : Nat)) (u12 : cE u 12 (.inl (.int, fA wc))) (n12 : wc.length = (60 : Nat)) (u13 : cE u 13 (.inl (.int, fA we))) (n13 : we.length = (12 : Nat)) (ua : cE u a (.inl (.long, fL xs))) (na : xs.length = (12 : Nat)) (ub : cE u b (.inl (.long, fL y1))) (nb : y1.length = (12 : Nat)) (ul : u.length = (94 : Nat)) (F : hfr [b] h u) (hp : (0 : Int) ≤ p ∧ p ≤ pl - 1) (hy : mf_is p y1 (fun _ => 0)) (hk : pl - 1 - p < (k : Int)), ik_G 17 10 [some (.ref 7), some (.ref a), some (.ref b), some (fI (pl - 1)), some (fI p), none, none, none, none, none, none] [] u (fun rv h_q => ∃ (ys' : List Int), rv = [] ∧ cE h_q b (.inl (.long, fL ys')) ∧ ys'.length = (12 : Nat) ∧ (mf_is pl ys' (mf_fl W (pl - 1) o)) ∧ hfr [b] h h_q) := by
  intro k
  induction k with
  | zero => intro p y1 u u7 u11 n11 u12 n12 u13 n13 ua na ub nb ul F hp hy hk; omega
  | succ k ih =>
    intro p y1 u u7 u11 n11 u12 n12 u13 n13 ua na ub nb ul F hp hy hk
    refine ik_Wk 2 (pc_q := 13) (loc_q := [some (.ref 7), some (.ref a), some (.ref b), some (fI (pl - 1)), some (fI p), none, none, none, none, none, none]) (st_q := [fI (pl - 1), fI p]) (h_q := u) (cl_q := 0) (sl_q := 0) rfl ?_
    refine fw_ic_ge rfl rfl (by omega) (by omega) (by omega) (by omega) (fun hc1 => ?_) (fun hc1 => ?_)
    · refine ik_Wk 4 (pc_q := 31) (loc_q := [some (.ref 7), some (.ref a), some (.ref b), some (fI (pl - 1)), some (fI p), none, none, none, none, none, none]) (st_q := [fI (pl - 1), .ref a, fI (pl - 1), .ref b]) (h_q := u) (cl_q := 0) (sl_q := 0) rfl ?_
      refine fx_lal rfl ua (by omega) (by omega) (by omega) ?_
      have hl2 : (y1.set (pl - 1).toNat (xs.getD (pl - 1).toNat 0)).length = 12 := (List.length_set ..).trans nb
      refine fx_las rfl ub (by omega) (by omega) (by omega) ?_
      intro h_109 e_109 f_109 l_109
      have k_109 : cL h_109 := l_109.trans ul
      have fr_109 := hfr_w F f_109 l_109 (by simp <;> omega)
      clear l_109
      have g_109_7 := (f_109 7 (by omega)).trans u7
      have g_109_11 := (f_109 11 (by omega)).trans u11
      have g_109_12 := (f_109 12 (by omega)).trans u12
      have g_109_13 := (f_109 13 (by omega)).trans u13
      have g_109_a := (f_109 a (by omega)).trans ua
      have g_109_b : cE h_109 b (.inl (.long, fL (y1.set (pl - 1).toNat (xs.getD (pl - 1).toNat 0)))) := e_109
      refine ik_Wk 2 (pc_q := 36) (loc_q := [some (.ref 7), some (.ref a), some (.ref b), some (fI (pl - 1)), some (fI 0), none, none, none, none, none, none]) (st_q := []) (h_q := h_109) (cl_q := 0) (sl_q := 0) rfl ?_
      have ep : p = pl - 1 := by omega
      rw [ep] at hy
      exact cs_flowO (a := a) (b := b) (pl := pl) (lo := lo) (s := s) (wg := wg) (wc := wc) (we := we) (xs := xs) (ys := ys) (o := o) (W := W) q0 q1 q2 q3 q4 q5  pl.toNat 0 (y1.set (pl - 1).toNat (xs.getD (pl - 1).toNat 0)) none none none none h_109 g_109_7 g_109_11 n11 g_109_12 n12 g_109_13 n13 g_109_a na g_109_b hl2 k_109 fr_109 (by omega) (mf_is_b hy (by omega) q3 (by omega)) (by omega)
    · refine ik_Wk 2 (pc_q := 19) (loc_q := [some (.ref 7), some (.ref a), some (.ref b), some (fI (pl - 1)), some (fI p), none, none, none, none, none, none]) (st_q := [fI p, .ref b]) (h_q := u) (cl_q := 0) (sl_q := 0) rfl ?_
      refine fw_lc (z := 0) rfl (by decide +kernel) ?_
      have hl3 : (y1.set p.toNat 0).length = 12 := (List.length_set ..).trans nb
      refine fx_las rfl ub (by omega) (by omega) (by omega) ?_
      intro h_110 e_110 f_110 l_110
      have k_110 : cL h_110 := l_110.trans ul
      have fr_110 := hfr_w F f_110 l_110 (by simp <;> omega)
      clear l_110
      have g_110_7 := (f_110 7 (by omega)).trans u7
      have g_110_11 := (f_110 11 (by omega)).trans u11
      have g_110_12 := (f_110 12 (by omega)).trans u12
      have g_110_13 := (f_110 13 (by omega)).trans u13
      have g_110_a := (f_110 a (by omega)).trans ua
      have g_110_b : cE h_110 b (.inl (.long, fL (y1.set p.toNat 0))) := e_110
      refine fw_inc (a := p) (loc_q := [some (.ref 7), some (.ref a), some (.ref b), some (fI (pl - 1)), some (fI (p + 1)), none, none, none, none, none, none]) rfl rfl (Nat.le_of_ble_eq_true rfl) rfl ?_
      refine ik_Wk 1 (pc_q := 10) (loc_q := [some (.ref 7), some (.ref a), some (.ref b), some (fI (pl - 1)), some (fI (p + 1)), none, none, none, none, none, none]) (st_q := []) (h_q := h_110) (cl_q := 0) (sl_q := 0) rfl ?_
      exact ih  (p + 1) (y1.set p.toNat 0) h_110 g_110_7 g_110_11 n11 g_110_12 n12 g_110_13 n13 g_110_a na g_110_b hl3 k_110 fr_110 (by omega) (mf_is_x hy (by omega) (by omega) rfl) (by omega)

theorem cs_flow {h : List ik_E} {a : Nat} {b : Nat} {pl : Int} {lo : Int} {s : Nat} {wg : List Int} {wc : List Int} {we : List Int} {xs : List Int} {ys : List Int} {o : Nat → Int} {W : Int → List (Int × Int)} (q0 : 1 ≤ pl ∧ pl ≤ 12) (q1 : ∀ x : Int, (0 : Int) ≤ x → x < pl - 1 → mx_wy wg wc we x (W x)) (q2 : ∀ x : Int, (0 : Int) ≤ x → x < pl - 1 → mx_ok pl (W x)) (q3 : mf_is pl xs o) (q4 : mf_gd pl o) (q5 : 14 < a ∧ a < 94 ∧ 14 < b ∧ b < 94 ∧ ¬ a = b) (h7 : cE h 7 (.inr (0, [fI pl, fI ((s : Nat) : Int), fI lo, .ref 8, .ref 9, .ref 10, .ref 11, .ref 12, .ref 13]))) (h11 : cE h 11 (.inl (.int, fA wg))) (n11 : wg.length = (60 : Nat)) (h12 : cE h 12 (.inl (.int, fA wc))) (n12 : wc.length = (60 : Nat)) (h13 : cE h 13 (.inl (.int, fA we))) (n13 : we.length = (12 : Nat)) (ha : cE h a (.inl (.long, fL xs))) (na : xs.length = (12 : Nat)) (hb : cE h b (.inl (.long, fL ys))) (nb : ys.length = (12 : Nat)) (hl : h.length = (94 : Nat)) : ik_F 17 [.ref 7, .ref a, .ref b] h (fun rv h_q => ∃ (ys' : List Int), rv = [] ∧ cE h_q b (.inl (.long, fL ys')) ∧ ys'.length = (12 : Nat) ∧ (mf_is pl ys' (mf_fl W (pl - 1) o)) ∧ hfr [b] h h_q) := by
  refine ik_Wk 1 (pc_q := 1) (loc_q := [some (.ref 7), some (.ref a), some (.ref b), none, none, none, none, none, none, none, none]) (st_q := [.ref 7]) (h_q := h) (cl_q := 0) (sl_q := 0) rfl ?_
  refine fw_gf rfl rfl h7 rfl ?_
  refine ik_Wk 1 (pc_q := 5) (loc_q := [some (.ref 7), some (.ref a), some (.ref b), none, none, none, none, none, none, none, none]) (st_q := [fI 1, fI pl]) (h_q := h) (cl_q := 0) (sl_q := 0) rfl ?_
  refine fw_sub rfl ?_
  refine ik_Wk 3 (pc_q := 10) (loc_q := [some (.ref 7), some (.ref a), some (.ref b), some (fI (pl - 1)), some (fI 0), none, none, none, none, none, none]) (st_q := []) (h_q := h) (cl_q := 0) (sl_q := 0) rfl ?_
  exact cs_flowZ (a := a) (b := b) (pl := pl) (lo := lo) (s := s) (wg := wg) (wc := wc) (we := we) (xs := xs) (ys := ys) (o := o) (W := W) q0 q1 q2 q3 q4 q5  (pl.toNat + 1) 0 ys h h7 h11 n11 h12 n12 h13 n13 ha na hb nb hl (hfr_refl [b] h) (by omega) (mf_is_0 (by omega)) (by omega)

theorem cr_flowI {h : List ik_E} {pl : Int} {f : Nat → Int} {s : Nat} {cn : List Int} {go : List Int} {ch : List Int} {gt : List Int} {gd : List Int} {xs : List Int} {ys : List Int} {o : Nat → Int} (q0 : 1 ≤ pl ∧ pl ≤ 12) (q1 : s < 4096) (q2 : ∀ x : Int, (0 : Int) ≤ x → x < pl - 1 → 0 ≤ cn.getD x.toNat 0 ∧ cn.getD x.toNat 0 ≤ 4) (q3 : ∀ x : Int, (0 : Int) ≤ x → x < pl - 1 → 1 ≤ cn.getD x.toNat 0 ∧ ∀ j : Int, 4 * x ≤ j → j < 4 * x + cn.getD x.toNat 0 → 0 ≤ ch.getD j.toNat 0 ∧ ch.getD j.toNat 0 ≤ 100) (q4 : ∀ x : Int, (0 : Int) ≤ x → x < pl - 1 → mx_ok pl (mx_w cn go ch s x)) (q5 : mf_is pl xs o) (q6 : mf_gd pl o) (p : Int) (hp : (0 : Int) ≤ p ∧ p < pl - 1) (hlp : 0 < o p.toNat) (g1 : List Int) (d1 : List Int) (hat : mx_at 0 (mx_w cn go ch s p) g1 d1 (mx_w cn go ch s p).length) {R : List Value → List ik_E → Prop} (K : ∀ (w : List ik_E) (y2 : List Int) (l2 : Int) (i2 : Int) (x5 : Option Value) (w66 : cE w 66 (.inr (10, (fI pl :: .ref 67 :: .ref 68 :: .ref 69 :: fI ((s : Nat) : Int) :: .ref 70 :: .ref 71 :: fI (f 7) :: fI (f 8) :: .ref 72 :: fI (f 10) :: fI (f 11) :: fI (f 12) :: fJ (f 13) :: fI (f 14) :: fI (f 15) :: fI (f 16) :: fI (f 17) :: .ref 73 :: .ref 74 :: .ref 75 :: .ref 76 :: .ref 77 :: .ref 78 :: fI ((mx_w cn go ch s p).length : Int) :: .ref 79 :: .ref 80 :: .ref 81 :: .ref 82 :: .ref 83 :: .ref 84 :: .ref 85 :: fJ (f 32) :: fJ (f 33) :: .ref 86 :: .ref 87 :: fI (f 36) :: .ref 88 :: .ref 89 :: .ref 90 :: .ref 91 :: .ref 92 :: .ref 93 :: [])))) (w67 : cE w 67 (.inl (.int, fA cn))) (nw_67 : cn.length = (12 : Nat)) (w68 : cE w 68 (.inl (.int, fA go))) (nw_68 : go.length = (48 : Nat)) (w69 : cE w 69 (.inl (.int, fA ch))) (nw_69 : ch.length = (48 : Nat)) (w77 : cE w 77 (.inl (.int, fA g1))) (nw_77 : g1.length = (5 : Nat)) (w78 : cE w 78 (.inl (.int, fA d1))) (nw_78 : d1.length = (5 : Nat)) (w79 : cE w 79 (.inl (.long, fL xs))) (nw_79 : xs.length = (12 : Nat)) (w80 : cE w 80 (.inl (.long, fL y2))) (nw_80 : y2.length = (12 : Nat)) (wl : w.length = (94 : Nat)) (F : hfr [66, 77, 78, 79, 80] h w) (hy2 : mf_is pl y2 (mf_fn (fun x => mx_w cn go ch s x) o (pl - 1).toNat (p + 1).toNat)) (w5 : ik_wl 94 x5 = true), ik_G 153 151 [some (.ref 66), some (fI p), some (fJ l2), none, some (fI i2), x5, none] [] w R) : ∀ (k : Nat) (j : Nat) (l : Int) (i : Int) (y1 : List Int) (T : Nat → Int) (x5 : Option Value) (u : List ik_E) (u66 : cE u 66 (.inr (10, (fI pl :: .ref 67 :: .ref 68 :: .ref 69 :: fI ((s : Nat) : Int) :: .ref 70 :: .ref 71 :: fI (f 7) :: fI (f 8) :: .ref 72 :: fI (f 10) :: fI (f 11) :: fI (f 12) :: fJ (f 13) :: fI (f 14) :: fI (f 15) :: fI (f 16) :: fI (f 17) :: .ref 73 :: .ref 74 :: .ref 75 :: .ref 76 :: .ref 77 :: .ref 78 :: fI ((mx_w cn go ch s p).length : Int) :: .ref 79 :: .ref 80 :: .ref 81 :: .ref 82 :: .ref 83 :: .ref 84 :: .ref 85 :: fJ (f 32) :: fJ (f 33) :: .ref 86 :: .ref 87 :: fI (f 36) :: .ref 88 :: .ref 89 :: .ref 90 :: .ref 91 :: .ref 92 :: .ref 93 :: [])))) (u67 : cE u 67 (.inl (.int, fA cn))) (n67 : cn.length = (12 : Nat)) (u68 : cE u 68 (.inl (.int, fA go))) (n68 : go.length = (48 : Nat)) (u69 : cE u 69 (.inl (.int, fA ch))) (n69 : ch.length = (48 : Nat)) (u77 : cE u 77 (.inl (.int, fA g1))) (n77 : g1.length = (5 : Nat)) (u78 : cE u 78 (.inl (.int, fA d1))) (n78 : d1.length = (5 : Nat)) (u79 : cE u 79 (.inl (.long, fL xs))) (n79 : xs.length = (12 : Nat)) (u80 : cE u 80 (.inl (.long, fL y1))) (n80 : y1.length = (12 : Nat)) (ul : u.length = (94 : Nat)) (F : hfr [66, 77, 78, 79, 80] h u) (hj : j ≤ (mx_w cn go ch s p).length) (hi : i = (j : Int)) (hl0 : (0 : Int) ≤ l ∧ l ≤ o p.toNat) (hlc : o p.toNat * mx_cs ((mx_w cn go ch s p).drop j) ≤ 100 * l) (hy : mf_is pl y1 T) (hT : mf_fn (fun x => mx_w cn go ch s x) o (pl - 1).toNat (p + 1).toNat = mf_ps ((mx_w cn go ch s p).drop j) (o p.toNat) l T) (w5 : ik_wl 94 x5 = true) (hk : ((mx_w cn go ch s p).length : Int) - (j : Int) < (k : Int)), ik_G 153 78 [some (.ref 66), some (fI p), some (fJ l), none, some (fI i), x5, none] [] u R := by
  intro k
  induction k with
  | zero => intro j l i y1 T x5 u u66 u67 n67 u68 n68 u69 n69 u77 n77 u78 n78 u79 n79 u80 n80 ul F hj hi hl0 hlc hy hT w5 hk; omega
  | succ k ih =>
    intro j l i y1 T x5 u u66 u67 n67 u68 n68 u69 n69 u77 n77 u78 n78 u79 n79 u80 n80 ul F hj hi hl0 hlc hy hT w5 hk
    have hok := q4 p (by omega) (by omega)
    obtain ⟨o1, o2, o3⟩ := hok
    have hx := q5 p.toNat (by omega)
    have hb := mf_gd_b q6 p.toNat
    refine ik_Wk 2 (pc_q := 81) (loc_q := [some (.ref 66), some (fI p), some (fJ l), none, some (fI i), x5, none]) (st_q := [.ref 66, fI i]) (h_q := u) (cl_q := 0) (sl_q := 0) rfl ?_
    refine fw_gf rfl rfl u66 rfl ?_
    refine fw_ic_ge rfl rfl (by omega) (by omega) (by omega) (by omega) (fun hc1 => ?_) (fun hc1 => ?_)
    · exact K u y1 l i x5 u66 u67 n67 u68 n68 u69 n69 u77 n77 u78 n78 u79 n79 u80 n80 ul F (by rw [hT, mf_ps_e (by omega)]; exact hy) w5
    · refine ik_Wk 2 (pc_q := 90) (loc_q := [some (.ref 66), some (fI p), some (fJ l), none, some (fI i), x5, none]) (st_q := [.ref 66, fI i]) (h_q := u) (cl_q := 0) (sl_q := 0) rfl ?_
      refine fw_gf rfl rfl u66 rfl ?_
      refine ik_Wk 1 (pc_q := 94) (loc_q := [some (.ref 66), some (fI p), some (fJ l), none, some (fI i), x5, none]) (st_q := [fI 1, fI ((mx_w cn go ch s p).length : Int), fI i]) (h_q := u) (cl_q := 0) (sl_q := 0) rfl ?_
      refine fw_sub rfl ?_
      have ej : i.toNat = 0 + j := by omega
      have hw := hat j (by omega)
      rw [← ej] at hw
      have hq := o3 j (by omega)
      have hln := mf_left_n (l := l) ⟨o1, o2, o3⟩ (Int.le_of_lt hlp) (show j < (mx_w cn go ch s p).length by omega) hlc
      refine fw_ic_ne rfl rfl (by omega) (by omega) (by omega) (by omega) (fun hc2 => ?_) (fun hc2 => ?_)
      · refine ik_Wk 4 (pc_q := 124) (loc_q := [some (.ref 66), some (fI p), some (fJ l), none, some (fI i), some (fJ l), none]) (st_q := [.ref 66]) (h_q := u) (cl_q := 0) (sl_q := 0) rfl ?_
        refine fw_gf rfl rfl u66 rfl ?_
        refine ik_Wk 1 (pc_q := 128) (loc_q := [some (.ref 66), some (fI p), some (fJ l), none, some (fI i), some (fJ l), none]) (st_q := [.ref 66, .ref 80]) (h_q := u) (cl_q := 0) (sl_q := 0) rfl ?_
        refine fw_gf rfl rfl u66 rfl ?_
        refine ik_Wk 1 (pc_q := 133) (loc_q := [some (.ref 66), some (fI p), some (fJ l), none, some (fI i), some (fJ l), none]) (st_q := [fI i, .ref 77, .ref 80]) (h_q := u) (cl_q := 0) (sl_q := 0) rfl ?_
        refine fw_ial rfl u77 (by omega) (by omega) (by omega) ?_
        refine ik_Wk 1 (pc_q := 135) (loc_q := [some (.ref 66), some (fI p), some (fJ l), none, some (fI i), some (fJ l), none]) (st_q := [fI (g1.getD i.toNat 0), .ref 80, fI (g1.getD i.toNat 0), .ref 80]) (h_q := u) (cl_q := 0) (sl_q := 0) rfl ?_
        refine fx_lal rfl u80 (by omega) (by omega) (by omega) ?_
        refine ik_Wk 1 (pc_q := 138) (loc_q := [some (.ref 66), some (fI p), some (fJ l), none, some (fI i), some (fJ l), none]) (st_q := [fJ l, fJ (y1.getD (g1.getD i.toNat 0).toNat 0), fI (g1.getD i.toNat 0), .ref 80]) (h_q := u) (cl_q := 0) (sl_q := 0) rfl ?_
        refine fw_ladd rfl ?_
        have hl3 : (y1.set (g1.getD i.toNat 0).toNat ((y1.getD (g1.getD i.toNat 0).toNat 0) + l)).length = 12 := (List.length_set ..).trans n80
        refine fx_las rfl u80 (by omega) (by omega) (by omega) ?_
        intro h_111 e_111 f_111 l_111
        have k_111 : cL h_111 := l_111.trans ul
        have fr_111 := hfr_wb F f_111 l_111 rfl
        clear l_111
        have g_111_66 := (f_111 66 (Nat.ne_of_beq_eq_false rfl)).trans u66
        have g_111_67 := (f_111 67 (Nat.ne_of_beq_eq_false rfl)).trans u67
        have g_111_68 := (f_111 68 (Nat.ne_of_beq_eq_false rfl)).trans u68
        have g_111_69 := (f_111 69 (Nat.ne_of_beq_eq_false rfl)).trans u69
        have g_111_77 := (f_111 77 (Nat.ne_of_beq_eq_false rfl)).trans u77
        have g_111_78 := (f_111 78 (Nat.ne_of_beq_eq_false rfl)).trans u78
        have g_111_79 := (f_111 79 (Nat.ne_of_beq_eq_false rfl)).trans u79
        have g_111_80 : cE h_111 80 (.inl (.long, fL (y1.set (g1.getD i.toNat 0).toNat ((y1.getD (g1.getD i.toNat 0).toNat 0) + l)))) := e_111
        refine ik_Wk 2 (pc_q := 143) (loc_q := [some (.ref 66), some (fI p), some (fJ l), none, some (fI i), some (fJ l), none]) (st_q := [fJ l, fJ l]) (h_q := h_111) (cl_q := 0) (sl_q := 0) rfl ?_
        refine fw_lsub rfl ?_
        refine ik_Wk 1 (pc_q := 145) (loc_q := [some (.ref 66), some (fI p), some (fJ (l - l)), none, some (fI i), some (fJ l), none]) (st_q := []) (h_q := h_111) (cl_q := 0) (sl_q := 0) rfl ?_
        refine fw_inc (a := i) (loc_q := [some (.ref 66), some (fI p), some (fJ (l - l)), none, some (fI (i + 1)), some (fJ l), none]) rfl rfl (Nat.le_of_ble_eq_true rfl) rfl ?_
        refine ik_Wk 1 (pc_q := 78) (loc_q := [some (.ref 66), some (fI p), some (fJ (l - l)), none, some (fI (i + 1)), some (fJ l), none]) (st_q := []) (h_q := h_111) (cl_q := 0) (sl_q := 0) rfl ?_
        have ejl : j + 1 = (mx_w cn go ch s p).length := by omega
        have hce := mx_cs_e (L := (mx_w cn go ch s p)) (j := j + 1) (by omega)
        exact ih (j + 1) (l - l) (i + 1) (y1.set (g1.getD i.toNat 0).toNat ((y1.getD (g1.getD i.toNat 0).toNat 0) + l)) (mf_up T ((mx_w cn go ch s p).getD j (0, 0)).1.toNat (T ((mx_w cn go ch s p).getD j (0, 0)).1.toNat + l)) (some (fJ l)) h_111 g_111_66 g_111_67 n67 g_111_68 n68 g_111_69 n69 g_111_77 n77 g_111_78 n78 g_111_79 n79 g_111_80 hl3 k_111 fr_111 (by omega) (by omega) (by omega) (by rw [hce]; omega) (mf_is_a hy hw.1 (by omega) (by omega) (by omega) rfl) (by rw [hT, mf_ps_d (by omega), if_pos ejl, mf_ps_e (by omega)]) rfl (by omega)
      · refine ik_Wk 1 (pc_q := 103) (loc_q := [some (.ref 66), some (fI p), some (fJ l), none, some (fI i), x5, none]) (st_q := [.ref 66]) (h_q := u) (cl_q := 0) (sl_q := 0) rfl ?_
        refine fw_gf rfl rfl u66 rfl ?_
        refine ik_Wk 1 (pc_q := 107) (loc_q := [some (.ref 66), some (fI p), some (fJ l), none, some (fI i), x5, none]) (st_q := [fI p, .ref 79]) (h_q := u) (cl_q := 0) (sl_q := 0) rfl ?_
        refine fx_lal rfl u79 (by omega) (by omega) (by omega) ?_
        refine ik_Wk 1 (pc_q := 109) (loc_q := [some (.ref 66), some (fI p), some (fJ l), none, some (fI i), x5, none]) (st_q := [.ref 66, fJ (xs.getD p.toNat 0)]) (h_q := u) (cl_q := 0) (sl_q := 0) rfl ?_
        refine fw_gf rfl rfl u66 rfl ?_
        refine ik_Wk 1 (pc_q := 114) (loc_q := [some (.ref 66), some (fI p), some (fJ l), none, some (fI i), x5, none]) (st_q := [fI i, .ref 78, fJ (xs.getD p.toNat 0)]) (h_q := u) (cl_q := 0) (sl_q := 0) rfl ?_
        refine fw_ial rfl u78 (by omega) (by omega) (by omega) ?_
        refine fw_i2l rfl (by omega) (by omega) ?_
        refine fw_lmul rfl ?_
        refine fw_l2 100 rfl rfl (by decide +kernel) ?_
        have hmb := mf_mul_b (x := xs.getD p.toNat 0) (c := d1.getD i.toNat 0) (by omega) (by omega) (by omega) (by omega)
        refine fx_ldiv rfl (by omega) (by omega) (by omega) (by omega) ?_
        refine ik_Wk 2 (pc_q := 124) (loc_q := [some (.ref 66), some (fI p), some (fJ l), none, some (fI i), some (fJ (((xs.getD p.toNat 0) * (d1.getD i.toNat 0)) / 100)), none]) (st_q := [.ref 66]) (h_q := u) (cl_q := 0) (sl_q := 0) rfl ?_
        refine fw_gf rfl rfl u66 rfl ?_
        refine ik_Wk 1 (pc_q := 128) (loc_q := [some (.ref 66), some (fI p), some (fJ l), none, some (fI i), some (fJ (((xs.getD p.toNat 0) * (d1.getD i.toNat 0)) / 100)), none]) (st_q := [.ref 66, .ref 80]) (h_q := u) (cl_q := 0) (sl_q := 0) rfl ?_
        refine fw_gf rfl rfl u66 rfl ?_
        refine ik_Wk 1 (pc_q := 133) (loc_q := [some (.ref 66), some (fI p), some (fJ l), none, some (fI i), some (fJ (((xs.getD p.toNat 0) * (d1.getD i.toNat 0)) / 100)), none]) (st_q := [fI i, .ref 77, .ref 80]) (h_q := u) (cl_q := 0) (sl_q := 0) rfl ?_
        refine fw_ial rfl u77 (by omega) (by omega) (by omega) ?_
        refine ik_Wk 1 (pc_q := 135) (loc_q := [some (.ref 66), some (fI p), some (fJ l), none, some (fI i), some (fJ (((xs.getD p.toNat 0) * (d1.getD i.toNat 0)) / 100)), none]) (st_q := [fI (g1.getD i.toNat 0), .ref 80, fI (g1.getD i.toNat 0), .ref 80]) (h_q := u) (cl_q := 0) (sl_q := 0) rfl ?_
        refine fx_lal rfl u80 (by omega) (by omega) (by omega) ?_
        refine ik_Wk 1 (pc_q := 138) (loc_q := [some (.ref 66), some (fI p), some (fJ l), none, some (fI i), some (fJ (((xs.getD p.toNat 0) * (d1.getD i.toNat 0)) / 100)), none]) (st_q := [fJ (((xs.getD p.toNat 0) * (d1.getD i.toNat 0)) / 100), fJ (y1.getD (g1.getD i.toNat 0).toNat 0), fI (g1.getD i.toNat 0), .ref 80]) (h_q := u) (cl_q := 0) (sl_q := 0) rfl ?_
        refine fw_ladd rfl ?_
        have hl4 : (y1.set (g1.getD i.toNat 0).toNat ((y1.getD (g1.getD i.toNat 0).toNat 0) + (((xs.getD p.toNat 0) * (d1.getD i.toNat 0)) / 100))).length = 12 := (List.length_set ..).trans n80
        refine fx_las rfl u80 (by omega) (by omega) (by omega) ?_
        intro h_112 e_112 f_112 l_112
        have k_112 : cL h_112 := l_112.trans ul
        have fr_112 := hfr_wb F f_112 l_112 rfl
        clear l_112
        have g_112_66 := (f_112 66 (Nat.ne_of_beq_eq_false rfl)).trans u66
        have g_112_67 := (f_112 67 (Nat.ne_of_beq_eq_false rfl)).trans u67
        have g_112_68 := (f_112 68 (Nat.ne_of_beq_eq_false rfl)).trans u68
        have g_112_69 := (f_112 69 (Nat.ne_of_beq_eq_false rfl)).trans u69
        have g_112_77 := (f_112 77 (Nat.ne_of_beq_eq_false rfl)).trans u77
        have g_112_78 := (f_112 78 (Nat.ne_of_beq_eq_false rfl)).trans u78
        have g_112_79 := (f_112 79 (Nat.ne_of_beq_eq_false rfl)).trans u79
        have g_112_80 : cE h_112 80 (.inl (.long, fL (y1.set (g1.getD i.toNat 0).toNat ((y1.getD (g1.getD i.toNat 0).toNat 0) + (((xs.getD p.toNat 0) * (d1.getD i.toNat 0)) / 100))))) := e_112
        refine ik_Wk 2 (pc_q := 143) (loc_q := [some (.ref 66), some (fI p), some (fJ l), none, some (fI i), some (fJ (((xs.getD p.toNat 0) * (d1.getD i.toNat 0)) / 100)), none]) (st_q := [fJ (((xs.getD p.toNat 0) * (d1.getD i.toNat 0)) / 100), fJ l]) (h_q := h_112) (cl_q := 0) (sl_q := 0) rfl ?_
        refine fw_lsub rfl ?_
        refine ik_Wk 1 (pc_q := 145) (loc_q := [some (.ref 66), some (fI p), some (fJ (l - (((xs.getD p.toNat 0) * (d1.getD i.toNat 0)) / 100))), none, some (fI i), some (fJ (((xs.getD p.toNat 0) * (d1.getD i.toNat 0)) / 100)), none]) (st_q := []) (h_q := h_112) (cl_q := 0) (sl_q := 0) rfl ?_
        refine fw_inc (a := i) (loc_q := [some (.ref 66), some (fI p), some (fJ (l - (((xs.getD p.toNat 0) * (d1.getD i.toNat 0)) / 100))), none, some (fI (i + 1)), some (fJ (((xs.getD p.toNat 0) * (d1.getD i.toNat 0)) / 100)), none]) rfl rfl (Nat.le_of_ble_eq_true rfl) rfl ?_
        refine ik_Wk 1 (pc_q := 78) (loc_q := [some (.ref 66), some (fI p), some (fJ (l - (((xs.getD p.toNat 0) * (d1.getD i.toNat 0)) / 100))), none, some (fI (i + 1)), some (fJ (((xs.getD p.toNat 0) * (d1.getD i.toNat 0)) / 100)), none]) (st_q := []) (h_q := h_112) (cl_q := 0) (sl_q := 0) rfl ?_
        have ejl : ¬ j + 1 = (mx_w cn go ch s p).length := by omega
        have epx : xs.getD p.toNat 0 * d1.getD i.toNat 0 / 100 = o p.toNat * ((mx_w cn go ch s p).getD j (0, 0)).2 / 100 := by rw [hx, hw.2]
        exact ih (j + 1) (l - (((xs.getD p.toNat 0) * (d1.getD i.toNat 0)) / 100)) (i + 1) (y1.set (g1.getD i.toNat 0).toNat ((y1.getD (g1.getD i.toNat 0).toNat 0) + (((xs.getD p.toNat 0) * (d1.getD i.toNat 0)) / 100))) (mf_up T ((mx_w cn go ch s p).getD j (0, 0)).1.toNat (T ((mx_w cn go ch s p).getD j (0, 0)).1.toNat + (o p.toNat * ((mx_w cn go ch s p).getD j (0, 0)).2 / 100))) (some (fJ (((xs.getD p.toNat 0) * (d1.getD i.toNat 0)) / 100))) h_112 g_112_66 g_112_67 n67 g_112_68 n68 g_112_69 n69 g_112_77 n77 g_112_78 n78 g_112_79 n79 g_112_80 hl4 k_112 fr_112 (by omega) (by omega) (by rw [epx]; omega) (by rw [epx]; exact hln.1) (mf_is_a hy hw.1 (by omega) (by omega) (by omega) epx) (by rw [hT, mf_ps_d (by omega), if_neg ejl, epx]) rfl (by omega)

theorem cr_flowC {h : List ik_E} {pl : Int} {f : Nat → Int} {s : Nat} {cn : List Int} {go : List Int} {ch : List Int} {gt : List Int} {gd : List Int} {xs : List Int} {ys : List Int} {o : Nat → Int} (q0 : 1 ≤ pl ∧ pl ≤ 12) (q1 : s < 4096) (q2 : ∀ x : Int, (0 : Int) ≤ x → x < pl - 1 → 0 ≤ cn.getD x.toNat 0 ∧ cn.getD x.toNat 0 ≤ 4) (q3 : ∀ x : Int, (0 : Int) ≤ x → x < pl - 1 → 1 ≤ cn.getD x.toNat 0 ∧ ∀ j : Int, 4 * x ≤ j → j < 4 * x + cn.getD x.toNat 0 → 0 ≤ ch.getD j.toNat 0 ∧ ch.getD j.toNat 0 ≤ 100) (q4 : ∀ x : Int, (0 : Int) ≤ x → x < pl - 1 → mx_ok pl (mx_w cn go ch s x)) (q5 : mf_is pl xs o) (q6 : mf_gd pl o) {w1 : Int} {g1 d1 y1 : List Int} (hy : mf_is pl y1 (mf_fn (fun x => mx_w cn go ch s x) o (pl - 1).toNat (pl - 1).toNat)) : ∀ (k : Nat) (p : Int) (x1 : List Int) (x2 : Option Value) (x4 : Option Value) (x5 : Option Value) (u : List ik_E) (u66 : cE u 66 (.inr (10, (fI pl :: .ref 67 :: .ref 68 :: .ref 69 :: fI ((s : Nat) : Int) :: .ref 70 :: .ref 71 :: fI (f 7) :: fI (f 8) :: .ref 72 :: fI (f 10) :: fI (f 11) :: fI (f 12) :: fJ (f 13) :: fI (f 14) :: fI (f 15) :: fI (f 16) :: fI (f 17) :: .ref 73 :: .ref 74 :: .ref 75 :: .ref 76 :: .ref 77 :: .ref 78 :: fI w1 :: .ref 79 :: .ref 80 :: .ref 81 :: .ref 82 :: .ref 83 :: .ref 84 :: .ref 85 :: fJ (f 32) :: fJ (f 33) :: .ref 86 :: .ref 87 :: fI (f 36) :: .ref 88 :: .ref 89 :: .ref 90 :: .ref 91 :: .ref 92 :: .ref 93 :: [])))) (u67 : cE u 67 (.inl (.int, fA cn))) (n67 : cn.length = (12 : Nat)) (u68 : cE u 68 (.inl (.int, fA go))) (n68 : go.length = (48 : Nat)) (u69 : cE u 69 (.inl (.int, fA ch))) (n69 : ch.length = (48 : Nat)) (u77 : cE u 77 (.inl (.int, fA g1))) (n77 : g1.length = (5 : Nat)) (u78 : cE u 78 (.inl (.int, fA d1))) (n78 : d1.length = (5 : Nat)) (u79 : cE u 79 (.inl (.long, fL x1))) (n79 : x1.length = (12 : Nat)) (u80 : cE u 80 (.inl (.long, fL y1))) (n80 : y1.length = (12 : Nat)) (ul : u.length = (94 : Nat)) (F : hfr [66, 77, 78, 79, 80] h u) (hp : (0 : Int) ≤ p ∧ p ≤ pl) (hx1 : mf_is p x1 (mf_fn (fun x => mx_w cn go ch s x) o (pl - 1).toNat (pl - 1).toNat)) (hk : pl - p < (k : Int)), ik_G 153 159 [some (.ref 66), some (fI p), x2, none, x4, x5, none] [] u (fun rv h_q => ∃ (w' : Int) (gt' : List Int) (gd' : List Int) (xs' : List Int) (ys' : List Int), rv = [] ∧ cE h_q 66 (.inr (10, (fI pl :: .ref 67 :: .ref 68 :: .ref 69 :: fI ((s : Nat) : Int) :: .ref 70 :: .ref 71 :: fI (f 7) :: fI (f 8) :: .ref 72 :: fI (f 10) :: fI (f 11) :: fI (f 12) :: fJ (f 13) :: fI (f 14) :: fI (f 15) :: fI (f 16) :: fI (f 17) :: .ref 73 :: .ref 74 :: .ref 75 :: .ref 76 :: .ref 77 :: .ref 78 :: fI w' :: .ref 79 :: .ref 80 :: .ref 81 :: .ref 82 :: .ref 83 :: .ref 84 :: .ref 85 :: fJ (f 32) :: fJ (f 33) :: .ref 86 :: .ref 87 :: fI (f 36) :: .ref 88 :: .ref 89 :: .ref 90 :: .ref 91 :: .ref 92 :: .ref 93 :: []))) ∧ cE h_q 77 (.inl (.int, fA gt')) ∧ gt'.length = (5 : Nat) ∧ cE h_q 78 (.inl (.int, fA gd')) ∧ gd'.length = (5 : Nat) ∧ cE h_q 79 (.inl (.long, fL xs')) ∧ xs'.length = (12 : Nat) ∧ cE h_q 80 (.inl (.long, fL ys')) ∧ ys'.length = (12 : Nat) ∧ (mf_is pl xs' (mf_fl (fun x => mx_w cn go ch s x) (pl - 1) o)) ∧ hfr [66, 77, 78, 79, 80] h h_q) := by
  intro k
  induction k with
  | zero => intro p x1 x2 x4 x5 u u66 u67 n67 u68 n68 u69 n69 u77 n77 u78 n78 u79 n79 u80 n80 ul F hp hx1 hk; omega
  | succ k ih =>
    intro p x1 x2 x4 x5 u u66 u67 n67 u68 n68 u69 n69 u77 n77 u78 n78 u79 n79 u80 n80 ul F hp hx1 hk
    refine ik_Wk 2 (pc_q := 161) (loc_q := [some (.ref 66), some (fI p), x2, none, x4, x5, none]) (st_q := [.ref 66, fI p]) (h_q := u) (cl_q := 0) (sl_q := 0) rfl ?_
    refine fw_gf rfl rfl u66 rfl ?_
    refine fw_ic_ge rfl rfl (by omega) (by omega) (by omega) (by omega) (fun hc1 => ?_) (fun hc1 => ?_)
    · have ep : p = pl := by omega
      rw [ep] at hx1
      exact ik_Wret rfl rfl ⟨_, _, rfl, rfl, rfl, rfl, ⟨w1, g1, d1, x1, y1, rfl, u66, u77, n77, u78, n78, u79, n79, u80, n80, hx1, F⟩⟩
    · refine ik_Wk 1 (pc_q := 168) (loc_q := [some (.ref 66), some (fI p), x2, none, x4, x5, none]) (st_q := [.ref 66]) (h_q := u) (cl_q := 0) (sl_q := 0) rfl ?_
      refine fw_gf rfl rfl u66 rfl ?_
      refine ik_Wk 2 (pc_q := 173) (loc_q := [some (.ref 66), some (fI p), x2, none, x4, x5, none]) (st_q := [.ref 66, fI p, .ref 79]) (h_q := u) (cl_q := 0) (sl_q := 0) rfl ?_
      refine fw_gf rfl rfl u66 rfl ?_
      refine ik_Wk 1 (pc_q := 177) (loc_q := [some (.ref 66), some (fI p), x2, none, x4, x5, none]) (st_q := [fI p, .ref 80, fI p, .ref 79]) (h_q := u) (cl_q := 0) (sl_q := 0) rfl ?_
      refine fx_lal rfl u80 (by omega) (by omega) (by omega) ?_
      have hl2 : (x1.set p.toNat (y1.getD p.toNat 0)).length = 12 := (List.length_set ..).trans n79
      refine fx_las rfl u79 (by omega) (by omega) (by omega) ?_
      intro h_113 e_113 f_113 l_113
      have k_113 : cL h_113 := l_113.trans ul
      have fr_113 := hfr_wb F f_113 l_113 rfl
      clear l_113
      have g_113_66 := (f_113 66 (Nat.ne_of_beq_eq_false rfl)).trans u66
      have g_113_67 := (f_113 67 (Nat.ne_of_beq_eq_false rfl)).trans u67
      have g_113_68 := (f_113 68 (Nat.ne_of_beq_eq_false rfl)).trans u68
      have g_113_69 := (f_113 69 (Nat.ne_of_beq_eq_false rfl)).trans u69
      have g_113_77 := (f_113 77 (Nat.ne_of_beq_eq_false rfl)).trans u77
      have g_113_78 := (f_113 78 (Nat.ne_of_beq_eq_false rfl)).trans u78
      have g_113_80 := (f_113 80 (Nat.ne_of_beq_eq_false rfl)).trans u80
      have g_113_79 : cE h_113 79 (.inl (.long, fL (x1.set p.toNat (y1.getD p.toNat 0)))) := e_113
      refine fw_inc (a := p) (loc_q := [some (.ref 66), some (fI (p + 1)), x2, none, x4, x5, none]) rfl rfl (Nat.le_of_ble_eq_true rfl) rfl ?_
      refine ik_Wk 1 (pc_q := 159) (loc_q := [some (.ref 66), some (fI (p + 1)), x2, none, x4, x5, none]) (st_q := []) (h_q := h_113) (cl_q := 0) (sl_q := 0) rfl ?_
      exact ih  (p + 1) (x1.set p.toNat (y1.getD p.toNat 0)) x2 x4 x5 h_113 g_113_66 g_113_67 n67 g_113_68 n68 g_113_69 n69 g_113_77 n77 g_113_78 n78 g_113_79 hl2 g_113_80 n80 k_113 fr_113 (by omega) (mf_is_x hx1 (by omega) (by omega) (hy p.toNat (by omega))) (by omega)

theorem cr_flowO {h : List ik_E} {pl : Int} {f : Nat → Int} {s : Nat} {cn : List Int} {go : List Int} {ch : List Int} {gt : List Int} {gd : List Int} {xs : List Int} {ys : List Int} {o : Nat → Int} (q0 : 1 ≤ pl ∧ pl ≤ 12) (q1 : s < 4096) (q2 : ∀ x : Int, (0 : Int) ≤ x → x < pl - 1 → 0 ≤ cn.getD x.toNat 0 ∧ cn.getD x.toNat 0 ≤ 4) (q3 : ∀ x : Int, (0 : Int) ≤ x → x < pl - 1 → 1 ≤ cn.getD x.toNat 0 ∧ ∀ j : Int, 4 * x ≤ j → j < 4 * x + cn.getD x.toNat 0 → 0 ≤ ch.getD j.toNat 0 ∧ ch.getD j.toNat 0 ≤ 100) (q4 : ∀ x : Int, (0 : Int) ≤ x → x < pl - 1 → mx_ok pl (mx_w cn go ch s x)) (q5 : mf_is pl xs o) (q6 : mf_gd pl o)  : ∀ (k : Nat) (p : Int) (w1 : Int) (g1 : List Int) (d1 : List Int) (y1 : List Int) (x2 : Option Value) (x4 : Option Value) (x5 : Option Value) (u : List ik_E) (u66 : cE u 66 (.inr (10, (fI pl :: .ref 67 :: .ref 68 :: .ref 69 :: fI ((s : Nat) : Int) :: .ref 70 :: .ref 71 :: fI (f 7) :: fI (f 8) :: .ref 72 :: fI (f 10) :: fI (f 11) :: fI (f 12) :: fJ (f 13) :: fI (f 14) :: fI (f 15) :: fI (f 16) :: fI (f 17) :: .ref 73 :: .ref 74 :: .ref 75 :: .ref 76 :: .ref 77 :: .ref 78 :: fI w1 :: .ref 79 :: .ref 80 :: .ref 81 :: .ref 82 :: .ref 83 :: .ref 84 :: .ref 85 :: fJ (f 32) :: fJ (f 33) :: .ref 86 :: .ref 87 :: fI (f 36) :: .ref 88 :: .ref 89 :: .ref 90 :: .ref 91 :: .ref 92 :: .ref 93 :: [])))) (u67 : cE u 67 (.inl (.int, fA cn))) (n67 : cn.length = (12 : Nat)) (u68 : cE u 68 (.inl (.int, fA go))) (n68 : go.length = (48 : Nat)) (u69 : cE u 69 (.inl (.int, fA ch))) (n69 : ch.length = (48 : Nat)) (u77 : cE u 77 (.inl (.int, fA g1))) (n77 : g1.length = (5 : Nat)) (u78 : cE u 78 (.inl (.int, fA d1))) (n78 : d1.length = (5 : Nat)) (u79 : cE u 79 (.inl (.long, fL xs))) (n79 : xs.length = (12 : Nat)) (u80 : cE u 80 (.inl (.long, fL y1))) (n80 : y1.length = (12 : Nat)) (ul : u.length = (94 : Nat)) (F : hfr [66, 77, 78, 79, 80] h u) (hp : (0 : Int) ≤ p ∧ p ≤ pl - 1) (hy : mf_is pl y1 (mf_fn (fun x => mx_w cn go ch s x) o (pl - 1).toNat p.toNat)) (v2 : ik_wl 94 x2 = true) (v4 : ik_wl 94 x4 = true) (v5 : ik_wl 94 x5 = true) (hk : pl - 1 - p < (k : Int)), ik_G 153 42 [some (.ref 66), some (fI p), x2, none, x4, x5, none] [] u (fun rv h_q => ∃ (w' : Int) (gt' : List Int) (gd' : List Int) (xs' : List Int) (ys' : List Int), rv = [] ∧ cE h_q 66 (.inr (10, (fI pl :: .ref 67 :: .ref 68 :: .ref 69 :: fI ((s : Nat) : Int) :: .ref 70 :: .ref 71 :: fI (f 7) :: fI (f 8) :: .ref 72 :: fI (f 10) :: fI (f 11) :: fI (f 12) :: fJ (f 13) :: fI (f 14) :: fI (f 15) :: fI (f 16) :: fI (f 17) :: .ref 73 :: .ref 74 :: .ref 75 :: .ref 76 :: .ref 77 :: .ref 78 :: fI w' :: .ref 79 :: .ref 80 :: .ref 81 :: .ref 82 :: .ref 83 :: .ref 84 :: .ref 85 :: fJ (f 32) :: fJ (f 33) :: .ref 86 :: .ref 87 :: fI (f 36) :: .ref 88 :: .ref 89 :: .ref 90 :: .ref 91 :: .ref 92 :: .ref 93 :: []))) ∧ cE h_q 77 (.inl (.int, fA gt')) ∧ gt'.length = (5 : Nat) ∧ cE h_q 78 (.inl (.int, fA gd')) ∧ gd'.length = (5 : Nat) ∧ cE h_q 79 (.inl (.long, fL xs')) ∧ xs'.length = (12 : Nat) ∧ cE h_q 80 (.inl (.long, fL ys')) ∧ ys'.length = (12 : Nat) ∧ (mf_is pl xs' (mf_fl (fun x => mx_w cn go ch s x) (pl - 1) o)) ∧ hfr [66, 77, 78, 79, 80] h h_q) := by
  intro k
  induction k with
  | zero => intro p w1 g1 d1 y1 x2 x4 x5 u u66 u67 n67 u68 n68 u69 n69 u77 n77 u78 n78 u79 n79 u80 n80 ul F hp hy v2 v4 v5 hk; omega
  | succ k ih =>
    intro p w1 g1 d1 y1 x2 x4 x5 u u66 u67 n67 u68 n68 u69 n69 u77 n77 u78 n78 u79 n79 u80 n80 ul F hp hy v2 v4 v5 hk
    have hx : p < pl - 1 → xs.getD p.toNat 0 = o p.toNat := fun q => q5 p.toNat (by omega)
    have hb := mf_gd_b q6 p.toNat
    refine ik_Wk 2 (pc_q := 44) (loc_q := [some (.ref 66), some (fI p), x2, none, x4, x5, none]) (st_q := [.ref 66, fI p]) (h_q := u) (cl_q := 0) (sl_q := 0) rfl ?_
    refine fw_gf rfl rfl u66 rfl ?_
    refine ik_Wk 1 (pc_q := 48) (loc_q := [some (.ref 66), some (fI p), x2, none, x4, x5, none]) (st_q := [fI 1, fI pl, fI p]) (h_q := u) (cl_q := 0) (sl_q := 0) rfl ?_
    refine fw_sub rfl ?_
    refine fw_ic_ge rfl rfl (by omega) (by omega) (by omega) (by omega) (fun hc1 => ?_) (fun hc1 => ?_)
    · refine ik_Wk 2 (pc_q := 159) (loc_q := [some (.ref 66), some (fI 0), x2, none, x4, x5, none]) (st_q := []) (h_q := u) (cl_q := 0) (sl_q := 0) rfl ?_
      have ep : p = pl - 1 := by omega
      rw [ep] at hy
      exact cr_flowC (pl := pl) (f := f) (s := s) (cn := cn) (go := go) (ch := ch) (gt := gt) (gd := gd) (xs := xs) (ys := ys) (o := o) q0 q1 q2 q3 q4 q5 q6 hy (pl.toNat + 1) 0 xs x2 x4 x5 u u66 u67 n67 u68 n68 u69 n69 u77 n77 u78 n78 u79 n79 u80 n80 ul F (by omega) (mf_is_0 (by omega)) (by omega)
    · refine ik_Wk 1 (pc_q := 53) (loc_q := [some (.ref 66), some (fI p), x2, none, x4, x5, none]) (st_q := [.ref 66]) (h_q := u) (cl_q := 0) (sl_q := 0) rfl ?_
      refine fw_gf rfl rfl u66 rfl ?_
      refine ik_Wk 1 (pc_q := 57) (loc_q := [some (.ref 66), some (fI p), x2, none, x4, x5, none]) (st_q := [fI p, .ref 79]) (h_q := u) (cl_q := 0) (sl_q := 0) rfl ?_
      refine fx_lal rfl u79 (by omega) (by omega) (by omega) ?_
      refine fw_lc (z := 0) rfl (by decide +kernel) ?_
      replace hx := hx (by omega)
      refine fw_lcmp_le rfl rfl rfl (by omega) (by omega) (by omega) (by omega) (fun hc2 => ?_) (fun hc2 => ?_)
      · refine fw_inc (a := p) (loc_q := [some (.ref 66), some (fI (p + 1)), x2, none, x4, x5, none]) rfl rfl (Nat.le_of_ble_eq_true rfl) rfl ?_
        refine ik_Wk 1 (pc_q := 42) (loc_q := [some (.ref 66), some (fI (p + 1)), x2, none, x4, x5, none]) (st_q := []) (h_q := u) (cl_q := 0) (sl_q := 0) rfl ?_
        exact ih  (p + 1) w1 g1 d1 y1 x2 x4 x5 u u66 u67 n67 u68 n68 u69 n69 u77 n77 u78 n78 u79 n79 u80 n80 ul F (by omega) (by rw [mf_fn_s (by omega), if_neg (by omega)]; exact hy) v2 v4 v5 (by omega)
      · refine ik_Wk 2 (pc_q := 65) (loc_q := [some (.ref 66), some (fI p), x2, none, x4, x5, none]) (st_q := [fI p, .ref 66]) (h_q := u) (cl_q := 0) (sl_q := 0) rfl ?_
        refine fw_call 152 2 0 [.ref 66, fI p] [] rfl rfl rfl (Nat.le_of_ble_eq_true rfl) rfl rfl (fw_rec ul (fw_ftx rfl wv_n (wl_c rfl (wl_c rfl (wl_c v2 (wl_c rfl (wl_c v4 (wl_c v5 (wl_c rfl wl_n)))))))) u66 rfl (by decide +kernel)) (cr_list (p := p) (f := fun j => ((pl :: 0 :: 0 :: 0 :: 0 :: 0 :: 0 :: f 7 :: f 8 :: 0 :: f 10 :: f 11 :: f 12 :: f 13 :: f 14 :: f 15 :: f 16 :: f 17 :: 0 :: 0 :: 0 :: 0 :: 0 :: 0 :: w1 :: 0 :: 0 :: 0 :: 0 :: 0 :: 0 :: 0 :: f 32 :: f 33 :: 0 :: 0 :: f 36 :: 0 :: 0 :: 0 :: 0 :: 0 :: 0 :: []) : List Int).getD j 0) (s := s) (cn := cn) (go := go) (ch := ch) (gt := g1) (gd := d1) (by omega) (by omega) (by omega) (q2 p (by omega) (by omega)) (q3 p (by omega) (by omega)).2 (q3 p (by omega) (by omega)).1 u66 u67 n67 u68 n68 u69 n69 u77 n77 u78 n78 ul) ?_
        rintro _ h_114 ⟨gt'_114, gd'_114, rfl, e_114_66, e_114_77, m_114_77, e_114_78, m_114_78, p_114_0, F_114⟩
        have k_114 : cL h_114 := F_114.1.trans ul
        have fr_114 := hfr_cb F F_114 rfl
        have g_114_67 := (hfr_g F_114 67 rfl).trans u67
        have g_114_68 := (hfr_g F_114 68 rfl).trans u68
        have g_114_69 := (hfr_g F_114 69 rfl).trans u69
        have g_114_79 := (hfr_g F_114 79 rfl).trans u79
        have g_114_80 := (hfr_g F_114 80 rfl).trans u80
        have g_114_66 : cE h_114 66 (.inr (10, (fI pl :: .ref 67 :: .ref 68 :: .ref 69 :: fI ((s : Nat) : Int) :: .ref 70 :: .ref 71 :: fI (f 7) :: fI (f 8) :: .ref 72 :: fI (f 10) :: fI (f 11) :: fI (f 12) :: fJ (f 13) :: fI (f 14) :: fI (f 15) :: fI (f 16) :: fI (f 17) :: .ref 73 :: .ref 74 :: .ref 75 :: .ref 76 :: .ref 77 :: .ref 78 :: fI ((mx_w cn go ch s p).length : Int) :: .ref 79 :: .ref 80 :: .ref 81 :: .ref 82 :: .ref 83 :: .ref 84 :: .ref 85 :: fJ (f 32) :: fJ (f 33) :: .ref 86 :: .ref 87 :: fI (f 36) :: .ref 88 :: .ref 89 :: .ref 90 :: .ref 91 :: .ref 92 :: .ref 93 :: []))) := e_114_66
        have g_114_77 : cE h_114 77 (.inl (.int, fA gt'_114)) := e_114_77
        have g_114_78 : cE h_114 78 (.inl (.int, fA gd'_114)) := e_114_78
        refine ik_Wk 0 (pc_q := 68) (loc_q := [some (.ref 66), some (fI p), x2, none, x4, x5, none]) (st_q := []) (h_q := h_114) (cl_q := 0) (sl_q := 0) rfl ?_
        refine ik_Wk 1 (pc_q := 69) (loc_q := [some (.ref 66), some (fI p), x2, none, x4, x5, none]) (st_q := [.ref 66]) (h_q := h_114) (cl_q := 0) (sl_q := 0) rfl ?_
        refine fw_gf rfl rfl g_114_66 rfl ?_
        refine ik_Wk 1 (pc_q := 73) (loc_q := [some (.ref 66), some (fI p), x2, none, x4, x5, none]) (st_q := [fI p, .ref 79]) (h_q := h_114) (cl_q := 0) (sl_q := 0) rfl ?_
        refine fx_lal rfl g_114_79 (by omega) (by omega) (by omega) ?_
        refine ik_Wk 3 (pc_q := 78) (loc_q := [some (.ref 66), some (fI p), some (fJ (xs.getD p.toNat 0)), none, some (fI 0), x5, none]) (st_q := []) (h_q := h_114) (cl_q := 0) (sl_q := 0) rfl ?_
        have hok := q4 p (by omega) (by omega)
        have hfs := mf_fn_s (W := (fun x => mx_w cn go ch s x)) (o := o) (br := (pl - 1).toNat) (p := p) (by omega)
        have hlp : 0 < o p.toNat := by omega
        rw [if_pos hlp] at hfs
        refine cr_flowI (pl := pl) (f := f) (s := s) (cn := cn) (go := go) (ch := ch) (gt := gt) (gd := gd) (xs := xs) (ys := ys) (o := o) q0 q1 q2 q3 q4 q5 q6 p (by omega) hlp gt'_114 gd'_114 p_114_0 (R := (fun rv h_q => ∃ (w' : Int) (gt' : List Int) (gd' : List Int) (xs' : List Int) (ys' : List Int), rv = [] ∧ cE h_q 66 (.inr (10, (fI pl :: .ref 67 :: .ref 68 :: .ref 69 :: fI ((s : Nat) : Int) :: .ref 70 :: .ref 71 :: fI (f 7) :: fI (f 8) :: .ref 72 :: fI (f 10) :: fI (f 11) :: fI (f 12) :: fJ (f 13) :: fI (f 14) :: fI (f 15) :: fI (f 16) :: fI (f 17) :: .ref 73 :: .ref 74 :: .ref 75 :: .ref 76 :: .ref 77 :: .ref 78 :: fI w' :: .ref 79 :: .ref 80 :: .ref 81 :: .ref 82 :: .ref 83 :: .ref 84 :: .ref 85 :: fJ (f 32) :: fJ (f 33) :: .ref 86 :: .ref 87 :: fI (f 36) :: .ref 88 :: .ref 89 :: .ref 90 :: .ref 91 :: .ref 92 :: .ref 93 :: []))) ∧ cE h_q 77 (.inl (.int, fA gt')) ∧ gt'.length = 5 ∧ cE h_q 78 (.inl (.int, fA gd')) ∧ gd'.length = 5 ∧ cE h_q 79 (.inl (.long, fL xs')) ∧ xs'.length = 12 ∧ cE h_q 80 (.inl (.long, fL ys')) ∧ ys'.length = 12 ∧ (mf_is pl xs' (mf_fl (fun x => mx_w cn go ch s x) (pl - 1) o)) ∧ hfr [66, 77, 78, 79, 80] h h_q)) (fun h_115 y2_115 l2_115 i2_115 x5_115 g_115_66 g_115_67 m_115_67 g_115_68 m_115_68 g_115_69 m_115_69 g_115_77 m_115_77 g_115_78 m_115_78 g_115_79 m_115_79 g_115_80 m_115_80 k_115 fr_115 hy2_115 w5_115 => ?_) ((mx_w cn go ch s p).length + 1) 0 (xs.getD p.toNat 0) 0 y1 (mf_fn (fun x => mx_w cn go ch s x) o (pl - 1).toNat p.toNat) x5 h_114 g_114_66 g_114_67 n67 g_114_68 n68 g_114_69 n69 g_114_77 m_114_77 g_114_78 m_114_78 g_114_79 n79 g_114_80 n80 k_114 fr_114 (by omega) rfl (by omega) (by rw [List.drop_zero, hok.2.1, hx]; omega) hy (by rw [hfs, hx, List.drop_zero]) v5 (by omega)
        refine fw_inc (a := p) (loc_q := [some (.ref 66), some (fI (p + 1)), some (fJ l2_115), none, some (fI i2_115), x5_115, none]) rfl rfl (Nat.le_of_ble_eq_true rfl) rfl ?_
        refine ik_Wk 1 (pc_q := 42) (loc_q := [some (.ref 66), some (fI (p + 1)), some (fJ l2_115), none, some (fI i2_115), x5_115, none]) (st_q := []) (h_q := h_115) (cl_q := 0) (sl_q := 0) rfl ?_
        exact ih  (p + 1) ((mx_w cn go ch s p).length : Int) gt'_114 gd'_114 y2_115 (some (fJ l2_115)) (some (fI i2_115)) x5_115 h_115 g_115_66 g_115_67 m_115_67 g_115_68 m_115_68 g_115_69 m_115_69 g_115_77 m_115_77 g_115_78 m_115_78 g_115_79 m_115_79 g_115_80 m_115_80 k_115 fr_115 (by omega) hy2_115 rfl rfl w5_115 (by omega)

theorem cr_flowZ {h : List ik_E} {pl : Int} {f : Nat → Int} {s : Nat} {cn : List Int} {go : List Int} {ch : List Int} {gt : List Int} {gd : List Int} {xs : List Int} {ys : List Int} {o : Nat → Int} (q0 : 1 ≤ pl ∧ pl ≤ 12) (q1 : s < 4096) (q2 : ∀ x : Int, (0 : Int) ≤ x → x < pl - 1 → 0 ≤ cn.getD x.toNat 0 ∧ cn.getD x.toNat 0 ≤ 4) (q3 : ∀ x : Int, (0 : Int) ≤ x → x < pl - 1 → 1 ≤ cn.getD x.toNat 0 ∧ ∀ j : Int, 4 * x ≤ j → j < 4 * x + cn.getD x.toNat 0 → 0 ≤ ch.getD j.toNat 0 ∧ ch.getD j.toNat 0 ≤ 100) (q4 : ∀ x : Int, (0 : Int) ≤ x → x < pl - 1 → mx_ok pl (mx_w cn go ch s x)) (q5 : mf_is pl xs o) (q6 : mf_gd pl o)  : ∀ (k : Nat) (p : Int) (y1 : List Int) (u : List ik_E) (u66 : cE u 66 (.inr (10, (fI pl :: .ref 67 :: .ref 68 :: .ref 69 :: fI ((s : Nat) : Int) :: .ref 70 :: .ref 71 :: fI (f 7) :: fI (f 8) :: .ref 72 :: fI (f 10) :: fI (f 11) :: fI (f 12) :: fJ (f 13) :: fI (f 14) :: fI (f 15) :: fI (f 16) :: fI (f 17) :: .ref 73 :: .ref 74 :: .ref 75 :: .ref 76 :: .ref 77 :: .ref 78 :: fI (f 24) :: .ref 79 :: .ref 80 :: .ref 81 :: .ref 82 :: .ref 83 :: .ref 84 :: .ref 85 :: fJ (f 32) :: fJ (f 33) :: .ref 86 :: .ref 87 :: fI (f 36) :: .ref 88 :: .ref 89 :: .ref 90 :: .ref 91 :: .ref 92 :: .ref 93 :: [])))) (u67 : cE u 67 (.inl (.int, fA cn))) (n67 : cn.length = (12 : Nat)) (u68 : cE u 68 (.inl (.int, fA go))) (n68 : go.length = (48 : Nat)) (u69 : cE u 69 (.inl (.int, fA ch))) (n69 : ch.length = (48 : Nat)) (u77 : cE u 77 (.inl (.int, fA gt))) (n77 : gt.length = (5 : Nat)) (u78 : cE u 78 (.inl (.int, fA gd))) (n78 : gd.length = (5 : Nat)) (u79 : cE u 79 (.inl (.long, fL xs))) (n79 : xs.length = (12 : Nat)) (u80 : cE u 80 (.inl (.long, fL y1))) (n80 : y1.length = (12 : Nat)) (ul : u.length = (94 : Nat)) (F : hfr [66, 77, 78, 79, 80] h u) (hp : (0 : Int) ≤ p ∧ p ≤ pl) (hy : mf_is p y1 (mf_fn (fun x => mx_w cn go ch s x) o (pl - 1).toNat 0)) (hk : pl - p < (k : Int)), ik_G 153 2 [some (.ref 66), some (fI p), none, none, none, none, none] [] u (fun rv h_q => ∃ (w' : Int) (gt' : List Int) (gd' : List Int) (xs' : List Int) (ys' : List Int), rv = [] ∧ cE h_q 66 (.inr (10, (fI pl :: .ref 67 :: .ref 68 :: .ref 69 :: fI ((s : Nat) : Int) :: .ref 70 :: .ref 71 :: fI (f 7) :: fI (f 8) :: .ref 72 :: fI (f 10) :: fI (f 11) :: fI (f 12) :: fJ (f 13) :: fI (f 14) :: fI (f 15) :: fI (f 16) :: fI (f 17) :: .ref 73 :: .ref 74 :: .ref 75 :: .ref 76 :: .ref 77 :: .ref 78 :: fI w' :: .ref 79 :: .ref 80 :: .ref 81 :: .ref 82 :: .ref 83 :: .ref 84 :: .ref 85 :: fJ (f 32) :: fJ (f 33) :: .ref 86 :: .ref 87 :: fI (f 36) :: .ref 88 :: .ref 89 :: .ref 90 :: .ref 91 :: .ref 92 :: .ref 93 :: []))) ∧ cE h_q 77 (.inl (.int, fA gt')) ∧ gt'.length = (5 : Nat) ∧ cE h_q 78 (.inl (.int, fA gd')) ∧ gd'.length = (5 : Nat) ∧ cE h_q 79 (.inl (.long, fL xs')) ∧ xs'.length = (12 : Nat) ∧ cE h_q 80 (.inl (.long, fL ys')) ∧ ys'.length = (12 : Nat) ∧ (mf_is pl xs' (mf_fl (fun x => mx_w cn go ch s x) (pl - 1) o)) ∧ hfr [66, 77, 78, 79, 80] h h_q) := by
  intro k
  induction k with
  | zero => intro p y1 u u66 u67 n67 u68 n68 u69 n69 u77 n77 u78 n78 u79 n79 u80 n80 ul F hp hy hk; omega
  | succ k ih =>
    intro p y1 u u66 u67 n67 u68 n68 u69 n69 u77 n77 u78 n78 u79 n79 u80 n80 ul F hp hy hk
    refine ik_Wk 2 (pc_q := 4) (loc_q := [some (.ref 66), some (fI p), none, none, none, none, none]) (st_q := [.ref 66, fI p]) (h_q := u) (cl_q := 0) (sl_q := 0) rfl ?_
    refine fw_gf rfl rfl u66 rfl ?_
    refine fw_ic_ge rfl rfl (by omega) (by omega) (by omega) (by omega) (fun hc1 => ?_) (fun hc1 => ?_)
    · refine ik_Wk 2 (pc_q := 42) (loc_q := [some (.ref 66), some (fI 0), none, none, none, none, none]) (st_q := []) (h_q := u) (cl_q := 0) (sl_q := 0) rfl ?_
      have ep : p = pl := by omega
      rw [ep] at hy
      exact cr_flowO (pl := pl) (f := f) (s := s) (cn := cn) (go := go) (ch := ch) (gt := gt) (gd := gd) (xs := xs) (ys := ys) (o := o) q0 q1 q2 q3 q4 q5 q6  pl.toNat 0 (f 24) gt gd y1 none none none u u66 u67 n67 u68 n68 u69 n69 u77 n77 u78 n78 u79 n79 u80 n80 ul F (by omega) hy rfl rfl rfl (by omega)
    · refine ik_Wk 1 (pc_q := 11) (loc_q := [some (.ref 66), some (fI p), none, none, none, none, none]) (st_q := [.ref 66]) (h_q := u) (cl_q := 0) (sl_q := 0) rfl ?_
      refine fw_gf rfl rfl u66 rfl ?_
      refine ik_Wk 3 (pc_q := 17) (loc_q := [some (.ref 66), some (fI p), none, none, none, none, none]) (st_q := [.ref 66, fI p, fI p, .ref 80]) (h_q := u) (cl_q := 0) (sl_q := 0) rfl ?_
      refine ik_Wc 130 1 0 [.ref 66] [fI p, fI p, .ref 80] rfl rfl rfl (by decide +kernel) rfl rfl (fw_rec ul rfl u66 rfl (Nat.le_of_ble_eq_true rfl)) ?_
      refine ik_Wk 0 (pc_q := 0) (loc_q := [some (.ref 66)]) (st_q := []) (h_q := u) (cl_q := 0) (sl_q := 0) rfl ?_
      refine ik_Wk 1 (pc_q := 1) (loc_q := [some (.ref 66)]) (st_q := [.ref 66]) (h_q := u) (cl_q := 0) (sl_q := 0) rfl ?_
      refine fw_gf rfl rfl u66 rfl ?_
      refine ik_Wk 1 (pc_q := 5) (loc_q := [some (.ref 66)]) (st_q := [fI 1, fI pl]) (h_q := u) (cl_q := 0) (sl_q := 0) rfl ?_
      refine fw_sub rfl ?_
      refine ik_Wret rfl rfl ⟨_, _, rfl, rfl, ?_⟩
      refine ik_Wk 0 (pc_q := 20) (loc_q := [some (.ref 66), some (fI p), none, none, none, none, none]) (st_q := [fI (pl - 1), fI p, fI p, .ref 80]) (h_q := u) (cl_q := 0) (sl_q := 0) rfl ?_
      refine fw_ic_ne rfl rfl (by omega) (by omega) (by omega) (by omega) (fun hc2 => ?_) (fun hc2 => ?_)
      · refine ik_Wk 1 (pc_q := 24) (loc_q := [some (.ref 66), some (fI p), none, none, none, none, none]) (st_q := [.ref 66, fI p, .ref 80]) (h_q := u) (cl_q := 0) (sl_q := 0) rfl ?_
        refine fw_gf rfl rfl u66 rfl ?_
        refine ik_Wk 1 (pc_q := 28) (loc_q := [some (.ref 66), some (fI p), none, none, none, none, none]) (st_q := [fI p, .ref 79, fI p, .ref 80]) (h_q := u) (cl_q := 0) (sl_q := 0) rfl ?_
        refine fx_lal rfl u79 (by omega) (by omega) (by omega) ?_
        refine ik_Wk 1 (pc_q := 33) (loc_q := [some (.ref 66), some (fI p), none, none, none, none, none]) (st_q := [fJ (xs.getD p.toNat 0), fI p, .ref 80]) (h_q := u) (cl_q := 0) (sl_q := 0) rfl ?_
        have hl3 : (y1.set p.toNat (xs.getD p.toNat 0)).length = 12 := (List.length_set ..).trans n80
        refine fx_las rfl u80 (by omega) (by omega) (by omega) ?_
        intro h_116 e_116 f_116 l_116
        have k_116 : cL h_116 := l_116.trans ul
        have fr_116 := hfr_wb F f_116 l_116 rfl
        clear l_116
        have g_116_66 := (f_116 66 (Nat.ne_of_beq_eq_false rfl)).trans u66
        have g_116_67 := (f_116 67 (Nat.ne_of_beq_eq_false rfl)).trans u67
        have g_116_68 := (f_116 68 (Nat.ne_of_beq_eq_false rfl)).trans u68
        have g_116_69 := (f_116 69 (Nat.ne_of_beq_eq_false rfl)).trans u69
        have g_116_77 := (f_116 77 (Nat.ne_of_beq_eq_false rfl)).trans u77
        have g_116_78 := (f_116 78 (Nat.ne_of_beq_eq_false rfl)).trans u78
        have g_116_79 := (f_116 79 (Nat.ne_of_beq_eq_false rfl)).trans u79
        have g_116_80 : cE h_116 80 (.inl (.long, fL (y1.set p.toNat (xs.getD p.toNat 0)))) := e_116
        refine fw_inc (a := p) (loc_q := [some (.ref 66), some (fI (p + 1)), none, none, none, none, none]) rfl rfl (Nat.le_of_ble_eq_true rfl) rfl ?_
        refine ik_Wk 1 (pc_q := 2) (loc_q := [some (.ref 66), some (fI (p + 1)), none, none, none, none, none]) (st_q := []) (h_q := h_116) (cl_q := 0) (sl_q := 0) rfl ?_
        exact ih  (p + 1) (y1.set p.toNat (xs.getD p.toNat 0)) h_116 g_116_66 g_116_67 n67 g_116_68 n68 g_116_69 n69 g_116_77 n77 g_116_78 n78 g_116_79 n79 g_116_80 hl3 k_116 fr_116 (by omega) (mf_is_x hy (by omega) (by omega) (by show _ = if p.toNat = (pl - 1).toNat then o (pl - 1).toNat else 0; rw [if_pos (by omega), show p.toNat = (pl - 1).toNat by omega]; exact q5 _ (by omega))) (by omega)
      · refine fw_lc (z := 0) rfl (by decide +kernel) ?_
        have hl4 : (y1.set p.toNat 0).length = 12 := (List.length_set ..).trans n80
        refine fx_las rfl u80 (by omega) (by omega) (by omega) ?_
        intro h_117 e_117 f_117 l_117
        have k_117 : cL h_117 := l_117.trans ul
        have fr_117 := hfr_wb F f_117 l_117 rfl
        clear l_117
        have g_117_66 := (f_117 66 (Nat.ne_of_beq_eq_false rfl)).trans u66
        have g_117_67 := (f_117 67 (Nat.ne_of_beq_eq_false rfl)).trans u67
        have g_117_68 := (f_117 68 (Nat.ne_of_beq_eq_false rfl)).trans u68
        have g_117_69 := (f_117 69 (Nat.ne_of_beq_eq_false rfl)).trans u69
        have g_117_77 := (f_117 77 (Nat.ne_of_beq_eq_false rfl)).trans u77
        have g_117_78 := (f_117 78 (Nat.ne_of_beq_eq_false rfl)).trans u78
        have g_117_79 := (f_117 79 (Nat.ne_of_beq_eq_false rfl)).trans u79
        have g_117_80 : cE h_117 80 (.inl (.long, fL (y1.set p.toNat 0))) := e_117
        refine fw_inc (a := p) (loc_q := [some (.ref 66), some (fI (p + 1)), none, none, none, none, none]) rfl rfl (Nat.le_of_ble_eq_true rfl) rfl ?_
        refine ik_Wk 1 (pc_q := 2) (loc_q := [some (.ref 66), some (fI (p + 1)), none, none, none, none, none]) (st_q := []) (h_q := h_117) (cl_q := 0) (sl_q := 0) rfl ?_
        exact ih  (p + 1) (y1.set p.toNat 0) h_117 g_117_66 g_117_67 n67 g_117_68 n68 g_117_69 n69 g_117_77 n77 g_117_78 n78 g_117_79 n79 g_117_80 hl4 k_117 fr_117 (by omega) (mf_is_x hy (by omega) (by omega) (by show 0 = if p.toNat = (pl - 1).toNat then _ else 0; rw [if_neg (by omega)])) (by omega)

theorem cr_flow {h : List ik_E} {pl : Int} {f : Nat → Int} {s : Nat} {cn : List Int} {go : List Int} {ch : List Int} {gt : List Int} {gd : List Int} {xs : List Int} {ys : List Int} {o : Nat → Int} (q0 : 1 ≤ pl ∧ pl ≤ 12) (q1 : s < 4096) (q2 : ∀ x : Int, (0 : Int) ≤ x → x < pl - 1 → 0 ≤ cn.getD x.toNat 0 ∧ cn.getD x.toNat 0 ≤ 4) (q3 : ∀ x : Int, (0 : Int) ≤ x → x < pl - 1 → 1 ≤ cn.getD x.toNat 0 ∧ ∀ j : Int, 4 * x ≤ j → j < 4 * x + cn.getD x.toNat 0 → 0 ≤ ch.getD j.toNat 0 ∧ ch.getD j.toNat 0 ≤ 100) (q4 : ∀ x : Int, (0 : Int) ≤ x → x < pl - 1 → mx_ok pl (mx_w cn go ch s x)) (q5 : mf_is pl xs o) (q6 : mf_gd pl o) (h66 : cE h 66 (.inr (10, (fI pl :: .ref 67 :: .ref 68 :: .ref 69 :: fI ((s : Nat) : Int) :: .ref 70 :: .ref 71 :: fI (f 7) :: fI (f 8) :: .ref 72 :: fI (f 10) :: fI (f 11) :: fI (f 12) :: fJ (f 13) :: fI (f 14) :: fI (f 15) :: fI (f 16) :: fI (f 17) :: .ref 73 :: .ref 74 :: .ref 75 :: .ref 76 :: .ref 77 :: .ref 78 :: fI (f 24) :: .ref 79 :: .ref 80 :: .ref 81 :: .ref 82 :: .ref 83 :: .ref 84 :: .ref 85 :: fJ (f 32) :: fJ (f 33) :: .ref 86 :: .ref 87 :: fI (f 36) :: .ref 88 :: .ref 89 :: .ref 90 :: .ref 91 :: .ref 92 :: .ref 93 :: [])))) (h67 : cE h 67 (.inl (.int, fA cn))) (n67 : cn.length = (12 : Nat)) (h68 : cE h 68 (.inl (.int, fA go))) (n68 : go.length = (48 : Nat)) (h69 : cE h 69 (.inl (.int, fA ch))) (n69 : ch.length = (48 : Nat)) (h77 : cE h 77 (.inl (.int, fA gt))) (n77 : gt.length = (5 : Nat)) (h78 : cE h 78 (.inl (.int, fA gd))) (n78 : gd.length = (5 : Nat)) (h79 : cE h 79 (.inl (.long, fL xs))) (n79 : xs.length = (12 : Nat)) (h80 : cE h 80 (.inl (.long, fL ys))) (n80 : ys.length = (12 : Nat)) (hl : h.length = (94 : Nat)) : ik_F 153 [.ref 66] h (fun rv h_q => ∃ (w' : Int) (gt' : List Int) (gd' : List Int) (xs' : List Int) (ys' : List Int), rv = [] ∧ cE h_q 66 (.inr (10, (fI pl :: .ref 67 :: .ref 68 :: .ref 69 :: fI ((s : Nat) : Int) :: .ref 70 :: .ref 71 :: fI (f 7) :: fI (f 8) :: .ref 72 :: fI (f 10) :: fI (f 11) :: fI (f 12) :: fJ (f 13) :: fI (f 14) :: fI (f 15) :: fI (f 16) :: fI (f 17) :: .ref 73 :: .ref 74 :: .ref 75 :: .ref 76 :: .ref 77 :: .ref 78 :: fI w' :: .ref 79 :: .ref 80 :: .ref 81 :: .ref 82 :: .ref 83 :: .ref 84 :: .ref 85 :: fJ (f 32) :: fJ (f 33) :: .ref 86 :: .ref 87 :: fI (f 36) :: .ref 88 :: .ref 89 :: .ref 90 :: .ref 91 :: .ref 92 :: .ref 93 :: []))) ∧ cE h_q 77 (.inl (.int, fA gt')) ∧ gt'.length = (5 : Nat) ∧ cE h_q 78 (.inl (.int, fA gd')) ∧ gd'.length = (5 : Nat) ∧ cE h_q 79 (.inl (.long, fL xs')) ∧ xs'.length = (12 : Nat) ∧ cE h_q 80 (.inl (.long, fL ys')) ∧ ys'.length = (12 : Nat) ∧ (mf_is pl xs' (mf_fl (fun x => mx_w cn go ch s x) (pl - 1) o)) ∧ hfr [66, 77, 78, 79, 80] h h_q) := by
  refine ik_Wk 2 (pc_q := 2) (loc_q := [some (.ref 66), some (fI 0), none, none, none, none, none]) (st_q := []) (h_q := h) (cl_q := 0) (sl_q := 0) rfl ?_
  exact cr_flowZ (pl := pl) (f := f) (s := s) (cn := cn) (go := go) (ch := ch) (gt := gt) (gd := gd) (xs := xs) (ys := ys) (o := o) q0 q1 q2 q3 q4 q5 q6  (pl.toNat + 1) 0 ys h h66 h67 n67 h68 n68 h69 n69 h77 n77 h78 n78 h79 n79 h80 n80 hl (hfr_refl [66, 77, 78, 79, 80] h) (by omega) (mf_is_0 (by omega)) (by omega)

end

/-! 38zc.view -/
noncomputable section
/-! a course of the class, as it lies in four cells -/
def mf_cr (h : List ik_E) (C : Nat) : Prop := ∃ (M a b : Nat) (k u : Int) (cm xs ys : List Int), M = C + 1 ∧ (a = C + 2 ∧ b = C + 3 ∨ a = C + 3 ∧ b = C + 2) ∧ h[C]? = some (.inr (2, [.ref 7, fI k, fI u, .ref M, .ref a, .ref b])) ∧ h[M]? = some (.inl (.int, fA cm)) ∧ h[a]? = some (.inl (.long, fL xs)) ∧ h[b]? = some (.inl (.long, fL ys)) ∧ cm.length = 201 ∧ xs.length = 12 ∧ ys.length = 12
/-- the course of a cork of kind k, set in at q, made up to minute u -/
def mf_cv (h : List ik_E) (C : Nat) (W : Int → List (Int × Int)) (pl k q u : Int) : Prop := ∃ (M a b : Nat) (cm xs ys : List Int), M = C + 1 ∧ (a = C + 2 ∧ b = C + 3 ∨ a = C + 3 ∧ b = C + 2) ∧ h[C]? = some (.inr (2, [.ref 7, fI k, fI u, .ref M, .ref a, .ref b])) ∧ h[M]? = some (.inl (.int, fA cm)) ∧ h[a]? = some (.inl (.long, fL xs)) ∧ h[b]? = some (.inl (.long, fL ys)) ∧ cm.length = 201 ∧ xs.length = 12 ∧ ys.length = 12 ∧ (0 ≤ u ∧ u ≤ 200) ∧ mf_is pl xs (mf_od W (pl - 1) k q u.toNat) ∧ (∀ j : Nat, (j : Int) ≤ u → cm.getD j 0 = mf_cm W (pl - 1) k q j)
theorem mf_cv_r {h : List ik_E} {C : Nat} {W : Int → List (Int × Int)} {pl k q u : Int} (v : mf_cv h C W pl k q u) : mf_cr h C := by
  obtain ⟨M, a, b, cm, xs, ys, h1, h2, h3, h4, h5, h6, h7, h8, h9, _⟩ := v
  exact ⟨M, a, b, k, u, cm, xs, ys, h1, h2, h3, h4, h5, h6, h7, h8, h9⟩
theorem mf_cr_o {h : List ik_E} {C : Nat} (v : mf_cr h C) : ∃ fs, h[C]? = some (.inr (2, fs)) := by
  obtain ⟨M, a, b, k, u, cm, xs, ys, h1, h2, h3, _⟩ := v
  exact ⟨_, h3⟩
theorem mf_cv_o {h : List ik_E} {C : Nat} {W : Int → List (Int × Int)} {pl k q u : Int} (v : mf_cv h C W pl k q u) : ∃ fs, h[C]? = some (.inr (2, fs)) := mf_cr_o (mf_cv_r v)
theorem mf_cr_f {h h_q : List ik_E} {C : Nat} (v : mf_cr h C) (e0 : h_q[C]? = h[C]?) (e1 : h_q[C + 1]? = h[C + 1]?) (e2 : h_q[C + 2]? = h[C + 2]?) (e3 : h_q[C + 3]? = h[C + 3]?) : mf_cr h_q C := by
  obtain ⟨M, a, b, k, u, cm, xs, ys, h1, h2, h3, h4, h5, h6, h7, h8, h9⟩ := v
  refine ⟨M, a, b, k, u, cm, xs, ys, h1, h2, e0.trans h3, ?_, ?_, ?_, h7, h8, h9⟩
  · subst h1; exact e1.trans h4
  · rcases h2 with ⟨p, q⟩ | ⟨p, q⟩ <;> subst p <;> first | exact e2.trans h5 | exact e3.trans h5
  · rcases h2 with ⟨p, q⟩ | ⟨p, q⟩ <;> subst q <;> first | exact e3.trans h6 | exact e2.trans h6
theorem mf_cv_f {h h_q : List ik_E} {C : Nat} {W : Int → List (Int × Int)} {pl k q u : Int} (v : mf_cv h C W pl k q u) (e0 : h_q[C]? = h[C]?) (e1 : h_q[C + 1]? = h[C + 1]?) (e2 : h_q[C + 2]? = h[C + 2]?) (e3 : h_q[C + 3]? = h[C + 3]?) : mf_cv h_q C W pl k q u := by
  obtain ⟨M, a, b, cm, xs, ys, h1, h2, h3, h4, h5, h6, h7, h8, h9, hr⟩ := v
  refine ⟨M, a, b, cm, xs, ys, h1, h2, e0.trans h3, ?_, ?_, ?_, h7, h8, h9, hr⟩
  · subst h1; exact e1.trans h4
  · rcases h2 with ⟨p, q⟩ | ⟨p, q⟩ <;> subst p <;> first | exact e2.trans h5 | exact e3.trans h5
  · rcases h2 with ⟨p, q⟩ | ⟨p, q⟩ <;> subst q <;> first | exact e3.trans h6 | exact e2.trans h6
/-- odds of a set of places -/
def mf_ss (B : Nat) (o : Nat → Int) : Nat → Int
  | 0 => 0
  | n + 1 => mf_ss B o n + if B.testBit n then o n else 0
theorem mf_ss_s {B : Nat} {o : Nat → Int} {p : Int} (h : 0 ≤ p) : mf_ss B o (p + 1).toNat = mf_ss B o p.toNat + if B.testBit p.toNat then o p.toNat else 0 := by
  rw [show (p + 1).toNat = p.toNat + 1 by omega]
  rfl
theorem mf_tb0 {q i : Nat} (h : ¬ i = q) : (1 <<< q).testBit i = false := by
  rw [Nat.testBit_shiftLeft]
  by_cases v : q ≤ i
  · have e : Nat.testBit 1 (i - q) = false := by
      cases e0 : i - q with
      | zero => omega
      | succ k => rw [Nat.testBit_succ]; exact Nat.zero_testBit k
    rw [e, Bool.and_false]
  · rw [decide_eq_false v, Bool.false_and]
theorem mf_tb1 (q : Nat) : (1 <<< q).testBit q = true := by
  rw [Nat.testBit_shiftLeft, Nat.sub_self, decide_eq_true (Nat.le_refl q)]
  rfl
theorem mf_ss_1 {o : Nat → Int} {q : Nat} : ∀ n, q < n → mf_ss (1 <<< q) o n = o q := by
  have lo : ∀ n, n ≤ q → mf_ss (1 <<< q) o n = 0 := by
    intro n
    induction n with
    | zero => intro _; rfl
    | succ n ih =>
      intro w
      show mf_ss (1 <<< q) o n + (if (1 <<< q).testBit n then o n else 0) = 0
      rw [ih (by omega), mf_tb0 (by omega)]
      rfl
  intro n
  induction n with
  | zero => intro w; omega
  | succ n ih =>
    intro w
    show mf_ss (1 <<< q) o n + (if (1 <<< q).testBit n then o n else 0) = o q
    by_cases e : n = q
    · subst e; rw [lo n (Nat.le_refl n), mf_tb1, if_pos rfl, Int.zero_add]
    · rw [ih (by omega), mf_tb0 e, if_neg (by decide +kernel), Int.add_zero]
/-- what comeBy answers -/
def mf_ct (W : Int → List (Int × Int)) (pl k q t : Int) : Int := if 0 ≤ t ∧ t ≤ 200 then mf_cm W (pl - 1) k q t.toNat else 0
end

/-! 38zd.course -/
noncomputable section
/-! courses: set in, come by, odds at (written by wip/fx/u8.py) -/
theorem cj_fillL {h : List ik_E} {a : Nat} {xs : List Int} (q0 : a < 94)  : ∀ (k : Nat) (i : Int) (x1 : List Int) (u : List ik_E) (ua : cE u a (.inl (.long, fL x1))) (na : x1.length = (12 : Nat)) (ul : u.length = (94 : Nat)) (F : hfr [a] h u) (hi : (0 : Int) ≤ i ∧ i ≤ (12 : Int)) (hx : mf_is i x1 (fun _ => 0)) (hk : 12 - i < (k : Int)), ik_G 223 6 [some (.ref a), some (fJ 0), none, some (fI i), some (fI 12)] [] u (fun rv h_q => ∃ (xs' : List Int), rv = [] ∧ cE h_q a (.inl (.long, fL xs')) ∧ xs'.length = (12 : Nat) ∧ (mf_is 12 xs' (fun _ => 0)) ∧ hfr [a] h h_q) := by
  intro k
  induction k with
  | zero => intro i x1 u ua na ul F hi hx hk; omega
  | succ k ih =>
    intro i x1 u ua na ul F hi hx hk
    refine ik_Wk 2 (pc_q := 9) (loc_q := [some (.ref a), some (fJ 0), none, some (fI i), some (fI 12)]) (st_q := [fI 12, fI i]) (h_q := u) (cl_q := 0) (sl_q := 0) rfl ?_
    refine fw_ic_ge rfl rfl (by omega) (by omega) (by omega) (by omega) (fun hc1 => ?_) (fun hc1 => ?_)
    · have ei : i = 12 := by omega
      rw [ei] at hx
      exact ik_Wret rfl rfl ⟨_, _, rfl, rfl, rfl, rfl, ⟨x1, rfl, ua, na, hx, F⟩⟩
    · refine ik_Wk 3 (pc_q := 15) (loc_q := [some (.ref a), some (fJ 0), none, some (fI i), some (fI 12)]) (st_q := [fJ 0, fI i, .ref a]) (h_q := u) (cl_q := 0) (sl_q := 0) rfl ?_
      have hl2 : (x1.set i.toNat 0).length = 12 := (List.length_set ..).trans na
      refine fx_las rfl ua (by omega) (by omega) (by omega) ?_
      intro h_118 e_118 f_118 l_118
      have k_118 : cL h_118 := l_118.trans ul
      have fr_118 := hfr_w F f_118 l_118 (by simp <;> omega)
      clear l_118
      have g_118_a : cE h_118 a (.inl (.long, fL (x1.set i.toNat 0))) := e_118
      refine fw_inc (a := i) (loc_q := [some (.ref a), some (fJ 0), none, some (fI (i + 1)), some (fI 12)]) rfl rfl (Nat.le_of_ble_eq_true rfl) rfl ?_
      refine ik_Wk 1 (pc_q := 6) (loc_q := [some (.ref a), some (fJ 0), none, some (fI (i + 1)), some (fI 12)]) (st_q := []) (h_q := h_118) (cl_q := 0) (sl_q := 0) rfl ?_
      exact ih  (i + 1) (x1.set i.toNat 0) h_118 g_118_a hl2 k_118 fr_118 (by omega) (mf_is_x hx (by omega) (by omega) rfl) (by omega)

theorem cj_fill {h : List ik_E} {a : Nat} {xs : List Int} (q0 : a < 94) (ha : cE h a (.inl (.long, fL xs))) (na : xs.length = (12 : Nat)) (hl : h.length = (94 : Nat)) : ik_F 223 [.ref a, fJ 0] h (fun rv h_q => ∃ (xs' : List Int), rv = [] ∧ cE h_q a (.inl (.long, fL xs')) ∧ xs'.length = (12 : Nat) ∧ (mf_is 12 xs' (fun _ => 0)) ∧ hfr [a] h h_q) := by
  refine ik_Wk 3 (pc_q := 3) (loc_q := [some (.ref a), some (fJ 0), none, some (fI 0), none]) (st_q := [.ref a]) (h_q := h) (cl_q := 0) (sl_q := 0) rfl ?_
  refine fx_aln rfl ha ((fL_len _).trans na) (by decide +kernel) ?_
  refine ik_Wk 1 (pc_q := 6) (loc_q := [some (.ref a), some (fJ 0), none, some (fI 0), some (fI 12)]) (st_q := []) (h_q := h) (cl_q := 0) (sl_q := 0) rfl ?_
  exact cj_fillL (a := a) (xs := xs) q0  13 0 xs h ha na hl (hfr_refl [a] h) (by omega) (mf_is_0 (by omega)) (by omega)

theorem cs_setIn {h : List ik_E} {C : Nat} {pl : Int} {lo : Int} {s : Nat} {kd : Int} {qp : Int} {W : Int → List (Int × Int)} (q0 : 20 < C ∧ C < 42) (q1 : 1 ≤ pl ∧ pl ≤ 12) (q2 : 0 ≤ qp ∧ qp < pl) (h7 : cE h 7 (.inr (0, [fI pl, fI ((s : Nat) : Int), fI lo, .ref 8, .ref 9, .ref 10, .ref 11, .ref 12, .ref 13]))) (hC : mf_cr h C ) (hl : h.length = 94) : ik_F 30 [.ref C, fI kd, fI qp] h (fun rv h_q => rv = [.ref C] ∧ mf_cv h_q C W pl kd qp 0 ∧ hfr [C, C + 1, C + 2, C + 3] h h_q) := by
  obtain ⟨M, a, b, k0, u0, cm, xs, ys, hM, hab, hC1, hM1, ha1, hb1, nM, na, nb⟩ := hC
  refine ik_Wk 2 (pc_q := 2) (loc_q := [some (.ref C), some (fI kd), some (fI qp)]) (st_q := [fI kd, .ref C]) (h_q := h) (cl_q := 0) (sl_q := 0) rfl ?_
  refine fx_pf rfl rfl hC1 (Nat.le_of_ble_eq_true rfl) rfl rfl ?_
  intro h_119 e_119 f_119 l_119
  have k_119 : cL h_119 := l_119.trans hl
  have fr_119 := hfr_w (hfr_refl [C, C + 1, C + 2, C + 3] h) f_119 l_119 (by simp <;> omega)
  clear l_119
  have g_119_7 := (f_119 7 (by omega)).trans h7
  have g_119_M := (f_119 M (by omega)).trans hM1
  have g_119_a := (f_119 a (by omega)).trans ha1
  have g_119_b := (f_119 b (by omega)).trans hb1
  have g_119_C : cE h_119 C (.inr (2, [.ref 7, fI kd, fI u0, .ref M, .ref a, .ref b])) := e_119
  refine ik_Wk 2 (pc_q := 7) (loc_q := [some (.ref C), some (fI kd), some (fI qp)]) (st_q := [fI 0, .ref C]) (h_q := h_119) (cl_q := 0) (sl_q := 0) rfl ?_
  refine fx_pf rfl rfl g_119_C (Nat.le_of_ble_eq_true rfl) rfl rfl ?_
  intro h_120 e_120 f_120 l_120
  have k_120 : cL h_120 := l_120.trans k_119
  have fr_120 := hfr_w fr_119 f_120 l_120 (by simp <;> omega)
  clear l_120
  have g_120_7 := (f_120 7 (by omega)).trans g_119_7
  have g_120_M := (f_120 M (by omega)).trans g_119_M
  have g_120_a := (f_120 a (by omega)).trans g_119_a
  have g_120_b := (f_120 b (by omega)).trans g_119_b
  have g_120_C : cE h_120 C (.inr (2, [.ref 7, fI kd, fI 0, .ref M, .ref a, .ref b])) := e_120
  refine ik_Wk 1 (pc_q := 11) (loc_q := [some (.ref C), some (fI kd), some (fI qp)]) (st_q := [.ref C]) (h_q := h_120) (cl_q := 0) (sl_q := 0) rfl ?_
  refine fw_gf rfl rfl g_120_C rfl ?_
  refine fw_lc (z := 0) rfl (by decide +kernel) ?_
  refine fw_call 223 2 3 [.ref a, fJ 0] [] rfl rfl rfl (Nat.le_of_ble_eq_true rfl) rfl rfl (fw_sta k_120 (fw_ftx rfl wv_n (wl_c (wl_r (by omega)) (wl_c rfl (wl_c rfl wl_n)))) (by decide +kernel)) (cj_fill (a := a) (xs := xs) (by omega) g_120_a na k_120) ?_
  rintro _ h_121 ⟨xs'_121, rfl, e_121_a, m_121_a, p_121_0, F_121⟩
  have k_121 : cL h_121 := F_121.1.trans k_120
  have fr_121 := hfr_c fr_120 F_121 (by intro b_ hb; simp at hb ⊢; omega)
  have g_121_7 := (F_121.2 7 (by simp <;> omega)).trans g_120_7
  have g_121_C := (F_121.2 C (by simp <;> omega)).trans g_120_C
  have g_121_M := (F_121.2 M (by simp <;> omega)).trans g_120_M
  have g_121_b := (F_121.2 b (by simp <;> omega)).trans g_120_b
  have g_121_a : cE h_121 a (.inl (.long, fL xs'_121)) := e_121_a
  refine ik_Wk 0 (pc_q := 18) (loc_q := [some (.ref C), some (fI kd), some (fI qp)]) (st_q := []) (h_q := h_121) (cl_q := 0) (sl_q := 0) rfl ?_
  refine ik_Wk 1 (pc_q := 19) (loc_q := [some (.ref C), some (fI kd), some (fI qp)]) (st_q := [.ref C]) (h_q := h_121) (cl_q := 0) (sl_q := 0) rfl ?_
  refine fw_gf rfl rfl g_121_C rfl ?_
  refine ik_Wk 1 (pc_q := 23) (loc_q := [some (.ref C), some (fI kd), some (fI qp)]) (st_q := [fI qp, .ref a]) (h_q := h_121) (cl_q := 0) (sl_q := 0) rfl ?_
  refine fw_l2 1000000000 rfl rfl (by decide +kernel) ?_
  have hl1 : (xs'_121.set qp.toNat 1000000000).length = 12 := (List.length_set ..).trans m_121_a
  refine fx_las rfl g_121_a (by omega) (by omega) (by omega) ?_
  intro h_122 e_122 f_122 l_122
  have k_122 : cL h_122 := l_122.trans k_121
  have fr_122 := hfr_w fr_121 f_122 l_122 (by simp <;> omega)
  clear l_122
  have g_122_7 := (f_122 7 (by omega)).trans g_121_7
  have g_122_C := (f_122 C (by omega)).trans g_121_C
  have g_122_M := (f_122 M (by omega)).trans g_121_M
  have g_122_b := (f_122 b (by omega)).trans g_121_b
  have g_122_a : cE h_122 a (.inl (.long, fL (xs'_121.set qp.toNat 1000000000))) := e_122
  refine ik_Wk 1 (pc_q := 28) (loc_q := [some (.ref C), some (fI kd), some (fI qp)]) (st_q := [.ref C]) (h_q := h_122) (cl_q := 0) (sl_q := 0) rfl ?_
  refine fw_gf rfl rfl g_122_C rfl ?_
  refine ik_Wk 2 (pc_q := 33) (loc_q := [some (.ref C), some (fI kd), some (fI qp)]) (st_q := [.ref C, fI 0, .ref M]) (h_q := h_122) (cl_q := 0) (sl_q := 0) rfl ?_
  refine fw_gf rfl rfl g_122_C rfl ?_
  refine ik_Wk 1 (pc_q := 37) (loc_q := [some (.ref C), some (fI kd), some (fI qp)]) (st_q := [.ref C, .ref a, fI 0, .ref M]) (h_q := h_122) (cl_q := 0) (sl_q := 0) rfl ?_
  refine fw_gf rfl rfl g_122_C rfl ?_
  refine ik_Wc 2 1 0 [.ref 7] [.ref a, fI 0, .ref M] rfl rfl rfl (by decide +kernel) rfl rfl (fw_rec k_122 (fw_ftx rfl (wv_c (wv_r (by omega)) (wv_c rfl (wv_c (wv_r (by omega)) wv_n))) (wl_c (wl_r (by omega)) (wl_c rfl (wl_c rfl wl_n)))) g_122_7 rfl (by decide +kernel)) ?_
  refine ik_Wk 0 (pc_q := 0) (loc_q := [some (.ref 7)]) (st_q := []) (h_q := h_122) (cl_q := 0) (sl_q := 0) rfl ?_
  refine ik_Wk 1 (pc_q := 1) (loc_q := [some (.ref 7)]) (st_q := [.ref 7]) (h_q := h_122) (cl_q := 0) (sl_q := 0) rfl ?_
  refine fw_gf rfl rfl g_122_7 rfl ?_
  refine ik_Wk 1 (pc_q := 5) (loc_q := [some (.ref 7)]) (st_q := [fI 1, fI pl]) (h_q := h_122) (cl_q := 0) (sl_q := 0) rfl ?_
  refine fw_sub rfl ?_
  refine ik_Wret rfl rfl ⟨_, _, rfl, rfl, ?_⟩
  refine ik_Wk 0 (pc_q := 43) (loc_q := [some (.ref C), some (fI kd), some (fI qp)]) (st_q := [fI (pl - 1), .ref a, fI 0, .ref M]) (h_q := h_122) (cl_q := 0) (sl_q := 0) rfl ?_
  refine fx_lal rfl g_122_a (by omega) (by omega) (by omega) ?_
  refine fx_l2i rfl ?_
  have hl2 : (cm.set (0 : Int).toNat ((xs'_121.set qp.toNat 1000000000).getD (pl - 1).toNat 0)).length = 201 := (List.length_set ..).trans nM
  refine fx_ias rfl g_122_M (by omega) (by omega) (by omega) ?_
  intro h_123 e_123 f_123 l_123
  have k_123 : cL h_123 := l_123.trans k_122
  have fr_123 := hfr_w fr_122 f_123 l_123 (by simp <;> omega)
  clear l_123
  have g_123_7 := (f_123 7 (by omega)).trans g_122_7
  have g_123_C := (f_123 C (by omega)).trans g_122_C
  have g_123_a := (f_123 a (by omega)).trans g_122_a
  have g_123_b := (f_123 b (by omega)).trans g_122_b
  have g_123_M : cE h_123 M (.inl (.int, fA (cm.set (0 : Int).toNat ((xs'_121.set qp.toNat 1000000000).getD (pl - 1).toNat 0)))) := e_123
  refine ik_Wk 1 (pc_q := 47) (loc_q := [some (.ref C), some (fI kd), some (fI qp)]) (st_q := [.ref C]) (h_q := h_123) (cl_q := 0) (sl_q := 0) rfl ?_
  have hz : mf_is 12 (xs'_121.set qp.toNat 1000000000) (mf_od W (pl - 1) kd qp 0) := by
    intro j hj
    show _ = if j = qp.toNat then 1000000000 else 0
    rw [fz_getD_set]
    by_cases w : j = qp.toNat
    · rw [if_pos ⟨w, by omega⟩, if_pos w]
    · rw [if_neg (fun z => w z.1), if_neg w]; exact p_121_0 j hj
  have hcm : ∀ j : Nat, (j : Int) ≤ 0 → (cm.set (0 : Int).toNat ((xs'_121.set qp.toNat 1000000000).getD (pl - 1).toNat 0)).getD j 0 = mf_cm W (pl - 1) kd qp j := by
    intro j hj
    rw [show j = 0 by omega, fz_getD_set, if_pos ⟨by omega, by omega⟩]
    exact hz _ (by omega)
  exact ik_Wret rfl rfl ⟨_, _, rfl, rfl, rfl, rfl, ⟨rfl, ⟨M, a, b, cm.set (0 : Int).toNat ((xs'_121.set qp.toNat 1000000000).getD (pl - 1).toNat 0), xs'_121.set qp.toNat 1000000000, ys, hM, hab, g_123_C, g_123_M, g_123_a, g_123_b, hl2, hl1, nb, by omega, fun j hj => hz j (by omega), hcm⟩, fr_123⟩⟩

theorem cs_comeG {h : List ik_E} {C : Nat} {pl : Int} {lo : Int} {s : Nat} {t : Int} {kd : Int} {qp : Int} {ut : Int} {wg : List Int} {wc : List Int} {we : List Int} {W : Int → List (Int × Int)} (q0 : 20 < C ∧ C < 42) (q1 : 1 ≤ pl ∧ pl ≤ 12) (q2 : 0 ≤ qp ∧ qp < pl) (q3 : 0 ≤ kd ∧ kd ≤ 2) (q4 : ∀ x : Int, (0 : Int) ≤ x → x < pl - 1 → mx_wy wg wc we x (W x)) (q5 : ∀ x : Int, (0 : Int) ≤ x → x < pl - 1 → mx_ok pl (W x)) (q6 : (-2000000000 : Int) ≤ t ∧ t ≤ (2000000000 : Int)) (v : Int) (hv : (1 : Int) ≤ v ∧ v ≤ (200 : Int)) (n : Int) (hn : (0 : Int) ≤ n ∧ n ≤ (2 : Int)) (M : Nat) (hM : M = C + 1) (cm1 : List Int) (u1 : Int) {R : List Value → List ik_E → Prop} (K : ∀ (w : List ik_E) (a1 : Nat) (b1 : Nat) (xs1 : List Int) (ys1 : List Int) (g2 : Int) (x5 : Option Value) (w7 : cE w 7 (.inr (0, [fI pl, fI ((s : Nat) : Int), fI lo, .ref 8, .ref 9, .ref 10, .ref 11, .ref 12, .ref 13]))) (w11 : cE w 11 (.inl (.int, fA wg))) (nw_11 : wg.length = (60 : Nat)) (w12 : cE w 12 (.inl (.int, fA wc))) (nw_12 : wc.length = (60 : Nat)) (w13 : cE w 13 (.inl (.int, fA we))) (nw_13 : we.length = (12 : Nat)) (wC : cE w C (.inr (2, [.ref 7, fI kd, fI u1, .ref M, .ref a1, .ref b1]))) (wM : cE w M (.inl (.int, fA cm1))) (nw_M : cm1.length = (201 : Nat)) (wa1 : cE w a1 (.inl (.long, fL xs1))) (nw_a1 : xs1.length = (12 : Nat)) (wb1 : cE w b1 (.inl (.long, fL ys1))) (nw_b1 : ys1.length = (12 : Nat)) (wl : w.length = (94 : Nat)) (F : hfr [C, C + 1, C + 2, C + 3] h w) (hab : (a1 = C + 2 ∧ b1 = C + 3) ∨ (a1 = C + 3 ∧ b1 = C + 2)) (his : mf_is pl xs1 (mf_od W (pl - 1) kd qp v.toNat)) (w5 : ik_wl 94 x5 = true), ik_G 31 84 [some (.ref C), some (fI t), some (fI v), some (fI n), some (fI g2), x5] [] w R) : ∀ (k : Nat) (g : Int) (a1 : Nat) (b1 : Nat) (xs1 : List Int) (ys1 : List Int) (o : Nat → Int) (x5 : Option Value) (u : List ik_E) (u7 : cE u 7 (.inr (0, [fI pl, fI ((s : Nat) : Int), fI lo, .ref 8, .ref 9, .ref 10, .ref 11, .ref 12, .ref 13]))) (u11 : cE u 11 (.inl (.int, fA wg))) (n11 : wg.length = (60 : Nat)) (u12 : cE u 12 (.inl (.int, fA wc))) (n12 : wc.length = (60 : Nat)) (u13 : cE u 13 (.inl (.int, fA we))) (n13 : we.length = (12 : Nat)) (uC : cE u C (.inr (2, [.ref 7, fI kd, fI u1, .ref M, .ref a1, .ref b1]))) (uM : cE u M (.inl (.int, fA cm1))) (nM : cm1.length = (201 : Nat)) (ua1 : cE u a1 (.inl (.long, fL xs1))) (na1 : xs1.length = (12 : Nat)) (ub1 : cE u b1 (.inl (.long, fL ys1))) (nb1 : ys1.length = (12 : Nat)) (ul : u.length = (94 : Nat)) (F : hfr [C, C + 1, C + 2, C + 3] h u) (hg : (0 : Int) ≤ g ∧ g ≤ n) (hab : (a1 = C + 2 ∧ b1 = C + 3) ∨ (a1 = C + 3 ∧ b1 = C + 2)) (hgd : mf_gd pl o) (his : mf_is pl xs1 o) (hit : mf_od W (pl - 1) kd qp v.toNat = mf_it W (pl - 1) (n - g).toNat o) (w5 : ik_wl 94 x5 = true) (hk : n - g < (k : Int)), ik_G 31 37 [some (.ref C), some (fI t), some (fI v), some (fI n), some (fI g), x5] [] u R := by
  intro k
  induction k with
  | zero => intro g a1 b1 xs1 ys1 o x5 u u7 u11 n11 u12 n12 u13 n13 uC uM nM ua1 na1 ub1 nb1 ul F hg hab hgd his hit w5 hk; omega
  | succ k ih =>
    intro g a1 b1 xs1 ys1 o x5 u u7 u11 n11 u12 n12 u13 n13 uC uM nM ua1 na1 ub1 nb1 ul F hg hab hgd his hit w5 hk
    refine ik_Wk 2 (pc_q := 40) (loc_q := [some (.ref C), some (fI t), some (fI v), some (fI n), some (fI g), x5]) (st_q := [fI n, fI g]) (h_q := u) (cl_q := 0) (sl_q := 0) rfl ?_
    refine fw_ic_ge rfl rfl (by omega) (by omega) (by omega) (by omega) (fun hc1 => ?_) (fun hc1 => ?_)
    · have eg : (n - g).toNat = 0 := by omega
      rw [eg] at hit
      exact K u a1 b1 xs1 ys1 g x5 u7 u11 n11 u12 n12 u13 n13 uC uM nM ua1 na1 ub1 nb1 ul F hab (by rw [hit]; exact his) w5
    · refine ik_Wk 1 (pc_q := 44) (loc_q := [some (.ref C), some (fI t), some (fI v), some (fI n), some (fI g), x5]) (st_q := [.ref C]) (h_q := u) (cl_q := 0) (sl_q := 0) rfl ?_
      refine fw_gf rfl rfl uC rfl ?_
      refine ik_Wk 1 (pc_q := 48) (loc_q := [some (.ref C), some (fI t), some (fI v), some (fI n), some (fI g), x5]) (st_q := [.ref C, .ref 7]) (h_q := u) (cl_q := 0) (sl_q := 0) rfl ?_
      refine fw_gf rfl rfl uC rfl ?_
      refine ik_Wk 1 (pc_q := 52) (loc_q := [some (.ref C), some (fI t), some (fI v), some (fI n), some (fI g), x5]) (st_q := [.ref C, .ref a1, .ref 7]) (h_q := u) (cl_q := 0) (sl_q := 0) rfl ?_
      refine fw_gf rfl rfl uC rfl ?_
      refine fw_call 17 3 0 [.ref 7, .ref a1, .ref b1] [] rfl rfl rfl (Nat.le_of_ble_eq_true rfl) rfl rfl (fw_rec ul (fw_ftx rfl wv_n (wl_c (wl_r (by omega)) (wl_c rfl (wl_c rfl (wl_c rfl (wl_c rfl (wl_c w5 wl_n))))))) u7 rfl (by decide +kernel)) (cs_flow (a := a1) (b := b1) (pl := pl) (lo := lo) (s := s) (wg := wg) (wc := wc) (we := we) (xs := xs1) (ys := ys1) (by omega) q4 q5 his hgd (by omega) u7 u11 n11 u12 n12 u13 n13 ua1 na1 ub1 nb1 ul) ?_
      rintro _ h_124 ⟨ys'_124, rfl, e_124_b, m_124_b, p_124_0, F_124⟩
      have k_124 : cL h_124 := F_124.1.trans ul
      have fr_124 := hfr_c F F_124 (by intro b_ hb; simp at hb ⊢; omega)
      have g_124_7 := (F_124.2 7 (by simp <;> omega)).trans u7
      have g_124_11 := (F_124.2 11 (by simp <;> omega)).trans u11
      have g_124_12 := (F_124.2 12 (by simp <;> omega)).trans u12
      have g_124_13 := (F_124.2 13 (by simp <;> omega)).trans u13
      have g_124_C := (F_124.2 C (by simp <;> omega)).trans uC
      have g_124_M := (F_124.2 M (by simp <;> omega)).trans uM
      have g_124_a1 := (F_124.2 a1 (by simp <;> omega)).trans ua1
      have g_124_b1 : cE h_124 b1 (.inl (.long, fL ys'_124)) := e_124_b
      refine ik_Wk 0 (pc_q := 58) (loc_q := [some (.ref C), some (fI t), some (fI v), some (fI n), some (fI g), x5]) (st_q := []) (h_q := h_124) (cl_q := 0) (sl_q := 0) rfl ?_
      refine ik_Wk 1 (pc_q := 59) (loc_q := [some (.ref C), some (fI t), some (fI v), some (fI n), some (fI g), x5]) (st_q := [.ref C]) (h_q := h_124) (cl_q := 0) (sl_q := 0) rfl ?_
      refine fw_gf rfl rfl g_124_C rfl ?_
      refine ik_Wk 3 (pc_q := 66) (loc_q := [some (.ref C), some (fI t), some (fI v), some (fI n), some (fI g), some (.ref a1)]) (st_q := [.ref C, .ref C]) (h_q := h_124) (cl_q := 0) (sl_q := 0) rfl ?_
      refine fw_gf rfl rfl g_124_C rfl ?_
      refine fx_pf rfl rfl g_124_C (Nat.le_of_ble_eq_true rfl) rfl rfl ?_
      intro h_125 e_125 f_125 l_125
      have k_125 : cL h_125 := l_125.trans k_124
      have fr_125 := hfr_w fr_124 f_125 l_125 (by simp <;> omega)
      clear l_125
      have g_125_7 := (f_125 7 (by omega)).trans g_124_7
      have g_125_11 := (f_125 11 (by omega)).trans g_124_11
      have g_125_12 := (f_125 12 (by omega)).trans g_124_12
      have g_125_13 := (f_125 13 (by omega)).trans g_124_13
      have g_125_M := (f_125 M (by omega)).trans g_124_M
      have g_125_a1 := (f_125 a1 (by omega)).trans g_124_a1
      have g_125_b1 := (f_125 b1 (by omega)).trans g_124_b1
      have g_125_C : cE h_125 C (.inr (2, [.ref 7, fI kd, fI u1, .ref M, .ref b1, .ref b1])) := e_125
      refine ik_Wk 2 (pc_q := 75) (loc_q := [some (.ref C), some (fI t), some (fI v), some (fI n), some (fI g), some (.ref a1)]) (st_q := [.ref a1, .ref C]) (h_q := h_125) (cl_q := 0) (sl_q := 0) rfl ?_
      refine fx_pf rfl rfl g_125_C (Nat.le_of_ble_eq_true rfl) rfl rfl ?_
      intro h_126 e_126 f_126 l_126
      have k_126 : cL h_126 := l_126.trans k_125
      have fr_126 := hfr_w fr_125 f_126 l_126 (by simp <;> omega)
      clear l_126
      have g_126_7 := (f_126 7 (by omega)).trans g_125_7
      have g_126_11 := (f_126 11 (by omega)).trans g_125_11
      have g_126_12 := (f_126 12 (by omega)).trans g_125_12
      have g_126_13 := (f_126 13 (by omega)).trans g_125_13
      have g_126_M := (f_126 M (by omega)).trans g_125_M
      have g_126_a1 := (f_126 a1 (by omega)).trans g_125_a1
      have g_126_b1 := (f_126 b1 (by omega)).trans g_125_b1
      have g_126_C : cE h_126 C (.inr (2, [.ref 7, fI kd, fI u1, .ref M, .ref b1, .ref a1])) := e_126
      refine fw_inc (a := g) (loc_q := [some (.ref C), some (fI t), some (fI v), some (fI n), some (fI (g + 1)), some (.ref a1)]) rfl rfl (Nat.le_of_ble_eq_true rfl) rfl ?_
      refine ik_Wk 1 (pc_q := 37) (loc_q := [some (.ref C), some (fI t), some (fI v), some (fI n), some (fI (g + 1)), some (.ref a1)]) (st_q := []) (h_q := h_126) (cl_q := 0) (sl_q := 0) rfl ?_
      have hfg := mf_fl_gd q5 (by omega) hgd
      have hit2 : (n - g).toNat = (n - (g + 1)).toNat + 1 := by omega
      exact ih (g + 1) b1 a1 ys'_124 xs1 (mf_fl W (pl - 1) o) (some (.ref a1)) h_126 g_126_7 g_126_11 n11 g_126_12 n12 g_126_13 n13 g_126_C g_126_M nM g_126_b1 m_124_b g_126_a1 na1 k_126 fr_126 (by omega) (by omega) hfg.1 p_124_0 (by rw [hit, hit2]; rfl) (wl_r (by omega)) (by omega)

theorem cs_comeL {h : List ik_E} {C : Nat} {pl : Int} {lo : Int} {s : Nat} {t : Int} {kd : Int} {qp : Int} {ut : Int} {wg : List Int} {wc : List Int} {we : List Int} {W : Int → List (Int × Int)} (q0 : 20 < C ∧ C < 42) (q1 : 1 ≤ pl ∧ pl ≤ 12) (q2 : 0 ≤ qp ∧ qp < pl) (q3 : 0 ≤ kd ∧ kd ≤ 2) (q4 : ∀ x : Int, (0 : Int) ≤ x → x < pl - 1 → mx_wy wg wc we x (W x)) (q5 : ∀ x : Int, (0 : Int) ≤ x → x < pl - 1 → mx_ok pl (W x)) (q6 : (-2000000000 : Int) ≤ t ∧ t ≤ (2000000000 : Int)) {M : Nat} (hM : M = C + 1) (ht : (0 : Int) ≤ t ∧ t ≤ (200 : Int)) : ∀ (k : Nat) (v : Int) (u1 : Int) (a1 : Nat) (b1 : Nat) (cm1 : List Int) (xs1 : List Int) (ys1 : List Int) (x3 : Option Value) (x4 : Option Value) (x5 : Option Value) (u : List ik_E) (u7 : cE u 7 (.inr (0, [fI pl, fI ((s : Nat) : Int), fI lo, .ref 8, .ref 9, .ref 10, .ref 11, .ref 12, .ref 13]))) (u11 : cE u 11 (.inl (.int, fA wg))) (n11 : wg.length = (60 : Nat)) (u12 : cE u 12 (.inl (.int, fA wc))) (n12 : wc.length = (60 : Nat)) (u13 : cE u 13 (.inl (.int, fA we))) (n13 : we.length = (12 : Nat)) (uC : cE u C (.inr (2, [.ref 7, fI kd, fI u1, .ref M, .ref a1, .ref b1]))) (uM : cE u M (.inl (.int, fA cm1))) (nM : cm1.length = (201 : Nat)) (ua1 : cE u a1 (.inl (.long, fL xs1))) (na1 : xs1.length = (12 : Nat)) (ub1 : cE u b1 (.inl (.long, fL ys1))) (nb1 : ys1.length = (12 : Nat)) (ul : u.length = (94 : Nat)) (F : hfr [C, C + 1, C + 2, C + 3] h u) (hv : ut + 1 ≤ v ∧ (1 : Int) ≤ v ∧ v ≤ (201 : Int)) (hu : u1 = v - 1) (hvt : v ≤ t + 1 ∨ v = ut + 1) (hab : (a1 = C + 2 ∧ b1 = C + 3) ∨ (a1 = C + 3 ∧ b1 = C + 2)) (his : mf_is pl xs1 (mf_od W (pl - 1) kd qp u1.toNat)) (hcm : ∀ j : Nat, (j : Int) ≤ u1 → cm1.getD j 0 = mf_cm W (pl - 1) kd qp j) (w3 : ik_wl 94 x3 = true) (w4 : ik_wl 94 x4 = true) (w5 : ik_wl 94 x5 = true) (hk : 201 - v < (k : Int)), ik_G 31 20 [some (.ref C), some (fI t), some (fI v), x3, x4, x5] [] u (fun rv h_q => ∃ (u' : Int), rv = [fI (mf_ct W pl kd qp t)] ∧ mf_cv h_q C W pl kd qp u' ∧ (ut ≤ u' ∧ ((0 : Int) ≤ t ∧ t ≤ (200 : Int) → t ≤ u' ∧ (u' = ut ∨ u' = t))) ∧ hfr [C, C + 1, C + 2, C + 3] h h_q) := by
  intro k
  induction k with
  | zero => intro v u1 a1 b1 cm1 xs1 ys1 x3 x4 x5 u u7 u11 n11 u12 n12 u13 n13 uC uM nM ua1 na1 ub1 nb1 ul F hv hu hvt hab his hcm w3 w4 w5 hk; omega
  | succ k ih =>
    intro v u1 a1 b1 cm1 xs1 ys1 x3 x4 x5 u u7 u11 n11 u12 n12 u13 n13 uC uM nM ua1 na1 ub1 nb1 ul F hv hu hvt hab his hcm w3 w4 w5 hk
    refine ik_Wk 2 (pc_q := 22) (loc_q := [some (.ref C), some (fI t), some (fI v), x3, x4, x5]) (st_q := [fI t, fI v]) (h_q := u) (cl_q := 0) (sl_q := 0) rfl ?_
    refine fw_ic_gt rfl rfl (by omega) (by omega) (by omega) (by omega) (fun hc1 => ?_) (fun hc1 => ?_)
    · refine ik_Wk 1 (pc_q := 115) (loc_q := [some (.ref C), some (fI t), some (fI v), x3, x4, x5]) (st_q := [.ref C]) (h_q := u) (cl_q := 0) (sl_q := 0) rfl ?_
      refine fw_gf rfl rfl uC rfl ?_
      refine ik_Wk 1 (pc_q := 119) (loc_q := [some (.ref C), some (fI t), some (fI v), x3, x4, x5]) (st_q := [fI t, .ref M]) (h_q := u) (cl_q := 0) (sl_q := 0) rfl ?_
      refine fw_ial rfl uM (by omega) (by omega) (by omega) ?_
      exact ik_Wret rfl rfl ⟨_, _, rfl, rfl, rfl, rfl, ⟨u1, (by rw [hcm t.toNat (by omega)]; unfold mf_ct; rw [if_pos ht]), ⟨M, a1, b1, cm1, xs1, ys1, hM, hab, uC, uM, ua1, ub1, nM, na1, nb1, by omega, his, hcm⟩, (by omega), F⟩⟩
    · refine ik_Wk 1 (pc_q := 26) (loc_q := [some (.ref C), some (fI t), some (fI v), x3, x4, x5]) (st_q := [.ref C]) (h_q := u) (cl_q := 0) (sl_q := 0) rfl ?_
      refine fw_gf rfl rfl uC rfl ?_
      refine ik_Wk 1 (pc_q := 30) (loc_q := [some (.ref C), some (fI t), some (fI v), x3, x4, x5]) (st_q := [fI v, fI kd]) (h_q := u) (cl_q := 0) (sl_q := 0) rfl ?_
      refine ik_Wc 125 2 4 [fI kd, fI v] [] rfl rfl rfl (by decide +kernel) rfl rfl (fw_sta ul (fw_ftx rfl wv_n (wl_c (wl_r (by omega)) (wl_c rfl (wl_c rfl (wl_c w3 (wl_c w4 (wl_c w5 wl_n))))))) (by decide +kernel)) ?_
      refine ik_Wk 0 (pc_q := 0) (loc_q := [some (fI kd), some (fI v)]) (st_q := []) (h_q := u) (cl_q := 0) (sl_q := 0) rfl ?_
      refine ik_Wk 2 (pc_q := 2) (loc_q := [some (fI kd), some (fI v)]) (st_q := [fI 1, fI kd]) (h_q := u) (cl_q := 0) (sl_q := 0) rfl ?_
      refine fw_ic_ne rfl rfl (by omega) (by omega) (by omega) (by omega) (fun hc2 => ?_) (fun hc2 => ?_)
      · refine ik_Wk 1 (pc_q := 6) (loc_q := [some (fI kd), some (fI v)]) (st_q := [fI 2]) (h_q := u) (cl_q := 0) (sl_q := 0) rfl ?_
        refine ik_Wret rfl rfl ⟨_, _, rfl, rfl, ?_⟩
        refine ik_Wk 0 (pc_q := 33) (loc_q := [some (.ref C), some (fI t), some (fI v), x3, x4, x5]) (st_q := [fI 2]) (h_q := u) (cl_q := 0) (sl_q := 0) rfl ?_
        refine ik_Wk 3 (pc_q := 37) (loc_q := [some (.ref C), some (fI t), some (fI v), some (fI 2), some (fI 0), x5]) (st_q := []) (h_q := u) (cl_q := 0) (sl_q := 0) rfl ?_
        have et : mx_tm kd v = 2 := by unfold mx_tm; (repeat' split) <;> omega
        have hod := mf_od_s (W := W) (br := pl - 1) (k := kd) (q := qp) (u := v - 1) (by omega)
        rw [show v - 1 + 1 = v by omega, et, ← hu] at hod
        refine cs_comeG (C := C) (pl := pl) (lo := lo) (s := s) (t := t) (kd := kd) (qp := qp) (ut := ut) (wg := wg) (wc := wc) (we := we) (W := W) q0 q1 q2 q3 q4 q5 q6 v (by omega) 2 (by omega) M hM cm1 u1 (R := (fun rv h_q => ∃ (u' : Int), rv = [fI (mf_ct W pl kd qp t)] ∧ mf_cv h_q C W pl kd qp u' ∧ (ut ≤ u' ∧ (0 ≤ t ∧ t ≤ 200 → t ≤ u' ∧ (u' = ut ∨ u' = t))) ∧ hfr [C, C + 1, C + 2, C + 3] h h_q)) (fun h_127 a1_127 b1_127 xs1_127 ys1_127 g2_127 x5_127 g_127_7 g_127_11 m_127_11 g_127_12 m_127_12 g_127_13 m_127_13 g_127_C g_127_M m_127_M g_127_a1_127 m_127_a1_127 g_127_b1_127 m_127_b1_127 k_127 fr_127 hab_127 his_127 w5_127 => ?_) 3 0 a1 b1 xs1 ys1 (mf_od W (pl - 1) kd qp u1.toNat) x5 u u7 u11 n11 u12 n12 u13 n13 uC uM nM ua1 na1 ub1 nb1 ul F (by omega) hab (mf_od_gd q5 q2 _) his (by rw [hod]; rfl) w5 (by omega)
        refine ik_Wk 1 (pc_q := 85) (loc_q := [some (.ref C), some (fI t), some (fI v), some (fI 2), some (fI g2_127), x5_127]) (st_q := [.ref C]) (h_q := h_127) (cl_q := 0) (sl_q := 0) rfl ?_
        refine fw_gf rfl rfl g_127_C rfl ?_
        refine ik_Wk 2 (pc_q := 90) (loc_q := [some (.ref C), some (fI t), some (fI v), some (fI 2), some (fI g2_127), x5_127]) (st_q := [.ref C, fI v, .ref M]) (h_q := h_127) (cl_q := 0) (sl_q := 0) rfl ?_
        refine fw_gf rfl rfl g_127_C rfl ?_
        refine ik_Wk 1 (pc_q := 94) (loc_q := [some (.ref C), some (fI t), some (fI v), some (fI 2), some (fI g2_127), x5_127]) (st_q := [.ref C, .ref a1_127, fI v, .ref M]) (h_q := h_127) (cl_q := 0) (sl_q := 0) rfl ?_
        refine fw_gf rfl rfl g_127_C rfl ?_
        refine ik_Wc 2 1 0 [.ref 7] [.ref a1_127, fI v, .ref M] rfl rfl rfl (by decide +kernel) rfl rfl (fw_rec k_127 (fw_ftx rfl (wv_c (wv_r (by omega)) (wv_c rfl (wv_c (wv_r (by omega)) wv_n))) (wl_c (wl_r (by omega)) (wl_c rfl (wl_c rfl (wl_c rfl (wl_c rfl (wl_c w5_127 wl_n))))))) g_127_7 rfl (by decide +kernel)) ?_
        refine ik_Wk 0 (pc_q := 0) (loc_q := [some (.ref 7)]) (st_q := []) (h_q := h_127) (cl_q := 0) (sl_q := 0) rfl ?_
        refine ik_Wk 1 (pc_q := 1) (loc_q := [some (.ref 7)]) (st_q := [.ref 7]) (h_q := h_127) (cl_q := 0) (sl_q := 0) rfl ?_
        refine fw_gf rfl rfl g_127_7 rfl ?_
        refine ik_Wk 1 (pc_q := 5) (loc_q := [some (.ref 7)]) (st_q := [fI 1, fI pl]) (h_q := h_127) (cl_q := 0) (sl_q := 0) rfl ?_
        refine fw_sub rfl ?_
        refine ik_Wret rfl rfl ⟨_, _, rfl, rfl, ?_⟩
        refine ik_Wk 0 (pc_q := 100) (loc_q := [some (.ref C), some (fI t), some (fI v), some (fI 2), some (fI g2_127), x5_127]) (st_q := [fI (pl - 1), .ref a1_127, fI v, .ref M]) (h_q := h_127) (cl_q := 0) (sl_q := 0) rfl ?_
        refine fx_lal rfl g_127_a1_127 (by omega) (by omega) (by omega) ?_
        refine fx_l2i rfl ?_
        have hl3 : (cm1.set v.toNat (xs1_127.getD (pl - 1).toNat 0)).length = 201 := (List.length_set ..).trans m_127_M
        refine fx_ias rfl g_127_M (by omega) (by omega) (by omega) ?_
        intro h_128 e_128 f_128 l_128
        have k_128 : cL h_128 := l_128.trans k_127
        have fr_128 := hfr_w fr_127 f_128 l_128 (by simp <;> omega)
        clear l_128
        have g_128_7 := (f_128 7 (by omega)).trans g_127_7
        have g_128_11 := (f_128 11 (by omega)).trans g_127_11
        have g_128_12 := (f_128 12 (by omega)).trans g_127_12
        have g_128_13 := (f_128 13 (by omega)).trans g_127_13
        have g_128_C := (f_128 C (by omega)).trans g_127_C
        have g_128_a1_127 := (f_128 a1_127 (by omega)).trans g_127_a1_127
        have g_128_b1_127 := (f_128 b1_127 (by omega)).trans g_127_b1_127
        have g_128_M : cE h_128 M (.inl (.int, fA (cm1.set v.toNat (xs1_127.getD (pl - 1).toNat 0)))) := e_128
        refine ik_Wk 2 (pc_q := 105) (loc_q := [some (.ref C), some (fI t), some (fI v), some (fI 2), some (fI g2_127), x5_127]) (st_q := [fI v, .ref C]) (h_q := h_128) (cl_q := 0) (sl_q := 0) rfl ?_
        refine fx_pf rfl rfl g_128_C (Nat.le_of_ble_eq_true rfl) rfl rfl ?_
        intro h_129 e_129 f_129 l_129
        have k_129 : cL h_129 := l_129.trans k_128
        have fr_129 := hfr_w fr_128 f_129 l_129 (by simp <;> omega)
        clear l_129
        have g_129_7 := (f_129 7 (by omega)).trans g_128_7
        have g_129_11 := (f_129 11 (by omega)).trans g_128_11
        have g_129_12 := (f_129 12 (by omega)).trans g_128_12
        have g_129_13 := (f_129 13 (by omega)).trans g_128_13
        have g_129_M := (f_129 M (by omega)).trans g_128_M
        have g_129_a1_127 := (f_129 a1_127 (by omega)).trans g_128_a1_127
        have g_129_b1_127 := (f_129 b1_127 (by omega)).trans g_128_b1_127
        have g_129_C : cE h_129 C (.inr (2, [.ref 7, fI kd, fI v, .ref M, .ref a1_127, .ref b1_127])) := e_129
        refine fw_inc (a := v) (loc_q := [some (.ref C), some (fI t), some (fI (v + 1)), some (fI 2), some (fI g2_127), x5_127]) rfl rfl (Nat.le_of_ble_eq_true rfl) rfl ?_
        refine ik_Wk 1 (pc_q := 20) (loc_q := [some (.ref C), some (fI t), some (fI (v + 1)), some (fI 2), some (fI g2_127), x5_127]) (st_q := []) (h_q := h_129) (cl_q := 0) (sl_q := 0) rfl ?_
        have hcm2 : ∀ j : Nat, (j : Int) ≤ v → (cm1.set v.toNat (xs1_127.getD (pl - 1).toNat 0)).getD j 0 = mf_cm W (pl - 1) kd qp j := by
          intro j hj
          rw [fz_getD_set]
          by_cases z : j = v.toNat
          · rw [if_pos ⟨z, by omega⟩, z]; exact his_127 _ (by omega)
          · rw [if_neg (fun y => z y.1)]; exact hcm j (by omega)
        exact ih (v + 1) v a1_127 b1_127 (cm1.set v.toNat (xs1_127.getD (pl - 1).toNat 0)) xs1_127 ys1_127 (some (fI 2)) (some (fI g2_127)) x5_127 h_129 g_129_7 g_129_11 m_127_11 g_129_12 m_127_12 g_129_13 m_127_13 g_129_C g_129_M hl3 g_129_a1_127 m_127_a1_127 g_129_b1_127 m_127_b1_127 k_129 fr_129 (by omega) (by omega) (by omega) hab_127 his_127 hcm2 rfl rfl w5_127 (by omega)
      · refine ik_Wk 2 (pc_q := 9) (loc_q := [some (fI kd), some (fI v)]) (st_q := [fI 2, fI kd]) (h_q := u) (cl_q := 0) (sl_q := 0) rfl ?_
        refine fw_ic_ne rfl rfl (by omega) (by omega) (by omega) (by omega) (fun hc4 => ?_) (fun hc4 => ?_)
        · refine ik_Wk 2 (pc_q := 14) (loc_q := [some (fI kd), some (fI v)]) (st_q := [fI 2, fI v]) (h_q := u) (cl_q := 0) (sl_q := 0) rfl ?_
          refine fx_irem rfl (by omega) (by omega) (by omega) (by omega) ?_
          refine fw_if_eq rfl rfl (by omega) (by omega) (fun hc5 => ?_) (fun hc5 => ?_)
          · refine ik_Wk 1 (pc_q := 23) (loc_q := [some (fI kd), some (fI v)]) (st_q := [fI 1]) (h_q := u) (cl_q := 0) (sl_q := 0) rfl ?_
            refine ik_Wret rfl rfl ⟨_, _, rfl, rfl, ?_⟩
            refine ik_Wk 0 (pc_q := 33) (loc_q := [some (.ref C), some (fI t), some (fI v), x3, x4, x5]) (st_q := [fI 1]) (h_q := u) (cl_q := 0) (sl_q := 0) rfl ?_
            refine ik_Wk 3 (pc_q := 37) (loc_q := [some (.ref C), some (fI t), some (fI v), some (fI 1), some (fI 0), x5]) (st_q := []) (h_q := u) (cl_q := 0) (sl_q := 0) rfl ?_
            have et : mx_tm kd v = 1 := by unfold mx_tm; (repeat' split) <;> omega
            have hod := mf_od_s (W := W) (br := pl - 1) (k := kd) (q := qp) (u := v - 1) (by omega)
            rw [show v - 1 + 1 = v by omega, et, ← hu] at hod
            refine cs_comeG (C := C) (pl := pl) (lo := lo) (s := s) (t := t) (kd := kd) (qp := qp) (ut := ut) (wg := wg) (wc := wc) (we := we) (W := W) q0 q1 q2 q3 q4 q5 q6 v (by omega) 1 (by omega) M hM cm1 u1 (R := (fun rv h_q => ∃ (u' : Int), rv = [fI (mf_ct W pl kd qp t)] ∧ mf_cv h_q C W pl kd qp u' ∧ (ut ≤ u' ∧ (0 ≤ t ∧ t ≤ 200 → t ≤ u' ∧ (u' = ut ∨ u' = t))) ∧ hfr [C, C + 1, C + 2, C + 3] h h_q)) (fun h_130 a1_130 b1_130 xs1_130 ys1_130 g2_130 x5_130 g_130_7 g_130_11 m_130_11 g_130_12 m_130_12 g_130_13 m_130_13 g_130_C g_130_M m_130_M g_130_a1_130 m_130_a1_130 g_130_b1_130 m_130_b1_130 k_130 fr_130 hab_130 his_130 w5_130 => ?_) 3 0 a1 b1 xs1 ys1 (mf_od W (pl - 1) kd qp u1.toNat) x5 u u7 u11 n11 u12 n12 u13 n13 uC uM nM ua1 na1 ub1 nb1 ul F (by omega) hab (mf_od_gd q5 q2 _) his (by rw [hod]; rfl) w5 (by omega)
            refine ik_Wk 1 (pc_q := 85) (loc_q := [some (.ref C), some (fI t), some (fI v), some (fI 1), some (fI g2_130), x5_130]) (st_q := [.ref C]) (h_q := h_130) (cl_q := 0) (sl_q := 0) rfl ?_
            refine fw_gf rfl rfl g_130_C rfl ?_
            refine ik_Wk 2 (pc_q := 90) (loc_q := [some (.ref C), some (fI t), some (fI v), some (fI 1), some (fI g2_130), x5_130]) (st_q := [.ref C, fI v, .ref M]) (h_q := h_130) (cl_q := 0) (sl_q := 0) rfl ?_
            refine fw_gf rfl rfl g_130_C rfl ?_
            refine ik_Wk 1 (pc_q := 94) (loc_q := [some (.ref C), some (fI t), some (fI v), some (fI 1), some (fI g2_130), x5_130]) (st_q := [.ref C, .ref a1_130, fI v, .ref M]) (h_q := h_130) (cl_q := 0) (sl_q := 0) rfl ?_
            refine fw_gf rfl rfl g_130_C rfl ?_
            refine ik_Wc 2 1 0 [.ref 7] [.ref a1_130, fI v, .ref M] rfl rfl rfl (by decide +kernel) rfl rfl (fw_rec k_130 (fw_ftx rfl (wv_c (wv_r (by omega)) (wv_c rfl (wv_c (wv_r (by omega)) wv_n))) (wl_c (wl_r (by omega)) (wl_c rfl (wl_c rfl (wl_c rfl (wl_c rfl (wl_c w5_130 wl_n))))))) g_130_7 rfl (by decide +kernel)) ?_
            refine ik_Wk 0 (pc_q := 0) (loc_q := [some (.ref 7)]) (st_q := []) (h_q := h_130) (cl_q := 0) (sl_q := 0) rfl ?_
            refine ik_Wk 1 (pc_q := 1) (loc_q := [some (.ref 7)]) (st_q := [.ref 7]) (h_q := h_130) (cl_q := 0) (sl_q := 0) rfl ?_
            refine fw_gf rfl rfl g_130_7 rfl ?_
            refine ik_Wk 1 (pc_q := 5) (loc_q := [some (.ref 7)]) (st_q := [fI 1, fI pl]) (h_q := h_130) (cl_q := 0) (sl_q := 0) rfl ?_
            refine fw_sub rfl ?_
            refine ik_Wret rfl rfl ⟨_, _, rfl, rfl, ?_⟩
            refine ik_Wk 0 (pc_q := 100) (loc_q := [some (.ref C), some (fI t), some (fI v), some (fI 1), some (fI g2_130), x5_130]) (st_q := [fI (pl - 1), .ref a1_130, fI v, .ref M]) (h_q := h_130) (cl_q := 0) (sl_q := 0) rfl ?_
            refine fx_lal rfl g_130_a1_130 (by omega) (by omega) (by omega) ?_
            refine fx_l2i rfl ?_
            have hl6 : (cm1.set v.toNat (xs1_130.getD (pl - 1).toNat 0)).length = 201 := (List.length_set ..).trans m_130_M
            refine fx_ias rfl g_130_M (by omega) (by omega) (by omega) ?_
            intro h_131 e_131 f_131 l_131
            have k_131 : cL h_131 := l_131.trans k_130
            have fr_131 := hfr_w fr_130 f_131 l_131 (by simp <;> omega)
            clear l_131
            have g_131_7 := (f_131 7 (by omega)).trans g_130_7
            have g_131_11 := (f_131 11 (by omega)).trans g_130_11
            have g_131_12 := (f_131 12 (by omega)).trans g_130_12
            have g_131_13 := (f_131 13 (by omega)).trans g_130_13
            have g_131_C := (f_131 C (by omega)).trans g_130_C
            have g_131_a1_130 := (f_131 a1_130 (by omega)).trans g_130_a1_130
            have g_131_b1_130 := (f_131 b1_130 (by omega)).trans g_130_b1_130
            have g_131_M : cE h_131 M (.inl (.int, fA (cm1.set v.toNat (xs1_130.getD (pl - 1).toNat 0)))) := e_131
            refine ik_Wk 2 (pc_q := 105) (loc_q := [some (.ref C), some (fI t), some (fI v), some (fI 1), some (fI g2_130), x5_130]) (st_q := [fI v, .ref C]) (h_q := h_131) (cl_q := 0) (sl_q := 0) rfl ?_
            refine fx_pf rfl rfl g_131_C (Nat.le_of_ble_eq_true rfl) rfl rfl ?_
            intro h_132 e_132 f_132 l_132
            have k_132 : cL h_132 := l_132.trans k_131
            have fr_132 := hfr_w fr_131 f_132 l_132 (by simp <;> omega)
            clear l_132
            have g_132_7 := (f_132 7 (by omega)).trans g_131_7
            have g_132_11 := (f_132 11 (by omega)).trans g_131_11
            have g_132_12 := (f_132 12 (by omega)).trans g_131_12
            have g_132_13 := (f_132 13 (by omega)).trans g_131_13
            have g_132_M := (f_132 M (by omega)).trans g_131_M
            have g_132_a1_130 := (f_132 a1_130 (by omega)).trans g_131_a1_130
            have g_132_b1_130 := (f_132 b1_130 (by omega)).trans g_131_b1_130
            have g_132_C : cE h_132 C (.inr (2, [.ref 7, fI kd, fI v, .ref M, .ref a1_130, .ref b1_130])) := e_132
            refine fw_inc (a := v) (loc_q := [some (.ref C), some (fI t), some (fI (v + 1)), some (fI 1), some (fI g2_130), x5_130]) rfl rfl (Nat.le_of_ble_eq_true rfl) rfl ?_
            refine ik_Wk 1 (pc_q := 20) (loc_q := [some (.ref C), some (fI t), some (fI (v + 1)), some (fI 1), some (fI g2_130), x5_130]) (st_q := []) (h_q := h_132) (cl_q := 0) (sl_q := 0) rfl ?_
            have hcm2 : ∀ j : Nat, (j : Int) ≤ v → (cm1.set v.toNat (xs1_130.getD (pl - 1).toNat 0)).getD j 0 = mf_cm W (pl - 1) kd qp j := by
              intro j hj
              rw [fz_getD_set]
              by_cases z : j = v.toNat
              · rw [if_pos ⟨z, by omega⟩, z]; exact his_130 _ (by omega)
              · rw [if_neg (fun y => z y.1)]; exact hcm j (by omega)
            exact ih (v + 1) v a1_130 b1_130 (cm1.set v.toNat (xs1_130.getD (pl - 1).toNat 0)) xs1_130 ys1_130 (some (fI 1)) (some (fI g2_130)) x5_130 h_132 g_132_7 g_132_11 m_130_11 g_132_12 m_130_12 g_132_13 m_130_13 g_132_C g_132_M hl6 g_132_a1_130 m_130_a1_130 g_132_b1_130 m_130_b1_130 k_132 fr_132 (by omega) (by omega) (by omega) hab_130 his_130 hcm2 rfl rfl w5_130 (by omega)
          · refine ik_Wk 2 (pc_q := 23) (loc_q := [some (fI kd), some (fI v)]) (st_q := [fI 0]) (h_q := u) (cl_q := 0) (sl_q := 0) rfl ?_
            refine ik_Wret rfl rfl ⟨_, _, rfl, rfl, ?_⟩
            refine ik_Wk 0 (pc_q := 33) (loc_q := [some (.ref C), some (fI t), some (fI v), x3, x4, x5]) (st_q := [fI 0]) (h_q := u) (cl_q := 0) (sl_q := 0) rfl ?_
            refine ik_Wk 3 (pc_q := 37) (loc_q := [some (.ref C), some (fI t), some (fI v), some (fI 0), some (fI 0), x5]) (st_q := []) (h_q := u) (cl_q := 0) (sl_q := 0) rfl ?_
            have et : mx_tm kd v = 0 := by unfold mx_tm; (repeat' split) <;> omega
            have hod := mf_od_s (W := W) (br := pl - 1) (k := kd) (q := qp) (u := v - 1) (by omega)
            rw [show v - 1 + 1 = v by omega, et, ← hu] at hod
            refine cs_comeG (C := C) (pl := pl) (lo := lo) (s := s) (t := t) (kd := kd) (qp := qp) (ut := ut) (wg := wg) (wc := wc) (we := we) (W := W) q0 q1 q2 q3 q4 q5 q6 v (by omega) 0 (by omega) M hM cm1 u1 (R := (fun rv h_q => ∃ (u' : Int), rv = [fI (mf_ct W pl kd qp t)] ∧ mf_cv h_q C W pl kd qp u' ∧ (ut ≤ u' ∧ (0 ≤ t ∧ t ≤ 200 → t ≤ u' ∧ (u' = ut ∨ u' = t))) ∧ hfr [C, C + 1, C + 2, C + 3] h h_q)) (fun h_133 a1_133 b1_133 xs1_133 ys1_133 g2_133 x5_133 g_133_7 g_133_11 m_133_11 g_133_12 m_133_12 g_133_13 m_133_13 g_133_C g_133_M m_133_M g_133_a1_133 m_133_a1_133 g_133_b1_133 m_133_b1_133 k_133 fr_133 hab_133 his_133 w5_133 => ?_) 3 0 a1 b1 xs1 ys1 (mf_od W (pl - 1) kd qp u1.toNat) x5 u u7 u11 n11 u12 n12 u13 n13 uC uM nM ua1 na1 ub1 nb1 ul F (by omega) hab (mf_od_gd q5 q2 _) his (by rw [hod]; rfl) w5 (by omega)
            refine ik_Wk 1 (pc_q := 85) (loc_q := [some (.ref C), some (fI t), some (fI v), some (fI 0), some (fI g2_133), x5_133]) (st_q := [.ref C]) (h_q := h_133) (cl_q := 0) (sl_q := 0) rfl ?_
            refine fw_gf rfl rfl g_133_C rfl ?_
            refine ik_Wk 2 (pc_q := 90) (loc_q := [some (.ref C), some (fI t), some (fI v), some (fI 0), some (fI g2_133), x5_133]) (st_q := [.ref C, fI v, .ref M]) (h_q := h_133) (cl_q := 0) (sl_q := 0) rfl ?_
            refine fw_gf rfl rfl g_133_C rfl ?_
            refine ik_Wk 1 (pc_q := 94) (loc_q := [some (.ref C), some (fI t), some (fI v), some (fI 0), some (fI g2_133), x5_133]) (st_q := [.ref C, .ref a1_133, fI v, .ref M]) (h_q := h_133) (cl_q := 0) (sl_q := 0) rfl ?_
            refine fw_gf rfl rfl g_133_C rfl ?_
            refine ik_Wc 2 1 0 [.ref 7] [.ref a1_133, fI v, .ref M] rfl rfl rfl (by decide +kernel) rfl rfl (fw_rec k_133 (fw_ftx rfl (wv_c (wv_r (by omega)) (wv_c rfl (wv_c (wv_r (by omega)) wv_n))) (wl_c (wl_r (by omega)) (wl_c rfl (wl_c rfl (wl_c rfl (wl_c rfl (wl_c w5_133 wl_n))))))) g_133_7 rfl (by decide +kernel)) ?_
            refine ik_Wk 0 (pc_q := 0) (loc_q := [some (.ref 7)]) (st_q := []) (h_q := h_133) (cl_q := 0) (sl_q := 0) rfl ?_
            refine ik_Wk 1 (pc_q := 1) (loc_q := [some (.ref 7)]) (st_q := [.ref 7]) (h_q := h_133) (cl_q := 0) (sl_q := 0) rfl ?_
            refine fw_gf rfl rfl g_133_7 rfl ?_
            refine ik_Wk 1 (pc_q := 5) (loc_q := [some (.ref 7)]) (st_q := [fI 1, fI pl]) (h_q := h_133) (cl_q := 0) (sl_q := 0) rfl ?_
            refine fw_sub rfl ?_
            refine ik_Wret rfl rfl ⟨_, _, rfl, rfl, ?_⟩
            refine ik_Wk 0 (pc_q := 100) (loc_q := [some (.ref C), some (fI t), some (fI v), some (fI 0), some (fI g2_133), x5_133]) (st_q := [fI (pl - 1), .ref a1_133, fI v, .ref M]) (h_q := h_133) (cl_q := 0) (sl_q := 0) rfl ?_
            refine fx_lal rfl g_133_a1_133 (by omega) (by omega) (by omega) ?_
            refine fx_l2i rfl ?_
            have hl7 : (cm1.set v.toNat (xs1_133.getD (pl - 1).toNat 0)).length = 201 := (List.length_set ..).trans m_133_M
            refine fx_ias rfl g_133_M (by omega) (by omega) (by omega) ?_
            intro h_134 e_134 f_134 l_134
            have k_134 : cL h_134 := l_134.trans k_133
            have fr_134 := hfr_w fr_133 f_134 l_134 (by simp <;> omega)
            clear l_134
            have g_134_7 := (f_134 7 (by omega)).trans g_133_7
            have g_134_11 := (f_134 11 (by omega)).trans g_133_11
            have g_134_12 := (f_134 12 (by omega)).trans g_133_12
            have g_134_13 := (f_134 13 (by omega)).trans g_133_13
            have g_134_C := (f_134 C (by omega)).trans g_133_C
            have g_134_a1_133 := (f_134 a1_133 (by omega)).trans g_133_a1_133
            have g_134_b1_133 := (f_134 b1_133 (by omega)).trans g_133_b1_133
            have g_134_M : cE h_134 M (.inl (.int, fA (cm1.set v.toNat (xs1_133.getD (pl - 1).toNat 0)))) := e_134
            refine ik_Wk 2 (pc_q := 105) (loc_q := [some (.ref C), some (fI t), some (fI v), some (fI 0), some (fI g2_133), x5_133]) (st_q := [fI v, .ref C]) (h_q := h_134) (cl_q := 0) (sl_q := 0) rfl ?_
            refine fx_pf rfl rfl g_134_C (Nat.le_of_ble_eq_true rfl) rfl rfl ?_
            intro h_135 e_135 f_135 l_135
            have k_135 : cL h_135 := l_135.trans k_134
            have fr_135 := hfr_w fr_134 f_135 l_135 (by simp <;> omega)
            clear l_135
            have g_135_7 := (f_135 7 (by omega)).trans g_134_7
            have g_135_11 := (f_135 11 (by omega)).trans g_134_11
            have g_135_12 := (f_135 12 (by omega)).trans g_134_12
            have g_135_13 := (f_135 13 (by omega)).trans g_134_13
            have g_135_M := (f_135 M (by omega)).trans g_134_M
            have g_135_a1_133 := (f_135 a1_133 (by omega)).trans g_134_a1_133
            have g_135_b1_133 := (f_135 b1_133 (by omega)).trans g_134_b1_133
            have g_135_C : cE h_135 C (.inr (2, [.ref 7, fI kd, fI v, .ref M, .ref a1_133, .ref b1_133])) := e_135
            refine fw_inc (a := v) (loc_q := [some (.ref C), some (fI t), some (fI (v + 1)), some (fI 0), some (fI g2_133), x5_133]) rfl rfl (Nat.le_of_ble_eq_true rfl) rfl ?_
            refine ik_Wk 1 (pc_q := 20) (loc_q := [some (.ref C), some (fI t), some (fI (v + 1)), some (fI 0), some (fI g2_133), x5_133]) (st_q := []) (h_q := h_135) (cl_q := 0) (sl_q := 0) rfl ?_
            have hcm2 : ∀ j : Nat, (j : Int) ≤ v → (cm1.set v.toNat (xs1_133.getD (pl - 1).toNat 0)).getD j 0 = mf_cm W (pl - 1) kd qp j := by
              intro j hj
              rw [fz_getD_set]
              by_cases z : j = v.toNat
              · rw [if_pos ⟨z, by omega⟩, z]; exact his_133 _ (by omega)
              · rw [if_neg (fun y => z y.1)]; exact hcm j (by omega)
            exact ih (v + 1) v a1_133 b1_133 (cm1.set v.toNat (xs1_133.getD (pl - 1).toNat 0)) xs1_133 ys1_133 (some (fI 0)) (some (fI g2_133)) x5_133 h_135 g_135_7 g_135_11 m_133_11 g_135_12 m_133_12 g_135_13 m_133_13 g_135_C g_135_M hl7 g_135_a1_133 m_133_a1_133 g_135_b1_133 m_133_b1_133 k_135 fr_135 (by omega) (by omega) (by omega) hab_133 his_133 hcm2 rfl rfl w5_133 (by omega)
        · refine ik_Wk 1 (pc_q := 23) (loc_q := [some (fI kd), some (fI v)]) (st_q := [fI 1]) (h_q := u) (cl_q := 0) (sl_q := 0) rfl ?_
          refine ik_Wret rfl rfl ⟨_, _, rfl, rfl, ?_⟩
          refine ik_Wk 0 (pc_q := 33) (loc_q := [some (.ref C), some (fI t), some (fI v), x3, x4, x5]) (st_q := [fI 1]) (h_q := u) (cl_q := 0) (sl_q := 0) rfl ?_
          refine ik_Wk 3 (pc_q := 37) (loc_q := [some (.ref C), some (fI t), some (fI v), some (fI 1), some (fI 0), x5]) (st_q := []) (h_q := u) (cl_q := 0) (sl_q := 0) rfl ?_
          have et : mx_tm kd v = 1 := by unfold mx_tm; (repeat' split) <;> omega
          have hod := mf_od_s (W := W) (br := pl - 1) (k := kd) (q := qp) (u := v - 1) (by omega)
          rw [show v - 1 + 1 = v by omega, et, ← hu] at hod
          refine cs_comeG (C := C) (pl := pl) (lo := lo) (s := s) (t := t) (kd := kd) (qp := qp) (ut := ut) (wg := wg) (wc := wc) (we := we) (W := W) q0 q1 q2 q3 q4 q5 q6 v (by omega) 1 (by omega) M hM cm1 u1 (R := (fun rv h_q => ∃ (u' : Int), rv = [fI (mf_ct W pl kd qp t)] ∧ mf_cv h_q C W pl kd qp u' ∧ (ut ≤ u' ∧ (0 ≤ t ∧ t ≤ 200 → t ≤ u' ∧ (u' = ut ∨ u' = t))) ∧ hfr [C, C + 1, C + 2, C + 3] h h_q)) (fun h_136 a1_136 b1_136 xs1_136 ys1_136 g2_136 x5_136 g_136_7 g_136_11 m_136_11 g_136_12 m_136_12 g_136_13 m_136_13 g_136_C g_136_M m_136_M g_136_a1_136 m_136_a1_136 g_136_b1_136 m_136_b1_136 k_136 fr_136 hab_136 his_136 w5_136 => ?_) 3 0 a1 b1 xs1 ys1 (mf_od W (pl - 1) kd qp u1.toNat) x5 u u7 u11 n11 u12 n12 u13 n13 uC uM nM ua1 na1 ub1 nb1 ul F (by omega) hab (mf_od_gd q5 q2 _) his (by rw [hod]; rfl) w5 (by omega)
          refine ik_Wk 1 (pc_q := 85) (loc_q := [some (.ref C), some (fI t), some (fI v), some (fI 1), some (fI g2_136), x5_136]) (st_q := [.ref C]) (h_q := h_136) (cl_q := 0) (sl_q := 0) rfl ?_
          refine fw_gf rfl rfl g_136_C rfl ?_
          refine ik_Wk 2 (pc_q := 90) (loc_q := [some (.ref C), some (fI t), some (fI v), some (fI 1), some (fI g2_136), x5_136]) (st_q := [.ref C, fI v, .ref M]) (h_q := h_136) (cl_q := 0) (sl_q := 0) rfl ?_
          refine fw_gf rfl rfl g_136_C rfl ?_
          refine ik_Wk 1 (pc_q := 94) (loc_q := [some (.ref C), some (fI t), some (fI v), some (fI 1), some (fI g2_136), x5_136]) (st_q := [.ref C, .ref a1_136, fI v, .ref M]) (h_q := h_136) (cl_q := 0) (sl_q := 0) rfl ?_
          refine fw_gf rfl rfl g_136_C rfl ?_
          refine ik_Wc 2 1 0 [.ref 7] [.ref a1_136, fI v, .ref M] rfl rfl rfl (by decide +kernel) rfl rfl (fw_rec k_136 (fw_ftx rfl (wv_c (wv_r (by omega)) (wv_c rfl (wv_c (wv_r (by omega)) wv_n))) (wl_c (wl_r (by omega)) (wl_c rfl (wl_c rfl (wl_c rfl (wl_c rfl (wl_c w5_136 wl_n))))))) g_136_7 rfl (by decide +kernel)) ?_
          refine ik_Wk 0 (pc_q := 0) (loc_q := [some (.ref 7)]) (st_q := []) (h_q := h_136) (cl_q := 0) (sl_q := 0) rfl ?_
          refine ik_Wk 1 (pc_q := 1) (loc_q := [some (.ref 7)]) (st_q := [.ref 7]) (h_q := h_136) (cl_q := 0) (sl_q := 0) rfl ?_
          refine fw_gf rfl rfl g_136_7 rfl ?_
          refine ik_Wk 1 (pc_q := 5) (loc_q := [some (.ref 7)]) (st_q := [fI 1, fI pl]) (h_q := h_136) (cl_q := 0) (sl_q := 0) rfl ?_
          refine fw_sub rfl ?_
          refine ik_Wret rfl rfl ⟨_, _, rfl, rfl, ?_⟩
          refine ik_Wk 0 (pc_q := 100) (loc_q := [some (.ref C), some (fI t), some (fI v), some (fI 1), some (fI g2_136), x5_136]) (st_q := [fI (pl - 1), .ref a1_136, fI v, .ref M]) (h_q := h_136) (cl_q := 0) (sl_q := 0) rfl ?_
          refine fx_lal rfl g_136_a1_136 (by omega) (by omega) (by omega) ?_
          refine fx_l2i rfl ?_
          have hl8 : (cm1.set v.toNat (xs1_136.getD (pl - 1).toNat 0)).length = 201 := (List.length_set ..).trans m_136_M
          refine fx_ias rfl g_136_M (by omega) (by omega) (by omega) ?_
          intro h_137 e_137 f_137 l_137
          have k_137 : cL h_137 := l_137.trans k_136
          have fr_137 := hfr_w fr_136 f_137 l_137 (by simp <;> omega)
          clear l_137
          have g_137_7 := (f_137 7 (by omega)).trans g_136_7
          have g_137_11 := (f_137 11 (by omega)).trans g_136_11
          have g_137_12 := (f_137 12 (by omega)).trans g_136_12
          have g_137_13 := (f_137 13 (by omega)).trans g_136_13
          have g_137_C := (f_137 C (by omega)).trans g_136_C
          have g_137_a1_136 := (f_137 a1_136 (by omega)).trans g_136_a1_136
          have g_137_b1_136 := (f_137 b1_136 (by omega)).trans g_136_b1_136
          have g_137_M : cE h_137 M (.inl (.int, fA (cm1.set v.toNat (xs1_136.getD (pl - 1).toNat 0)))) := e_137
          refine ik_Wk 2 (pc_q := 105) (loc_q := [some (.ref C), some (fI t), some (fI v), some (fI 1), some (fI g2_136), x5_136]) (st_q := [fI v, .ref C]) (h_q := h_137) (cl_q := 0) (sl_q := 0) rfl ?_
          refine fx_pf rfl rfl g_137_C (Nat.le_of_ble_eq_true rfl) rfl rfl ?_
          intro h_138 e_138 f_138 l_138
          have k_138 : cL h_138 := l_138.trans k_137
          have fr_138 := hfr_w fr_137 f_138 l_138 (by simp <;> omega)
          clear l_138
          have g_138_7 := (f_138 7 (by omega)).trans g_137_7
          have g_138_11 := (f_138 11 (by omega)).trans g_137_11
          have g_138_12 := (f_138 12 (by omega)).trans g_137_12
          have g_138_13 := (f_138 13 (by omega)).trans g_137_13
          have g_138_M := (f_138 M (by omega)).trans g_137_M
          have g_138_a1_136 := (f_138 a1_136 (by omega)).trans g_137_a1_136
          have g_138_b1_136 := (f_138 b1_136 (by omega)).trans g_137_b1_136
          have g_138_C : cE h_138 C (.inr (2, [.ref 7, fI kd, fI v, .ref M, .ref a1_136, .ref b1_136])) := e_138
          refine fw_inc (a := v) (loc_q := [some (.ref C), some (fI t), some (fI (v + 1)), some (fI 1), some (fI g2_136), x5_136]) rfl rfl (Nat.le_of_ble_eq_true rfl) rfl ?_
          refine ik_Wk 1 (pc_q := 20) (loc_q := [some (.ref C), some (fI t), some (fI (v + 1)), some (fI 1), some (fI g2_136), x5_136]) (st_q := []) (h_q := h_138) (cl_q := 0) (sl_q := 0) rfl ?_
          have hcm2 : ∀ j : Nat, (j : Int) ≤ v → (cm1.set v.toNat (xs1_136.getD (pl - 1).toNat 0)).getD j 0 = mf_cm W (pl - 1) kd qp j := by
            intro j hj
            rw [fz_getD_set]
            by_cases z : j = v.toNat
            · rw [if_pos ⟨z, by omega⟩, z]; exact his_136 _ (by omega)
            · rw [if_neg (fun y => z y.1)]; exact hcm j (by omega)
          exact ih (v + 1) v a1_136 b1_136 (cm1.set v.toNat (xs1_136.getD (pl - 1).toNat 0)) xs1_136 ys1_136 (some (fI 1)) (some (fI g2_136)) x5_136 h_138 g_138_7 g_138_11 m_136_11 g_138_12 m_136_12 g_138_13 m_136_13 g_138_C g_138_M hl8 g_138_a1_136 m_136_a1_136 g_138_b1_136 m_136_b1_136 k_138 fr_138 (by omega) (by omega) (by omega) hab_136 his_136 hcm2 rfl rfl w5_136 (by omega)

theorem cs_come {h : List ik_E} {C : Nat} {pl : Int} {lo : Int} {s : Nat} {t : Int} {kd : Int} {qp : Int} {ut : Int} {wg : List Int} {wc : List Int} {we : List Int} {W : Int → List (Int × Int)} (q0 : 20 < C ∧ C < 42) (q1 : 1 ≤ pl ∧ pl ≤ 12) (q2 : 0 ≤ qp ∧ qp < pl) (q3 : 0 ≤ kd ∧ kd ≤ 2) (q4 : ∀ x : Int, (0 : Int) ≤ x → x < pl - 1 → mx_wy wg wc we x (W x)) (q5 : ∀ x : Int, (0 : Int) ≤ x → x < pl - 1 → mx_ok pl (W x)) (q6 : (-2000000000 : Int) ≤ t ∧ t ≤ (2000000000 : Int)) (h7 : cE h 7 (.inr (0, [fI pl, fI ((s : Nat) : Int), fI lo, .ref 8, .ref 9, .ref 10, .ref 11, .ref 12, .ref 13]))) (h11 : cE h 11 (.inl (.int, fA wg))) (n11 : wg.length = (60 : Nat)) (h12 : cE h 12 (.inl (.int, fA wc))) (n12 : wc.length = (60 : Nat)) (h13 : cE h 13 (.inl (.int, fA we))) (n13 : we.length = (12 : Nat)) (hC : mf_cv h C W pl kd qp ut) (hl : h.length = (94 : Nat)) : ik_F 31 [.ref C, fI t] h (fun rv h_q => ∃ (u' : Int), rv = [fI (mf_ct W pl kd qp t)] ∧ mf_cv h_q C W pl kd qp u' ∧ (ut ≤ u' ∧ ((0 : Int) ≤ t ∧ t ≤ (200 : Int) → t ≤ u' ∧ (u' = ut ∨ u' = t))) ∧ hfr [C, C + 1, C + 2, C + 3] h h_q) := by
  have hCv := hC
  obtain ⟨M, a1, b1, cm1, xs1, ys1, hM, hab, hC1, hM1, ha1, hb1, nM, na, nb, hu0, his, hcm⟩ := hC
  refine ik_Wk 1 (pc_q := 1) (loc_q := [some (.ref C), some (fI t), none, none, none, none]) (st_q := [fI t]) (h_q := h) (cl_q := 0) (sl_q := 0) rfl ?_
  refine fw_if_lt rfl rfl (by omega) (by omega) (fun hc1 => ?_) (fun hc1 => ?_)
  · refine ik_Wk 1 (pc_q := 12) (loc_q := [some (.ref C), some (fI t), none, none, none, none]) (st_q := [fI 0]) (h_q := h) (cl_q := 0) (sl_q := 0) rfl ?_
    exact ik_Wret rfl rfl ⟨_, _, rfl, rfl, rfl, rfl, ⟨ut, (by unfold mf_ct; rw [if_neg (by omega)]), hCv, (by omega), (hfr_refl [C, C + 1, C + 2, C + 3] h)⟩⟩
  · refine ik_Wk 1 (pc_q := 5) (loc_q := [some (.ref C), some (fI t), none, none, none, none]) (st_q := [fI t]) (h_q := h) (cl_q := 0) (sl_q := 0) rfl ?_
    refine fw_si rfl (by decide +kernel) ?_
    refine fw_ic_le rfl rfl (by omega) (by omega) (by omega) (by omega) (fun hc2 => ?_) (fun hc2 => ?_)
    · refine ik_Wk 1 (pc_q := 14) (loc_q := [some (.ref C), some (fI t), none, none, none, none]) (st_q := [.ref C]) (h_q := h) (cl_q := 0) (sl_q := 0) rfl ?_
      refine fw_gf rfl rfl hC1 rfl ?_
      refine ik_Wk 1 (pc_q := 18) (loc_q := [some (.ref C), some (fI t), none, none, none, none]) (st_q := [fI 1, fI ut]) (h_q := h) (cl_q := 0) (sl_q := 0) rfl ?_
      refine fw_add rfl ?_
      refine ik_Wk 1 (pc_q := 20) (loc_q := [some (.ref C), some (fI t), some (fI (ut + 1)), none, none, none]) (st_q := []) (h_q := h) (cl_q := 0) (sl_q := 0) rfl ?_
      exact cs_comeL (C := C) (pl := pl) (lo := lo) (s := s) (t := t) (kd := kd) (qp := qp) (ut := ut) (wg := wg) (wc := wc) (we := we) (W := W) q0 q1 q2 q3 q4 q5 q6 hM (by omega) 202 (ut + 1) ut a1 b1 cm1 xs1 ys1 none none none h h7 h11 n11 h12 n12 h13 n13 hC1 hM1 nM ha1 na hb1 nb hl (hfr_refl [C, C + 1, C + 2, C + 3] h) (by omega) (by omega) (by omega) hab his hcm rfl rfl rfl (by omega)
    · refine ik_Wk 1 (pc_q := 12) (loc_q := [some (.ref C), some (fI t), none, none, none, none]) (st_q := [fI 0]) (h_q := h) (cl_q := 0) (sl_q := 0) rfl ?_
      exact ik_Wret rfl rfl ⟨_, _, rfl, rfl, rfl, rfl, ⟨ut, (by unfold mf_ct; rw [if_neg (by omega)]), hCv, (by omega), (hfr_refl [C, C + 1, C + 2, C + 3] h)⟩⟩

theorem cs_oddsL {h : List ik_E} {C : Nat} {pl : Int} {lo : Int} {s : Nat} {t : Int} {kd : Int} {qp : Int} {ut : Int} {wg : List Int} {wc : List Int} {we : List Int} {W : Int → List (Int × Int)} {B : Nat} (q0 : 20 < C ∧ C < 42) (q1 : 1 ≤ pl ∧ pl ≤ 12) (q2 : 0 ≤ qp ∧ qp < pl) (q3 : 0 ≤ kd ∧ kd ≤ 2) (q4 : ∀ x : Int, (0 : Int) ≤ x → x < pl - 1 → mx_wy wg wc we x (W x)) (q5 : ∀ x : Int, (0 : Int) ≤ x → x < pl - 1 → mx_ok pl (W x)) (q6 : (0 : Int) ≤ t ∧ t ≤ (200 : Int)) (q7 : ut ≤ t) (q8 : B < 4096) {M a1 b1 : Nat} {cm1 xs1 ys1 : List Int} (hM : M = C + 1) (hab : (a1 = C + 2 ∧ b1 = C + 3) ∨ (a1 = C + 3 ∧ b1 = C + 2)) (his : mf_is pl xs1 (mf_od W (pl - 1) kd qp t.toNat)) (hcm : ∀ j : Nat, (j : Int) ≤ t → cm1.getD j 0 = mf_cm W (pl - 1) kd qp j) : ∀ (k : Nat) (p : Int) (sm : Int) (u : List ik_E) (u7 : cE u 7 (.inr (0, [fI pl, fI ((s : Nat) : Int), fI lo, .ref 8, .ref 9, .ref 10, .ref 11, .ref 12, .ref 13]))) (uC : cE u C (.inr (2, [.ref 7, fI kd, fI t, .ref M, .ref a1, .ref b1]))) (uM : cE u M (.inl (.int, fA cm1))) (nM : cm1.length = (201 : Nat)) (ua1 : cE u a1 (.inl (.long, fL xs1))) (na1 : xs1.length = (12 : Nat)) (ub1 : cE u b1 (.inl (.long, fL ys1))) (nb1 : ys1.length = (12 : Nat)) (ul : u.length = (94 : Nat)) (F : hfr [C, C + 1, C + 2, C + 3] h u) (hp : (0 : Int) ≤ p ∧ p ≤ pl) (hs : sm = mf_ss B (mf_od W (pl - 1) kd qp t.toNat) p.toNat) (hk : pl - p < (k : Int)), ik_G 32 11 [some (.ref C), some (fI t), some (fI ((B : Nat) : Int)), some (fJ sm), none, some (fI p)] [] u (fun rv h_q => rv = [fI (mf_ss B (mf_od W (pl - 1) kd qp t.toNat) pl.toNat)] ∧ mf_cv h_q C W pl kd qp t ∧ hfr [C, C + 1, C + 2, C + 3] h h_q) := by
  intro k
  induction k with
  | zero => intro p sm u u7 uC uM nM ua1 na1 ub1 nb1 ul F hp hs hk; omega
  | succ k ih =>
    intro p sm u u7 uC uM nM ua1 na1 ub1 nb1 ul F hp hs hk
    refine ik_Wk 2 (pc_q := 14) (loc_q := [some (.ref C), some (fI t), some (fI ((B : Nat) : Int)), some (fJ sm), none, some (fI p)]) (st_q := [.ref C, fI p]) (h_q := u) (cl_q := 0) (sl_q := 0) rfl ?_
    refine fw_gf rfl rfl uC rfl ?_
    refine fw_gf rfl rfl u7 rfl ?_
    refine fw_ic_ge rfl rfl (by omega) (by omega) (by omega) (by omega) (fun hc1 => ?_) (fun hc1 => ?_)
    · refine ik_Wk 1 (pc_q := 49) (loc_q := [some (.ref C), some (fI t), some (fI ((B : Nat) : Int)), some (fJ sm), none, some (fI p)]) (st_q := [fJ sm]) (h_q := u) (cl_q := 0) (sl_q := 0) rfl ?_
      refine fx_l2i rfl ?_
      have ep : p = pl := by omega
      exact ik_Wret rfl rfl ⟨_, _, rfl, rfl, rfl, rfl, ⟨(congrArg (fun z => [fI z]) (by rw [hs, ep])), ⟨M, a1, b1, cm1, xs1, ys1, hM, hab, uC, uM, ua1, ub1, nM, na1, nb1, by omega, his, hcm⟩, F⟩⟩
    · refine ik_Wk 2 (pc_q := 26) (loc_q := [some (.ref C), some (fI t), some (fI ((B : Nat) : Int)), some (fJ sm), none, some (fI p)]) (st_q := [fI p, fI ((B : Nat) : Int)]) (h_q := u) (cl_q := 0) (sl_q := 0) rfl ?_
      refine fx_shr (n := B) rfl (by omega) (by omega) (by omega) ?_
      refine ik_Wk 1 (pc_q := 28) (loc_q := [some (.ref C), some (fI t), some (fI ((B : Nat) : Int)), some (fJ sm), none, some (fI p)]) (st_q := [fI 1, fI ((B >>> p.toNat : Nat) : Int)]) (h_q := u) (cl_q := 0) (sl_q := 0) rfl ?_
      refine fx_bit (n := B) (k := p.toNat) rfl (fun hb2 => ?_) (fun hb2 => ?_)
      · refine ik_Wk 0 (pc_q := 29) (loc_q := [some (.ref C), some (fI t), some (fI ((B : Nat) : Int)), some (fJ sm), none, some (fI p)]) (st_q := [fI 1]) (h_q := u) (cl_q := 0) (sl_q := 0) rfl ?_
        refine fw_if_eq rfl rfl (by decide +kernel) (by decide +kernel) (fun hc3 => absurd hc3 (by decide +kernel)) (fun hc3 => ?_)
        refine ik_Wk 2 (pc_q := 34) (loc_q := [some (.ref C), some (fI t), some (fI ((B : Nat) : Int)), some (fJ sm), none, some (fI p)]) (st_q := [.ref C, fJ sm]) (h_q := u) (cl_q := 0) (sl_q := 0) rfl ?_
        refine fw_gf rfl rfl uC rfl ?_
        refine ik_Wk 1 (pc_q := 39) (loc_q := [some (.ref C), some (fI t), some (fI ((B : Nat) : Int)), some (fJ sm), none, some (fI p)]) (st_q := [fI p, .ref a1, fJ sm]) (h_q := u) (cl_q := 0) (sl_q := 0) rfl ?_
        refine fx_lal rfl ua1 (by omega) (by omega) (by omega) ?_
        refine fw_ladd rfl ?_
        refine ik_Wk 1 (pc_q := 42) (loc_q := [some (.ref C), some (fI t), some (fI ((B : Nat) : Int)), some (fJ (sm + (xs1.getD p.toNat 0))), none, some (fI p)]) (st_q := []) (h_q := u) (cl_q := 0) (sl_q := 0) rfl ?_
        refine fw_inc (a := p) (loc_q := [some (.ref C), some (fI t), some (fI ((B : Nat) : Int)), some (fJ (sm + (xs1.getD p.toNat 0))), none, some (fI (p + 1))]) rfl rfl (Nat.le_of_ble_eq_true rfl) rfl ?_
        refine ik_Wk 1 (pc_q := 11) (loc_q := [some (.ref C), some (fI t), some (fI ((B : Nat) : Int)), some (fJ (sm + (xs1.getD p.toNat 0))), none, some (fI (p + 1))]) (st_q := []) (h_q := u) (cl_q := 0) (sl_q := 0) rfl ?_
        exact ih  (p + 1) (sm + (xs1.getD p.toNat 0)) u u7 uC uM nM ua1 na1 ub1 nb1 ul F (by omega) (by rw [mf_ss_s (by omega), if_pos hb2, ← hs, his _ (by omega)]) (by omega)
      · refine ik_Wk 0 (pc_q := 29) (loc_q := [some (.ref C), some (fI t), some (fI ((B : Nat) : Int)), some (fJ sm), none, some (fI p)]) (st_q := [fI 0]) (h_q := u) (cl_q := 0) (sl_q := 0) rfl ?_
        refine fw_if_eq rfl rfl (by decide +kernel) (by decide +kernel) (fun hc4 => ?_) (fun hc4 => absurd hc4 (by decide +kernel))
        refine fw_inc (a := p) (loc_q := [some (.ref C), some (fI t), some (fI ((B : Nat) : Int)), some (fJ sm), none, some (fI (p + 1))]) rfl rfl (Nat.le_of_ble_eq_true rfl) rfl ?_
        refine ik_Wk 1 (pc_q := 11) (loc_q := [some (.ref C), some (fI t), some (fI ((B : Nat) : Int)), some (fJ sm), none, some (fI (p + 1))]) (st_q := []) (h_q := u) (cl_q := 0) (sl_q := 0) rfl ?_
        exact ih  (p + 1) sm u u7 uC uM nM ua1 na1 ub1 nb1 ul F (by omega) (by rw [mf_ss_s (by omega), if_neg (by rw [hb2]; decide), Int.add_zero]; exact hs) (by omega)

theorem cs_oddsAt {h : List ik_E} {C : Nat} {pl : Int} {lo : Int} {s : Nat} {t : Int} {kd : Int} {qp : Int} {ut : Int} {wg : List Int} {wc : List Int} {we : List Int} {W : Int → List (Int × Int)} {B : Nat} (q0 : 20 < C ∧ C < 42) (q1 : 1 ≤ pl ∧ pl ≤ 12) (q2 : 0 ≤ qp ∧ qp < pl) (q3 : 0 ≤ kd ∧ kd ≤ 2) (q4 : ∀ x : Int, (0 : Int) ≤ x → x < pl - 1 → mx_wy wg wc we x (W x)) (q5 : ∀ x : Int, (0 : Int) ≤ x → x < pl - 1 → mx_ok pl (W x)) (q6 : (0 : Int) ≤ t ∧ t ≤ (200 : Int)) (q7 : ut ≤ t) (q8 : B < 4096) (h7 : cE h 7 (.inr (0, [fI pl, fI ((s : Nat) : Int), fI lo, .ref 8, .ref 9, .ref 10, .ref 11, .ref 12, .ref 13]))) (h11 : cE h 11 (.inl (.int, fA wg))) (n11 : wg.length = (60 : Nat)) (h12 : cE h 12 (.inl (.int, fA wc))) (n12 : wc.length = (60 : Nat)) (h13 : cE h 13 (.inl (.int, fA we))) (n13 : we.length = (12 : Nat)) (hC : mf_cv h C W pl kd qp ut) (hl : h.length = (94 : Nat)) : ik_F 32 [.ref C, fI t, fI ((B : Nat) : Int)] h (fun rv h_q => rv = [fI (mf_ss B (mf_od W (pl - 1) kd qp t.toNat) pl.toNat)] ∧ mf_cv h_q C W pl kd qp t ∧ hfr [C, C + 1, C + 2, C + 3] h h_q) := by
  refine ik_Wk 2 (pc_q := 2) (loc_q := [some (.ref C), some (fI t), some (fI ((B : Nat) : Int)), none, none, none]) (st_q := [fI t, .ref C]) (h_q := h) (cl_q := 0) (sl_q := 0) rfl ?_
  refine fw_call 31 2 0 [.ref C, fI t] [] rfl rfl rfl (Nat.le_of_ble_eq_true rfl) rfl rfl (fw_rec hl (fw_ftx rfl wv_n (wl_c (wl_r (by omega)) (wl_c rfl (wl_c rfl (wl_c rfl (wl_c rfl (wl_c rfl wl_n))))))) (mf_cv_o hC).choose_spec rfl (by decide +kernel)) (cs_come (C := C) (pl := pl) (lo := lo) (s := s) (t := t) (kd := kd) (qp := qp) (ut := ut) (wg := wg) (wc := wc) (we := we) (W := W) (by omega) (by omega) q2 q3 q4 q5 (by omega) h7 h11 n11 h12 n12 h13 n13 hC hl) ?_
  rintro _ h_139 ⟨u'_139, rfl, e_139_C, p_139_0, F_139⟩
  have k_139 : cL h_139 := F_139.1.trans hl
  have fr_139 := hfr_c (hfr_refl [C, C + 1, C + 2, C + 3] h) F_139 (by intro b_ hb; simp at hb ⊢; omega)
  have g_139_7 := (F_139.2 7 (by simp <;> omega)).trans h7
  have g_139_11 := (F_139.2 11 (by simp <;> omega)).trans h11
  have g_139_12 := (F_139.2 12 (by simp <;> omega)).trans h12
  have g_139_13 := (F_139.2 13 (by simp <;> omega)).trans h13
  have g_139_C : mf_cv h_139 C W pl kd qp u'_139 := e_139_C
  refine ik_Wk 0 (pc_q := 5) (loc_q := [some (.ref C), some (fI t), some (fI ((B : Nat) : Int)), none, none, none]) (st_q := [fI (mf_ct W pl kd qp t)]) (h_q := h_139) (cl_q := 0) (sl_q := 0) rfl ?_
  have eu : u'_139 = t := by omega
  rw [eu] at g_139_C
  obtain ⟨M, a1, b1, cm1, xs1, ys1, hM, hab, hC1, hM1, ha1, hb1, nM, na, nb, hu0, his, hcm⟩ := g_139_C
  refine ik_Wk 1 (pc_q := 6) (loc_q := [some (.ref C), some (fI t), some (fI ((B : Nat) : Int)), none, none, none]) (st_q := []) (h_q := h_139) (cl_q := 0) (sl_q := 0) rfl ?_
  refine fw_lc (z := 0) rfl (by decide +kernel) ?_
  refine ik_Wk 3 (pc_q := 11) (loc_q := [some (.ref C), some (fI t), some (fI ((B : Nat) : Int)), some (fJ 0), none, some (fI 0)]) (st_q := []) (h_q := h_139) (cl_q := 0) (sl_q := 0) rfl ?_
  exact cs_oddsL (C := C) (pl := pl) (lo := lo) (s := s) (t := t) (kd := kd) (qp := qp) (ut := ut) (wg := wg) (wc := wc) (we := we) (W := W) (B := B) q0 q1 q2 q3 q4 q5 q6 q7 q8 hM hab his hcm (pl.toNat + 1) 0 0 h_139 g_139_7 hC1 hM1 nM ha1 na hb1 nb k_139 fr_139 (by omega) rfl (by omega)

end

/-! 38ze.rows -/
noncomputable section
/-! the reference: odds at a minute, rows of what has come (written by wip/fx/u9.py) -/
theorem cr_setInL {h : List ik_E} {p : Int} {f : Nat → Int} {xs : List Int} (q0 : 0 ≤ p ∧ p < 12)  : ∀ (k : Nat) (i : Int) (x1 : List Int) (u : List ik_E) (u66 : cE u 66 (.inr (10, (fI (f 0) :: .ref 67 :: .ref 68 :: .ref 69 :: fI (f 4) :: .ref 70 :: .ref 71 :: fI (f 7) :: fI (f 8) :: .ref 72 :: fI (f 10) :: fI (f 11) :: fI (f 12) :: fJ (f 13) :: fI (f 14) :: fI (f 15) :: fI (f 16) :: fI (f 17) :: .ref 73 :: .ref 74 :: .ref 75 :: .ref 76 :: .ref 77 :: .ref 78 :: fI (f 24) :: .ref 79 :: .ref 80 :: .ref 81 :: .ref 82 :: .ref 83 :: .ref 84 :: .ref 85 :: fJ (f 32) :: fJ (f 33) :: .ref 86 :: .ref 87 :: fI (f 36) :: .ref 88 :: .ref 89 :: .ref 90 :: .ref 91 :: .ref 92 :: .ref 93 :: [])))) (u79 : cE u 79 (.inl (.long, fL x1))) (n79 : x1.length = (12 : Nat)) (ul : u.length = (94 : Nat)) (F : hfr [79] h u) (hi : (0 : Int) ≤ i ∧ i ≤ (12 : Int)) (hx : mf_is i x1 (mf_up (fun _ => 0) p.toNat 1000000000)) (hk : 12 - i < (k : Int)), ik_G 154 2 [some (.ref 66), some (fI p), some (fI i)] [] u (fun rv h_q => ∃ (xs' : List Int), rv = [] ∧ cE h_q 79 (.inl (.long, fL xs')) ∧ xs'.length = (12 : Nat) ∧ (mf_is 12 xs' (mf_up (fun _ => 0) p.toNat 1000000000)) ∧ hfr [79] h h_q) := by
  intro k
  induction k with
  | zero => intro i x1 u u66 u79 n79 ul F hi hx hk; omega
  | succ k ih =>
    intro i x1 u u66 u79 n79 ul F hi hx hk
    refine ik_Wk 1 (pc_q := 3) (loc_q := [some (.ref 66), some (fI p), some (fI i)]) (st_q := [fI i]) (h_q := u) (cl_q := 0) (sl_q := 0) rfl ?_
    refine fw_bi rfl (by decide +kernel) ?_
    refine fw_ic_ge rfl rfl (by omega) (by omega) (by omega) (by omega) (fun hc1 => ?_) (fun hc1 => ?_)
    · have ei : i = 12 := by omega
      rw [ei] at hx
      exact ik_Wret rfl rfl ⟨_, _, rfl, rfl, rfl, rfl, ⟨x1, rfl, u79, n79, hx, F⟩⟩
    · refine ik_Wk 1 (pc_q := 9) (loc_q := [some (.ref 66), some (fI p), some (fI i)]) (st_q := [.ref 66]) (h_q := u) (cl_q := 0) (sl_q := 0) rfl ?_
      refine fw_gf rfl rfl u66 rfl ?_
      refine ik_Wk 3 (pc_q := 15) (loc_q := [some (.ref 66), some (fI p), some (fI i)]) (st_q := [fI p, fI i, fI i, .ref 79]) (h_q := u) (cl_q := 0) (sl_q := 0) rfl ?_
      refine fw_ic_ne rfl rfl (by omega) (by omega) (by omega) (by omega) (fun hc2 => ?_) (fun hc2 => ?_)
      · refine fw_l2 1000000000 rfl rfl (by decide +kernel) ?_
        refine ik_Wk 1 (pc_q := 25) (loc_q := [some (.ref 66), some (fI p), some (fI i)]) (st_q := [fJ 1000000000, fI i, .ref 79]) (h_q := u) (cl_q := 0) (sl_q := 0) rfl ?_
        have hl3 : (x1.set i.toNat 1000000000).length = 12 := (List.length_set ..).trans n79
        refine fx_las rfl u79 (by omega) (by omega) (by omega) ?_
        intro h_140 e_140 f_140 l_140
        have k_140 : cL h_140 := l_140.trans ul
        have fr_140 := hfr_wb F f_140 l_140 rfl
        clear l_140
        have g_140_66 := (f_140 66 (Nat.ne_of_beq_eq_false rfl)).trans u66
        have g_140_79 : cE h_140 79 (.inl (.long, fL (x1.set i.toNat 1000000000))) := e_140
        refine fw_inc (a := i) (loc_q := [some (.ref 66), some (fI p), some (fI (i + 1))]) rfl rfl (Nat.le_of_ble_eq_true rfl) rfl ?_
        refine ik_Wk 1 (pc_q := 2) (loc_q := [some (.ref 66), some (fI p), some (fI (i + 1))]) (st_q := []) (h_q := h_140) (cl_q := 0) (sl_q := 0) rfl ?_
        exact ih  (i + 1) (x1.set i.toNat 1000000000) h_140 g_140_66 g_140_79 hl3 k_140 fr_140 (by omega) (mf_is_x hx (by omega) (by omega) (by show _ = if i.toNat = p.toNat then _ else _; rw [if_pos (by omega)])) (by omega)
      · refine fw_lc (z := 0) rfl (by decide +kernel) ?_
        have hl4 : (x1.set i.toNat 0).length = 12 := (List.length_set ..).trans n79
        refine fx_las rfl u79 (by omega) (by omega) (by omega) ?_
        intro h_141 e_141 f_141 l_141
        have k_141 : cL h_141 := l_141.trans ul
        have fr_141 := hfr_wb F f_141 l_141 rfl
        clear l_141
        have g_141_66 := (f_141 66 (Nat.ne_of_beq_eq_false rfl)).trans u66
        have g_141_79 : cE h_141 79 (.inl (.long, fL (x1.set i.toNat 0))) := e_141
        refine fw_inc (a := i) (loc_q := [some (.ref 66), some (fI p), some (fI (i + 1))]) rfl rfl (Nat.le_of_ble_eq_true rfl) rfl ?_
        refine ik_Wk 1 (pc_q := 2) (loc_q := [some (.ref 66), some (fI p), some (fI (i + 1))]) (st_q := []) (h_q := h_141) (cl_q := 0) (sl_q := 0) rfl ?_
        exact ih  (i + 1) (x1.set i.toNat 0) h_141 g_141_66 g_141_79 hl4 k_141 fr_141 (by omega) (mf_is_x hx (by omega) (by omega) (by show _ = if i.toNat = p.toNat then _ else _; rw [if_neg (by omega)])) (by omega)

theorem cr_setIn {h : List ik_E} {p : Int} {f : Nat → Int} {xs : List Int} (q0 : 0 ≤ p ∧ p < 12) (h66 : cE h 66 (.inr (10, (fI (f 0) :: .ref 67 :: .ref 68 :: .ref 69 :: fI (f 4) :: .ref 70 :: .ref 71 :: fI (f 7) :: fI (f 8) :: .ref 72 :: fI (f 10) :: fI (f 11) :: fI (f 12) :: fJ (f 13) :: fI (f 14) :: fI (f 15) :: fI (f 16) :: fI (f 17) :: .ref 73 :: .ref 74 :: .ref 75 :: .ref 76 :: .ref 77 :: .ref 78 :: fI (f 24) :: .ref 79 :: .ref 80 :: .ref 81 :: .ref 82 :: .ref 83 :: .ref 84 :: .ref 85 :: fJ (f 32) :: fJ (f 33) :: .ref 86 :: .ref 87 :: fI (f 36) :: .ref 88 :: .ref 89 :: .ref 90 :: .ref 91 :: .ref 92 :: .ref 93 :: [])))) (h79 : cE h 79 (.inl (.long, fL xs))) (n79 : xs.length = (12 : Nat)) (hl : h.length = (94 : Nat)) : ik_F 154 [.ref 66, fI p] h (fun rv h_q => ∃ (xs' : List Int), rv = [] ∧ cE h_q 79 (.inl (.long, fL xs')) ∧ xs'.length = (12 : Nat) ∧ (mf_is 12 xs' (mf_up (fun _ => 0) p.toNat 1000000000)) ∧ hfr [79] h h_q) := by
  refine ik_Wk 2 (pc_q := 2) (loc_q := [some (.ref 66), some (fI p), some (fI 0)]) (st_q := []) (h_q := h) (cl_q := 0) (sl_q := 0) rfl ?_
  exact cr_setInL (p := p) (f := f) (xs := xs) q0  13 0 xs h h66 h79 n79 hl (hfr_refl [79] h) (by omega) (mf_is_0 (by omega)) (by omega)

theorem cr_goOn {h : List ik_E} {pl : Int} {f : Nat → Int} {s : Nat} {cn : List Int} {go : List Int} {ch : List Int} {gt : List Int} {gd : List Int} {xs : List Int} {ys : List Int} {o : Nat → Int} {kd : Int} {own : Int} (q0 : 1 ≤ pl ∧ pl ≤ 12) (q1 : s < 4096) (q2 : ∀ x : Int, (0 : Int) ≤ x → x < pl - 1 → 0 ≤ cn.getD x.toNat 0 ∧ cn.getD x.toNat 0 ≤ 4) (q3 : ∀ x : Int, (0 : Int) ≤ x → x < pl - 1 → 1 ≤ cn.getD x.toNat 0 ∧ ∀ j : Int, 4 * x ≤ j → j < 4 * x + cn.getD x.toNat 0 → 0 ≤ ch.getD j.toNat 0 ∧ ch.getD j.toNat 0 ≤ 100) (q4 : ∀ x : Int, (0 : Int) ≤ x → x < pl - 1 → mx_ok pl (mx_w cn go ch s x)) (q5 : mf_is pl xs o) (q6 : mf_gd pl o) (q7 : (0 : Int) ≤ kd ∧ kd ≤ (2 : Int)) (q8 : (0 : Int) ≤ own ∧ own ≤ (200 : Int)) (h66 : cE h 66 (.inr (10, (fI pl :: .ref 67 :: .ref 68 :: .ref 69 :: fI ((s : Nat) : Int) :: .ref 70 :: .ref 71 :: fI (f 7) :: fI (f 8) :: .ref 72 :: fI (f 10) :: fI (f 11) :: fI (f 12) :: fJ (f 13) :: fI (f 14) :: fI (f 15) :: fI (f 16) :: fI (f 17) :: .ref 73 :: .ref 74 :: .ref 75 :: .ref 76 :: .ref 77 :: .ref 78 :: fI (f 24) :: .ref 79 :: .ref 80 :: .ref 81 :: .ref 82 :: .ref 83 :: .ref 84 :: .ref 85 :: fJ (f 32) :: fJ (f 33) :: .ref 86 :: .ref 87 :: fI (f 36) :: .ref 88 :: .ref 89 :: .ref 90 :: .ref 91 :: .ref 92 :: .ref 93 :: [])))) (h67 : cE h 67 (.inl (.int, fA cn))) (n67 : cn.length = (12 : Nat)) (h68 : cE h 68 (.inl (.int, fA go))) (n68 : go.length = (48 : Nat)) (h69 : cE h 69 (.inl (.int, fA ch))) (n69 : ch.length = (48 : Nat)) (h77 : cE h 77 (.inl (.int, fA gt))) (n77 : gt.length = (5 : Nat)) (h78 : cE h 78 (.inl (.int, fA gd))) (n78 : gd.length = (5 : Nat)) (h79 : cE h 79 (.inl (.long, fL xs))) (n79 : xs.length = (12 : Nat)) (h80 : cE h 80 (.inl (.long, fL ys))) (n80 : ys.length = (12 : Nat)) (hl : h.length = (94 : Nat)) : ik_F 155 [.ref 66, fI kd, fI own] h (fun rv h_q => ∃ (w' : Int) (gt' : List Int) (gd' : List Int) (xs' : List Int) (ys' : List Int), rv = [] ∧ cE h_q 66 (.inr (10, (fI pl :: .ref 67 :: .ref 68 :: .ref 69 :: fI ((s : Nat) : Int) :: .ref 70 :: .ref 71 :: fI (f 7) :: fI (f 8) :: .ref 72 :: fI (f 10) :: fI (f 11) :: fI (f 12) :: fJ (f 13) :: fI (f 14) :: fI (f 15) :: fI (f 16) :: fI (f 17) :: .ref 73 :: .ref 74 :: .ref 75 :: .ref 76 :: .ref 77 :: .ref 78 :: fI w' :: .ref 79 :: .ref 80 :: .ref 81 :: .ref 82 :: .ref 83 :: .ref 84 :: .ref 85 :: fJ (f 32) :: fJ (f 33) :: .ref 86 :: .ref 87 :: fI (f 36) :: .ref 88 :: .ref 89 :: .ref 90 :: .ref 91 :: .ref 92 :: .ref 93 :: []))) ∧ cE h_q 77 (.inl (.int, fA gt')) ∧ gt'.length = (5 : Nat) ∧ cE h_q 78 (.inl (.int, fA gd')) ∧ gd'.length = (5 : Nat) ∧ cE h_q 79 (.inl (.long, fL xs')) ∧ xs'.length = (12 : Nat) ∧ cE h_q 80 (.inl (.long, fL ys')) ∧ ys'.length = (12 : Nat) ∧ (mf_is pl xs' (mf_it (fun x => mx_w cn go ch s x) (pl - 1) (mx_tm kd own) o)) ∧ hfr [66, 77, 78, 79, 80] h h_q) := by
  refine ik_Wk 2 (pc_q := 2) (loc_q := [some (.ref 66), some (fI kd), some (fI own)]) (st_q := [fI 2, fI kd]) (h_q := h) (cl_q := 0) (sl_q := 0) rfl ?_
  refine fw_ic_ne rfl rfl (by omega) (by omega) (by omega) (by omega) (fun hc1 => ?_) (fun hc1 => ?_)
  · refine ik_Wk 2 (pc_q := 7) (loc_q := [some (.ref 66), some (fI kd), some (fI own)]) (st_q := [fI 2, fI own]) (h_q := h) (cl_q := 0) (sl_q := 0) rfl ?_
    refine fx_irem rfl (by omega) (by omega) (by omega) (by omega) ?_
    refine fw_if_ne rfl rfl (by omega) (by omega) (fun hc2 => ?_) (fun hc2 => ?_)
    · refine ik_Wk 1 (pc_q := 12) (loc_q := [some (.ref 66), some (fI kd), some (fI own)]) (st_q := [.ref 66]) (h_q := h) (cl_q := 0) (sl_q := 0) rfl ?_
      refine fw_call 153 1 0 [.ref 66] [] rfl rfl rfl (Nat.le_of_ble_eq_true rfl) rfl rfl (fw_rec hl rfl h66 rfl (Nat.le_of_ble_eq_true rfl)) (cr_flow (pl := pl) (f := fun j => ((0 :: 0 :: 0 :: 0 :: 0 :: 0 :: 0 :: f 7 :: f 8 :: 0 :: f 10 :: f 11 :: f 12 :: f 13 :: f 14 :: f 15 :: f 16 :: f 17 :: 0 :: 0 :: 0 :: 0 :: 0 :: 0 :: f 24 :: 0 :: 0 :: 0 :: 0 :: 0 :: 0 :: 0 :: f 32 :: f 33 :: 0 :: 0 :: f 36 :: 0 :: 0 :: 0 :: 0 :: 0 :: 0 :: []) : List Int).getD j 0) (s := s) (cn := cn) (go := go) (ch := ch) (gt := gt) (gd := gd) (xs := xs) (ys := ys) (by omega) (by omega) q2 q3 q4 q5 q6 h66 h67 n67 h68 n68 h69 n69 h77 n77 h78 n78 h79 n79 h80 n80 hl) ?_
      rintro _ h_142 ⟨w'_142, gt'_142, gd'_142, xs'_142, ys'_142, rfl, e_142_66, e_142_77, m_142_77, e_142_78, m_142_78, e_142_79, m_142_79, e_142_80, m_142_80, p_142_0, F_142⟩
      have k_142 : cL h_142 := F_142.1.trans hl
      have fr_142 := hfr_cb (hfr_refl [66, 77, 78, 79, 80] h) F_142 rfl
      have g_142_67 := (hfr_g F_142 67 rfl).trans h67
      have g_142_68 := (hfr_g F_142 68 rfl).trans h68
      have g_142_69 := (hfr_g F_142 69 rfl).trans h69
      have g_142_66 : cE h_142 66 (.inr (10, (fI pl :: .ref 67 :: .ref 68 :: .ref 69 :: fI ((s : Nat) : Int) :: .ref 70 :: .ref 71 :: fI (f 7) :: fI (f 8) :: .ref 72 :: fI (f 10) :: fI (f 11) :: fI (f 12) :: fJ (f 13) :: fI (f 14) :: fI (f 15) :: fI (f 16) :: fI (f 17) :: .ref 73 :: .ref 74 :: .ref 75 :: .ref 76 :: .ref 77 :: .ref 78 :: fI w'_142 :: .ref 79 :: .ref 80 :: .ref 81 :: .ref 82 :: .ref 83 :: .ref 84 :: .ref 85 :: fJ (f 32) :: fJ (f 33) :: .ref 86 :: .ref 87 :: fI (f 36) :: .ref 88 :: .ref 89 :: .ref 90 :: .ref 91 :: .ref 92 :: .ref 93 :: []))) := e_142_66
      have g_142_77 : cE h_142 77 (.inl (.int, fA gt'_142)) := e_142_77
      have g_142_78 : cE h_142 78 (.inl (.int, fA gd'_142)) := e_142_78
      have g_142_79 : cE h_142 79 (.inl (.long, fL xs'_142)) := e_142_79
      have g_142_80 : cE h_142 80 (.inl (.long, fL ys'_142)) := e_142_80
      refine ik_Wk 0 (pc_q := 15) (loc_q := [some (.ref 66), some (fI kd), some (fI own)]) (st_q := []) (h_q := h_142) (cl_q := 0) (sl_q := 0) rfl ?_
      have hg_142 := (mf_fl_gd (W := (fun x => mx_w cn go ch s x)) q4 (by omega) q6).1
      refine ik_Wk 2 (pc_q := 17) (loc_q := [some (.ref 66), some (fI kd), some (fI own)]) (st_q := [fI 1, fI kd]) (h_q := h_142) (cl_q := 0) (sl_q := 0) rfl ?_
      refine fw_ic_ne rfl rfl (by omega) (by omega) (by omega) (by omega) (fun hc3 => ?_) (fun hc3 => ?_)
      · refine ik_Wk 1 (pc_q := 21) (loc_q := [some (.ref 66), some (fI kd), some (fI own)]) (st_q := [.ref 66]) (h_q := h_142) (cl_q := 0) (sl_q := 0) rfl ?_
        refine fw_call 153 1 0 [.ref 66] [] rfl rfl rfl (Nat.le_of_ble_eq_true rfl) rfl rfl (fw_rec k_142 rfl g_142_66 rfl (Nat.le_of_ble_eq_true rfl)) (cr_flow (pl := pl) (f := fun j => ((0 :: 0 :: 0 :: 0 :: 0 :: 0 :: 0 :: ((f 7)) :: ((f 8)) :: 0 :: ((f 10)) :: ((f 11)) :: ((f 12)) :: ((f 13)) :: ((f 14)) :: ((f 15)) :: ((f 16)) :: ((f 17)) :: 0 :: 0 :: 0 :: 0 :: 0 :: 0 :: w'_142 :: 0 :: 0 :: 0 :: 0 :: 0 :: 0 :: 0 :: ((f 32)) :: ((f 33)) :: 0 :: 0 :: ((f 36)) :: 0 :: 0 :: 0 :: 0 :: 0 :: 0 :: []) : List Int).getD j 0) (s := s) (cn := cn) (go := go) (ch := ch) (gt := gt'_142) (gd := gd'_142) (xs := xs'_142) (ys := ys'_142) (by omega) (by omega) q2 q3 q4 p_142_0 hg_142 g_142_66 g_142_67 n67 g_142_68 n68 g_142_69 n69 g_142_77 m_142_77 g_142_78 m_142_78 g_142_79 m_142_79 g_142_80 m_142_80 k_142) ?_
        rintro _ h_143 ⟨w'_143, gt'_143, gd'_143, xs'_143, ys'_143, rfl, e_143_66, e_143_77, m_143_77, e_143_78, m_143_78, e_143_79, m_143_79, e_143_80, m_143_80, p_143_0, F_143⟩
        have k_143 : cL h_143 := F_143.1.trans k_142
        have fr_143 := hfr_cb fr_142 F_143 rfl
        have g_143_67 := (hfr_g F_143 67 rfl).trans g_142_67
        have g_143_68 := (hfr_g F_143 68 rfl).trans g_142_68
        have g_143_69 := (hfr_g F_143 69 rfl).trans g_142_69
        have g_143_66 : cE h_143 66 (.inr (10, (fI pl :: .ref 67 :: .ref 68 :: .ref 69 :: fI ((s : Nat) : Int) :: .ref 70 :: .ref 71 :: fI (f 7) :: fI (f 8) :: .ref 72 :: fI (f 10) :: fI (f 11) :: fI (f 12) :: fJ (f 13) :: fI (f 14) :: fI (f 15) :: fI (f 16) :: fI (f 17) :: .ref 73 :: .ref 74 :: .ref 75 :: .ref 76 :: .ref 77 :: .ref 78 :: fI w'_143 :: .ref 79 :: .ref 80 :: .ref 81 :: .ref 82 :: .ref 83 :: .ref 84 :: .ref 85 :: fJ (f 32) :: fJ (f 33) :: .ref 86 :: .ref 87 :: fI (f 36) :: .ref 88 :: .ref 89 :: .ref 90 :: .ref 91 :: .ref 92 :: .ref 93 :: []))) := e_143_66
        have g_143_77 : cE h_143 77 (.inl (.int, fA gt'_143)) := e_143_77
        have g_143_78 : cE h_143 78 (.inl (.int, fA gd'_143)) := e_143_78
        have g_143_79 : cE h_143 79 (.inl (.long, fL xs'_143)) := e_143_79
        have g_143_80 : cE h_143 80 (.inl (.long, fL ys'_143)) := e_143_80
        refine ik_Wk 0 (pc_q := 24) (loc_q := [some (.ref 66), some (fI kd), some (fI own)]) (st_q := []) (h_q := h_143) (cl_q := 0) (sl_q := 0) rfl ?_
        have hg_143 := (mf_fl_gd (W := (fun x => mx_w cn go ch s x)) q4 (by omega) hg_142).1
        have et : mx_tm kd own = 2 := by unfold mx_tm; (repeat' split) <;> omega
        rw [et]
        exact ik_Wret rfl rfl ⟨_, _, rfl, rfl, rfl, rfl, ⟨w'_143, gt'_143, gd'_143, xs'_143, ys'_143, rfl, g_143_66, g_143_77, m_143_77, g_143_78, m_143_78, g_143_79, m_143_79, g_143_80, m_143_80, p_143_0, fr_143⟩⟩
      · have et : mx_tm kd own = 1 := by unfold mx_tm; (repeat' split) <;> omega
        rw [et]
        exact ik_Wret rfl rfl ⟨_, _, rfl, rfl, rfl, rfl, ⟨w'_142, gt'_142, gd'_142, xs'_142, ys'_142, rfl, g_142_66, g_142_77, m_142_77, g_142_78, m_142_78, g_142_79, m_142_79, g_142_80, m_142_80, p_142_0, fr_142⟩⟩
    · refine ik_Wk 2 (pc_q := 17) (loc_q := [some (.ref 66), some (fI kd), some (fI own)]) (st_q := [fI 1, fI kd]) (h_q := h) (cl_q := 0) (sl_q := 0) rfl ?_
      refine fw_ic_ne rfl rfl (by omega) (by omega) (by omega) (by omega) (fun hc4 => ?_) (fun hc4 => ?_)
      · refine ik_Wk 1 (pc_q := 21) (loc_q := [some (.ref 66), some (fI kd), some (fI own)]) (st_q := [.ref 66]) (h_q := h) (cl_q := 0) (sl_q := 0) rfl ?_
        refine fw_call 153 1 0 [.ref 66] [] rfl rfl rfl (Nat.le_of_ble_eq_true rfl) rfl rfl (fw_rec hl rfl h66 rfl (Nat.le_of_ble_eq_true rfl)) (cr_flow (pl := pl) (f := fun j => ((0 :: 0 :: 0 :: 0 :: 0 :: 0 :: 0 :: f 7 :: f 8 :: 0 :: f 10 :: f 11 :: f 12 :: f 13 :: f 14 :: f 15 :: f 16 :: f 17 :: 0 :: 0 :: 0 :: 0 :: 0 :: 0 :: f 24 :: 0 :: 0 :: 0 :: 0 :: 0 :: 0 :: 0 :: f 32 :: f 33 :: 0 :: 0 :: f 36 :: 0 :: 0 :: 0 :: 0 :: 0 :: 0 :: []) : List Int).getD j 0) (s := s) (cn := cn) (go := go) (ch := ch) (gt := gt) (gd := gd) (xs := xs) (ys := ys) (by omega) (by omega) q2 q3 q4 q5 q6 h66 h67 n67 h68 n68 h69 n69 h77 n77 h78 n78 h79 n79 h80 n80 hl) ?_
        rintro _ h_144 ⟨w'_144, gt'_144, gd'_144, xs'_144, ys'_144, rfl, e_144_66, e_144_77, m_144_77, e_144_78, m_144_78, e_144_79, m_144_79, e_144_80, m_144_80, p_144_0, F_144⟩
        have k_144 : cL h_144 := F_144.1.trans hl
        have fr_144 := hfr_cb (hfr_refl [66, 77, 78, 79, 80] h) F_144 rfl
        have g_144_67 := (hfr_g F_144 67 rfl).trans h67
        have g_144_68 := (hfr_g F_144 68 rfl).trans h68
        have g_144_69 := (hfr_g F_144 69 rfl).trans h69
        have g_144_66 : cE h_144 66 (.inr (10, (fI pl :: .ref 67 :: .ref 68 :: .ref 69 :: fI ((s : Nat) : Int) :: .ref 70 :: .ref 71 :: fI (f 7) :: fI (f 8) :: .ref 72 :: fI (f 10) :: fI (f 11) :: fI (f 12) :: fJ (f 13) :: fI (f 14) :: fI (f 15) :: fI (f 16) :: fI (f 17) :: .ref 73 :: .ref 74 :: .ref 75 :: .ref 76 :: .ref 77 :: .ref 78 :: fI w'_144 :: .ref 79 :: .ref 80 :: .ref 81 :: .ref 82 :: .ref 83 :: .ref 84 :: .ref 85 :: fJ (f 32) :: fJ (f 33) :: .ref 86 :: .ref 87 :: fI (f 36) :: .ref 88 :: .ref 89 :: .ref 90 :: .ref 91 :: .ref 92 :: .ref 93 :: []))) := e_144_66
        have g_144_77 : cE h_144 77 (.inl (.int, fA gt'_144)) := e_144_77
        have g_144_78 : cE h_144 78 (.inl (.int, fA gd'_144)) := e_144_78
        have g_144_79 : cE h_144 79 (.inl (.long, fL xs'_144)) := e_144_79
        have g_144_80 : cE h_144 80 (.inl (.long, fL ys'_144)) := e_144_80
        refine ik_Wk 0 (pc_q := 24) (loc_q := [some (.ref 66), some (fI kd), some (fI own)]) (st_q := []) (h_q := h_144) (cl_q := 0) (sl_q := 0) rfl ?_
        have hg_144 := (mf_fl_gd (W := (fun x => mx_w cn go ch s x)) q4 (by omega) q6).1
        have et : mx_tm kd own = 1 := by unfold mx_tm; (repeat' split) <;> omega
        rw [et]
        exact ik_Wret rfl rfl ⟨_, _, rfl, rfl, rfl, rfl, ⟨w'_144, gt'_144, gd'_144, xs'_144, ys'_144, rfl, g_144_66, g_144_77, m_144_77, g_144_78, m_144_78, g_144_79, m_144_79, g_144_80, m_144_80, p_144_0, fr_144⟩⟩
      · have et : mx_tm kd own = 0 := by unfold mx_tm; (repeat' split) <;> omega
        rw [et]
        exact ik_Wret rfl rfl ⟨_, _, rfl, rfl, rfl, rfl, ⟨(f 24), gt, gd, xs, ys, rfl, h66, h77, n77, h78, n78, h79, n79, h80, n80, q5, (hfr_refl [66, 77, 78, 79, 80] h)⟩⟩
  · refine ik_Wk 1 (pc_q := 12) (loc_q := [some (.ref 66), some (fI kd), some (fI own)]) (st_q := [.ref 66]) (h_q := h) (cl_q := 0) (sl_q := 0) rfl ?_
    refine fw_call 153 1 0 [.ref 66] [] rfl rfl rfl (Nat.le_of_ble_eq_true rfl) rfl rfl (fw_rec hl rfl h66 rfl (Nat.le_of_ble_eq_true rfl)) (cr_flow (pl := pl) (f := fun j => ((0 :: 0 :: 0 :: 0 :: 0 :: 0 :: 0 :: f 7 :: f 8 :: 0 :: f 10 :: f 11 :: f 12 :: f 13 :: f 14 :: f 15 :: f 16 :: f 17 :: 0 :: 0 :: 0 :: 0 :: 0 :: 0 :: f 24 :: 0 :: 0 :: 0 :: 0 :: 0 :: 0 :: 0 :: f 32 :: f 33 :: 0 :: 0 :: f 36 :: 0 :: 0 :: 0 :: 0 :: 0 :: 0 :: []) : List Int).getD j 0) (s := s) (cn := cn) (go := go) (ch := ch) (gt := gt) (gd := gd) (xs := xs) (ys := ys) (by omega) (by omega) q2 q3 q4 q5 q6 h66 h67 n67 h68 n68 h69 n69 h77 n77 h78 n78 h79 n79 h80 n80 hl) ?_
    rintro _ h_145 ⟨w'_145, gt'_145, gd'_145, xs'_145, ys'_145, rfl, e_145_66, e_145_77, m_145_77, e_145_78, m_145_78, e_145_79, m_145_79, e_145_80, m_145_80, p_145_0, F_145⟩
    have k_145 : cL h_145 := F_145.1.trans hl
    have fr_145 := hfr_cb (hfr_refl [66, 77, 78, 79, 80] h) F_145 rfl
    have g_145_67 := (hfr_g F_145 67 rfl).trans h67
    have g_145_68 := (hfr_g F_145 68 rfl).trans h68
    have g_145_69 := (hfr_g F_145 69 rfl).trans h69
    have g_145_66 : cE h_145 66 (.inr (10, (fI pl :: .ref 67 :: .ref 68 :: .ref 69 :: fI ((s : Nat) : Int) :: .ref 70 :: .ref 71 :: fI (f 7) :: fI (f 8) :: .ref 72 :: fI (f 10) :: fI (f 11) :: fI (f 12) :: fJ (f 13) :: fI (f 14) :: fI (f 15) :: fI (f 16) :: fI (f 17) :: .ref 73 :: .ref 74 :: .ref 75 :: .ref 76 :: .ref 77 :: .ref 78 :: fI w'_145 :: .ref 79 :: .ref 80 :: .ref 81 :: .ref 82 :: .ref 83 :: .ref 84 :: .ref 85 :: fJ (f 32) :: fJ (f 33) :: .ref 86 :: .ref 87 :: fI (f 36) :: .ref 88 :: .ref 89 :: .ref 90 :: .ref 91 :: .ref 92 :: .ref 93 :: []))) := e_145_66
    have g_145_77 : cE h_145 77 (.inl (.int, fA gt'_145)) := e_145_77
    have g_145_78 : cE h_145 78 (.inl (.int, fA gd'_145)) := e_145_78
    have g_145_79 : cE h_145 79 (.inl (.long, fL xs'_145)) := e_145_79
    have g_145_80 : cE h_145 80 (.inl (.long, fL ys'_145)) := e_145_80
    refine ik_Wk 0 (pc_q := 15) (loc_q := [some (.ref 66), some (fI kd), some (fI own)]) (st_q := []) (h_q := h_145) (cl_q := 0) (sl_q := 0) rfl ?_
    have hg_145 := (mf_fl_gd (W := (fun x => mx_w cn go ch s x)) q4 (by omega) q6).1
    refine ik_Wk 2 (pc_q := 17) (loc_q := [some (.ref 66), some (fI kd), some (fI own)]) (st_q := [fI 1, fI kd]) (h_q := h_145) (cl_q := 0) (sl_q := 0) rfl ?_
    refine fw_ic_ne rfl rfl (by omega) (by omega) (by omega) (by omega) (fun hc5 => ?_) (fun hc5 => ?_)
    · refine ik_Wk 1 (pc_q := 21) (loc_q := [some (.ref 66), some (fI kd), some (fI own)]) (st_q := [.ref 66]) (h_q := h_145) (cl_q := 0) (sl_q := 0) rfl ?_
      refine fw_call 153 1 0 [.ref 66] [] rfl rfl rfl (Nat.le_of_ble_eq_true rfl) rfl rfl (fw_rec k_145 rfl g_145_66 rfl (Nat.le_of_ble_eq_true rfl)) (cr_flow (pl := pl) (f := fun j => ((0 :: 0 :: 0 :: 0 :: 0 :: 0 :: 0 :: ((f 7)) :: ((f 8)) :: 0 :: ((f 10)) :: ((f 11)) :: ((f 12)) :: ((f 13)) :: ((f 14)) :: ((f 15)) :: ((f 16)) :: ((f 17)) :: 0 :: 0 :: 0 :: 0 :: 0 :: 0 :: w'_145 :: 0 :: 0 :: 0 :: 0 :: 0 :: 0 :: 0 :: ((f 32)) :: ((f 33)) :: 0 :: 0 :: ((f 36)) :: 0 :: 0 :: 0 :: 0 :: 0 :: 0 :: []) : List Int).getD j 0) (s := s) (cn := cn) (go := go) (ch := ch) (gt := gt'_145) (gd := gd'_145) (xs := xs'_145) (ys := ys'_145) (by omega) (by omega) q2 q3 q4 p_145_0 hg_145 g_145_66 g_145_67 n67 g_145_68 n68 g_145_69 n69 g_145_77 m_145_77 g_145_78 m_145_78 g_145_79 m_145_79 g_145_80 m_145_80 k_145) ?_
      rintro _ h_146 ⟨w'_146, gt'_146, gd'_146, xs'_146, ys'_146, rfl, e_146_66, e_146_77, m_146_77, e_146_78, m_146_78, e_146_79, m_146_79, e_146_80, m_146_80, p_146_0, F_146⟩
      have k_146 : cL h_146 := F_146.1.trans k_145
      have fr_146 := hfr_cb fr_145 F_146 rfl
      have g_146_67 := (hfr_g F_146 67 rfl).trans g_145_67
      have g_146_68 := (hfr_g F_146 68 rfl).trans g_145_68
      have g_146_69 := (hfr_g F_146 69 rfl).trans g_145_69
      have g_146_66 : cE h_146 66 (.inr (10, (fI pl :: .ref 67 :: .ref 68 :: .ref 69 :: fI ((s : Nat) : Int) :: .ref 70 :: .ref 71 :: fI (f 7) :: fI (f 8) :: .ref 72 :: fI (f 10) :: fI (f 11) :: fI (f 12) :: fJ (f 13) :: fI (f 14) :: fI (f 15) :: fI (f 16) :: fI (f 17) :: .ref 73 :: .ref 74 :: .ref 75 :: .ref 76 :: .ref 77 :: .ref 78 :: fI w'_146 :: .ref 79 :: .ref 80 :: .ref 81 :: .ref 82 :: .ref 83 :: .ref 84 :: .ref 85 :: fJ (f 32) :: fJ (f 33) :: .ref 86 :: .ref 87 :: fI (f 36) :: .ref 88 :: .ref 89 :: .ref 90 :: .ref 91 :: .ref 92 :: .ref 93 :: []))) := e_146_66
      have g_146_77 : cE h_146 77 (.inl (.int, fA gt'_146)) := e_146_77
      have g_146_78 : cE h_146 78 (.inl (.int, fA gd'_146)) := e_146_78
      have g_146_79 : cE h_146 79 (.inl (.long, fL xs'_146)) := e_146_79
      have g_146_80 : cE h_146 80 (.inl (.long, fL ys'_146)) := e_146_80
      refine ik_Wk 0 (pc_q := 24) (loc_q := [some (.ref 66), some (fI kd), some (fI own)]) (st_q := []) (h_q := h_146) (cl_q := 0) (sl_q := 0) rfl ?_
      have hg_146 := (mf_fl_gd (W := (fun x => mx_w cn go ch s x)) q4 (by omega) hg_145).1
      have et : mx_tm kd own = 2 := by unfold mx_tm; (repeat' split) <;> omega
      rw [et]
      exact ik_Wret rfl rfl ⟨_, _, rfl, rfl, rfl, rfl, ⟨w'_146, gt'_146, gd'_146, xs'_146, ys'_146, rfl, g_146_66, g_146_77, m_146_77, g_146_78, m_146_78, g_146_79, m_146_79, g_146_80, m_146_80, p_146_0, fr_146⟩⟩
    · have et : mx_tm kd own = 1 := by unfold mx_tm; (repeat' split) <;> omega
      rw [et]
      exact ik_Wret rfl rfl ⟨_, _, rfl, rfl, rfl, rfl, ⟨w'_145, gt'_145, gd'_145, xs'_145, ys'_145, rfl, g_145_66, g_145_77, m_145_77, g_145_78, m_145_78, g_145_79, m_145_79, g_145_80, m_145_80, p_145_0, fr_145⟩⟩

theorem cr_oddsAtL {h : List ik_E} {pl : Int} {f : Nat → Int} {s : Nat} {cn : List Int} {go : List Int} {ch : List Int} {gt : List Int} {gd : List Int} {xs : List Int} {ys : List Int} {kd : Int} {qp : Int} {t : Int} (q0 : 1 ≤ pl ∧ pl ≤ 12) (q1 : s < 4096) (q2 : ∀ x : Int, (0 : Int) ≤ x → x < pl - 1 → 0 ≤ cn.getD x.toNat 0 ∧ cn.getD x.toNat 0 ≤ 4) (q3 : ∀ x : Int, (0 : Int) ≤ x → x < pl - 1 → 1 ≤ cn.getD x.toNat 0 ∧ ∀ j : Int, 4 * x ≤ j → j < 4 * x + cn.getD x.toNat 0 → 0 ≤ ch.getD j.toNat 0 ∧ ch.getD j.toNat 0 ≤ 100) (q4 : ∀ x : Int, (0 : Int) ≤ x → x < pl - 1 → mx_ok pl (mx_w cn go ch s x)) (q5 : (0 : Int) ≤ kd ∧ kd ≤ (2 : Int)) (q6 : (0 : Int) ≤ qp ∧ qp < pl) (q7 : (0 : Int) ≤ t ∧ t ≤ (200 : Int))  : ∀ (k : Nat) (i : Int) (w1 : Int) (g1 : List Int) (d1 : List Int) (x1 : List Int) (y1 : List Int) (u : List ik_E) (u66 : cE u 66 (.inr (10, (fI pl :: .ref 67 :: .ref 68 :: .ref 69 :: fI ((s : Nat) : Int) :: .ref 70 :: .ref 71 :: fI (f 7) :: fI (f 8) :: .ref 72 :: fI (f 10) :: fI (f 11) :: fI (f 12) :: fJ (f 13) :: fI (f 14) :: fI (f 15) :: fI (f 16) :: fI (f 17) :: .ref 73 :: .ref 74 :: .ref 75 :: .ref 76 :: .ref 77 :: .ref 78 :: fI w1 :: .ref 79 :: .ref 80 :: .ref 81 :: .ref 82 :: .ref 83 :: .ref 84 :: .ref 85 :: fJ (f 32) :: fJ (f 33) :: .ref 86 :: .ref 87 :: fI (f 36) :: .ref 88 :: .ref 89 :: .ref 90 :: .ref 91 :: .ref 92 :: .ref 93 :: [])))) (u67 : cE u 67 (.inl (.int, fA cn))) (n67 : cn.length = (12 : Nat)) (u68 : cE u 68 (.inl (.int, fA go))) (n68 : go.length = (48 : Nat)) (u69 : cE u 69 (.inl (.int, fA ch))) (n69 : ch.length = (48 : Nat)) (u77 : cE u 77 (.inl (.int, fA g1))) (n77 : g1.length = (5 : Nat)) (u78 : cE u 78 (.inl (.int, fA d1))) (n78 : d1.length = (5 : Nat)) (u79 : cE u 79 (.inl (.long, fL x1))) (n79 : x1.length = (12 : Nat)) (u80 : cE u 80 (.inl (.long, fL y1))) (n80 : y1.length = (12 : Nat)) (ul : u.length = (94 : Nat)) (F : hfr [66, 77, 78, 79, 80] h u) (hi : (1 : Int) ≤ i ∧ i ≤ t + 1) (hx : mf_is pl x1 (mf_od (fun x => mx_w cn go ch s x) (pl - 1) kd qp (i - 1).toNat)) (hk : t + 1 - i < (k : Int)), ik_G 156 8 [some (.ref 66), some (fI kd), some (fI qp), some (fI t), some (fI i)] [] u (fun rv h_q => ∃ (w' : Int) (gt' : List Int) (gd' : List Int) (xs' : List Int) (ys' : List Int), rv = [] ∧ cE h_q 66 (.inr (10, (fI pl :: .ref 67 :: .ref 68 :: .ref 69 :: fI ((s : Nat) : Int) :: .ref 70 :: .ref 71 :: fI (f 7) :: fI (f 8) :: .ref 72 :: fI (f 10) :: fI (f 11) :: fI (f 12) :: fJ (f 13) :: fI (f 14) :: fI (f 15) :: fI (f 16) :: fI (f 17) :: .ref 73 :: .ref 74 :: .ref 75 :: .ref 76 :: .ref 77 :: .ref 78 :: fI w' :: .ref 79 :: .ref 80 :: .ref 81 :: .ref 82 :: .ref 83 :: .ref 84 :: .ref 85 :: fJ (f 32) :: fJ (f 33) :: .ref 86 :: .ref 87 :: fI (f 36) :: .ref 88 :: .ref 89 :: .ref 90 :: .ref 91 :: .ref 92 :: .ref 93 :: []))) ∧ cE h_q 77 (.inl (.int, fA gt')) ∧ gt'.length = (5 : Nat) ∧ cE h_q 78 (.inl (.int, fA gd')) ∧ gd'.length = (5 : Nat) ∧ cE h_q 79 (.inl (.long, fL xs')) ∧ xs'.length = (12 : Nat) ∧ cE h_q 80 (.inl (.long, fL ys')) ∧ ys'.length = (12 : Nat) ∧ (mf_is pl xs' (mf_od (fun x => mx_w cn go ch s x) (pl - 1) kd qp t.toNat)) ∧ hfr [66, 77, 78, 79, 80] h h_q) := by
  intro k
  induction k with
  | zero => intro i w1 g1 d1 x1 y1 u u66 u67 n67 u68 n68 u69 n69 u77 n77 u78 n78 u79 n79 u80 n80 ul F hi hx hk; omega
  | succ k ih =>
    intro i w1 g1 d1 x1 y1 u u66 u67 n67 u68 n68 u69 n69 u77 n77 u78 n78 u79 n79 u80 n80 ul F hi hx hk
    refine ik_Wk 2 (pc_q := 11) (loc_q := [some (.ref 66), some (fI kd), some (fI qp), some (fI t), some (fI i)]) (st_q := [fI t, fI i]) (h_q := u) (cl_q := 0) (sl_q := 0) rfl ?_
    refine fw_ic_gt rfl rfl (by omega) (by omega) (by omega) (by omega) (fun hc1 => ?_) (fun hc1 => ?_)
    · have ei : i - 1 = t := by omega
      rw [ei] at hx
      exact ik_Wret rfl rfl ⟨_, _, rfl, rfl, rfl, rfl, ⟨w1, g1, d1, x1, y1, rfl, u66, u77, n77, u78, n78, u79, n79, u80, n80, hx, F⟩⟩
    · refine ik_Wk 3 (pc_q := 18) (loc_q := [some (.ref 66), some (fI kd), some (fI qp), some (fI t), some (fI i)]) (st_q := [fI i, fI kd, .ref 66]) (h_q := u) (cl_q := 0) (sl_q := 0) rfl ?_
      refine fw_call 155 3 0 [.ref 66, fI kd, fI i] [] rfl rfl rfl (Nat.le_of_ble_eq_true rfl) rfl rfl (fw_rec ul rfl u66 rfl (Nat.le_of_ble_eq_true rfl)) (cr_goOn (pl := pl) (f := fun j => ((0 :: 0 :: 0 :: 0 :: 0 :: 0 :: 0 :: f 7 :: f 8 :: 0 :: f 10 :: f 11 :: f 12 :: f 13 :: f 14 :: f 15 :: f 16 :: f 17 :: 0 :: 0 :: 0 :: 0 :: 0 :: 0 :: w1 :: 0 :: 0 :: 0 :: 0 :: 0 :: 0 :: 0 :: f 32 :: f 33 :: 0 :: 0 :: f 36 :: 0 :: 0 :: 0 :: 0 :: 0 :: 0 :: []) : List Int).getD j 0) (s := s) (cn := cn) (go := go) (ch := ch) (gt := g1) (gd := d1) (xs := x1) (ys := y1) (kd := kd) (own := i) (by omega) (by omega) q2 q3 q4 hx (mf_od_gd (W := (fun x => mx_w cn go ch s x)) q4 (by omega) _) (by omega) (by omega) u66 u67 n67 u68 n68 u69 n69 u77 n77 u78 n78 u79 n79 u80 n80 ul) ?_
      rintro _ h_147 ⟨w'_147, gt'_147, gd'_147, xs'_147, ys'_147, rfl, e_147_66, e_147_77, m_147_77, e_147_78, m_147_78, e_147_79, m_147_79, e_147_80, m_147_80, p_147_0, F_147⟩
      have k_147 : cL h_147 := F_147.1.trans ul
      have fr_147 := hfr_cb F F_147 rfl
      have g_147_67 := (hfr_g F_147 67 rfl).trans u67
      have g_147_68 := (hfr_g F_147 68 rfl).trans u68
      have g_147_69 := (hfr_g F_147 69 rfl).trans u69
      have g_147_66 : cE h_147 66 (.inr (10, (fI pl :: .ref 67 :: .ref 68 :: .ref 69 :: fI ((s : Nat) : Int) :: .ref 70 :: .ref 71 :: fI (f 7) :: fI (f 8) :: .ref 72 :: fI (f 10) :: fI (f 11) :: fI (f 12) :: fJ (f 13) :: fI (f 14) :: fI (f 15) :: fI (f 16) :: fI (f 17) :: .ref 73 :: .ref 74 :: .ref 75 :: .ref 76 :: .ref 77 :: .ref 78 :: fI w'_147 :: .ref 79 :: .ref 80 :: .ref 81 :: .ref 82 :: .ref 83 :: .ref 84 :: .ref 85 :: fJ (f 32) :: fJ (f 33) :: .ref 86 :: .ref 87 :: fI (f 36) :: .ref 88 :: .ref 89 :: .ref 90 :: .ref 91 :: .ref 92 :: .ref 93 :: []))) := e_147_66
      have g_147_77 : cE h_147 77 (.inl (.int, fA gt'_147)) := e_147_77
      have g_147_78 : cE h_147 78 (.inl (.int, fA gd'_147)) := e_147_78
      have g_147_79 : cE h_147 79 (.inl (.long, fL xs'_147)) := e_147_79
      have g_147_80 : cE h_147 80 (.inl (.long, fL ys'_147)) := e_147_80
      refine ik_Wk 0 (pc_q := 21) (loc_q := [some (.ref 66), some (fI kd), some (fI qp), some (fI t), some (fI i)]) (st_q := []) (h_q := h_147) (cl_q := 0) (sl_q := 0) rfl ?_
      refine fw_inc (a := i) (loc_q := [some (.ref 66), some (fI kd), some (fI qp), some (fI t), some (fI (i + 1))]) rfl rfl (Nat.le_of_ble_eq_true rfl) rfl ?_
      refine ik_Wk 1 (pc_q := 8) (loc_q := [some (.ref 66), some (fI kd), some (fI qp), some (fI t), some (fI (i + 1))]) (st_q := []) (h_q := h_147) (cl_q := 0) (sl_q := 0) rfl ?_
      exact ih  (i + 1) w'_147 gt'_147 gd'_147 xs'_147 ys'_147 h_147 g_147_66 g_147_67 n67 g_147_68 n68 g_147_69 n69 g_147_77 m_147_77 g_147_78 m_147_78 g_147_79 m_147_79 g_147_80 m_147_80 k_147 fr_147 (by omega) (by have e := mf_od_s (W := (fun x => mx_w cn go ch s x)) (br := pl - 1) (k := kd) (q := qp) (u := i - 1) (by omega); rw [show i - 1 + 1 = i by omega] at e; rw [show i + 1 - 1 = i by omega, e]; exact p_147_0) (by omega)

theorem cr_oddsAt {h : List ik_E} {pl : Int} {f : Nat → Int} {s : Nat} {cn : List Int} {go : List Int} {ch : List Int} {gt : List Int} {gd : List Int} {xs : List Int} {ys : List Int} {kd : Int} {qp : Int} {t : Int} (q0 : 1 ≤ pl ∧ pl ≤ 12) (q1 : s < 4096) (q2 : ∀ x : Int, (0 : Int) ≤ x → x < pl - 1 → 0 ≤ cn.getD x.toNat 0 ∧ cn.getD x.toNat 0 ≤ 4) (q3 : ∀ x : Int, (0 : Int) ≤ x → x < pl - 1 → 1 ≤ cn.getD x.toNat 0 ∧ ∀ j : Int, 4 * x ≤ j → j < 4 * x + cn.getD x.toNat 0 → 0 ≤ ch.getD j.toNat 0 ∧ ch.getD j.toNat 0 ≤ 100) (q4 : ∀ x : Int, (0 : Int) ≤ x → x < pl - 1 → mx_ok pl (mx_w cn go ch s x)) (q5 : (0 : Int) ≤ kd ∧ kd ≤ (2 : Int)) (q6 : (0 : Int) ≤ qp ∧ qp < pl) (q7 : (0 : Int) ≤ t ∧ t ≤ (200 : Int)) (h66 : cE h 66 (.inr (10, (fI pl :: .ref 67 :: .ref 68 :: .ref 69 :: fI ((s : Nat) : Int) :: .ref 70 :: .ref 71 :: fI (f 7) :: fI (f 8) :: .ref 72 :: fI (f 10) :: fI (f 11) :: fI (f 12) :: fJ (f 13) :: fI (f 14) :: fI (f 15) :: fI (f 16) :: fI (f 17) :: .ref 73 :: .ref 74 :: .ref 75 :: .ref 76 :: .ref 77 :: .ref 78 :: fI (f 24) :: .ref 79 :: .ref 80 :: .ref 81 :: .ref 82 :: .ref 83 :: .ref 84 :: .ref 85 :: fJ (f 32) :: fJ (f 33) :: .ref 86 :: .ref 87 :: fI (f 36) :: .ref 88 :: .ref 89 :: .ref 90 :: .ref 91 :: .ref 92 :: .ref 93 :: [])))) (h67 : cE h 67 (.inl (.int, fA cn))) (n67 : cn.length = (12 : Nat)) (h68 : cE h 68 (.inl (.int, fA go))) (n68 : go.length = (48 : Nat)) (h69 : cE h 69 (.inl (.int, fA ch))) (n69 : ch.length = (48 : Nat)) (h77 : cE h 77 (.inl (.int, fA gt))) (n77 : gt.length = (5 : Nat)) (h78 : cE h 78 (.inl (.int, fA gd))) (n78 : gd.length = (5 : Nat)) (h79 : cE h 79 (.inl (.long, fL xs))) (n79 : xs.length = (12 : Nat)) (h80 : cE h 80 (.inl (.long, fL ys))) (n80 : ys.length = (12 : Nat)) (hl : h.length = (94 : Nat)) : ik_F 156 [.ref 66, fI kd, fI qp, fI t] h (fun rv h_q => ∃ (w' : Int) (gt' : List Int) (gd' : List Int) (xs' : List Int) (ys' : List Int), rv = [] ∧ cE h_q 66 (.inr (10, (fI pl :: .ref 67 :: .ref 68 :: .ref 69 :: fI ((s : Nat) : Int) :: .ref 70 :: .ref 71 :: fI (f 7) :: fI (f 8) :: .ref 72 :: fI (f 10) :: fI (f 11) :: fI (f 12) :: fJ (f 13) :: fI (f 14) :: fI (f 15) :: fI (f 16) :: fI (f 17) :: .ref 73 :: .ref 74 :: .ref 75 :: .ref 76 :: .ref 77 :: .ref 78 :: fI w' :: .ref 79 :: .ref 80 :: .ref 81 :: .ref 82 :: .ref 83 :: .ref 84 :: .ref 85 :: fJ (f 32) :: fJ (f 33) :: .ref 86 :: .ref 87 :: fI (f 36) :: .ref 88 :: .ref 89 :: .ref 90 :: .ref 91 :: .ref 92 :: .ref 93 :: []))) ∧ cE h_q 77 (.inl (.int, fA gt')) ∧ gt'.length = (5 : Nat) ∧ cE h_q 78 (.inl (.int, fA gd')) ∧ gd'.length = (5 : Nat) ∧ cE h_q 79 (.inl (.long, fL xs')) ∧ xs'.length = (12 : Nat) ∧ cE h_q 80 (.inl (.long, fL ys')) ∧ ys'.length = (12 : Nat) ∧ (mf_is pl xs' (mf_od (fun x => mx_w cn go ch s x) (pl - 1) kd qp t.toNat)) ∧ hfr [66, 77, 78, 79, 80] h h_q) := by
  refine ik_Wk 2 (pc_q := 2) (loc_q := [some (.ref 66), some (fI kd), some (fI qp), some (fI t), none]) (st_q := [fI qp, .ref 66]) (h_q := h) (cl_q := 0) (sl_q := 0) rfl ?_
  refine fw_call 154 2 0 [.ref 66, fI qp] [] rfl rfl rfl (Nat.le_of_ble_eq_true rfl) rfl rfl (fw_rec hl rfl h66 rfl (Nat.le_of_ble_eq_true rfl)) (cr_setIn (p := qp) (f := fun j => ((pl :: 0 :: 0 :: 0 :: (((s : Nat) : Int)) :: 0 :: 0 :: f 7 :: f 8 :: 0 :: f 10 :: f 11 :: f 12 :: f 13 :: f 14 :: f 15 :: f 16 :: f 17 :: 0 :: 0 :: 0 :: 0 :: 0 :: 0 :: f 24 :: 0 :: 0 :: 0 :: 0 :: 0 :: 0 :: 0 :: f 32 :: f 33 :: 0 :: 0 :: f 36 :: 0 :: 0 :: 0 :: 0 :: 0 :: 0 :: []) : List Int).getD j 0) (xs := xs) (by omega) h66 h79 n79 hl) ?_
  rintro _ h_148 ⟨xs'_148, rfl, e_148_79, m_148_79, p_148_0, F_148⟩
  have k_148 : cL h_148 := F_148.1.trans hl
  have fr_148 := hfr_cb (hfr_refl [66, 77, 78, 79, 80] h) F_148 rfl
  have g_148_66 := (hfr_g F_148 66 rfl).trans h66
  have g_148_67 := (hfr_g F_148 67 rfl).trans h67
  have g_148_68 := (hfr_g F_148 68 rfl).trans h68
  have g_148_69 := (hfr_g F_148 69 rfl).trans h69
  have g_148_77 := (hfr_g F_148 77 rfl).trans h77
  have g_148_78 := (hfr_g F_148 78 rfl).trans h78
  have g_148_80 := (hfr_g F_148 80 rfl).trans h80
  have g_148_79 : cE h_148 79 (.inl (.long, fL xs'_148)) := e_148_79
  refine ik_Wk 0 (pc_q := 5) (loc_q := [some (.ref 66), some (fI kd), some (fI qp), some (fI t), none]) (st_q := []) (h_q := h_148) (cl_q := 0) (sl_q := 0) rfl ?_
  refine ik_Wk 2 (pc_q := 8) (loc_q := [some (.ref 66), some (fI kd), some (fI qp), some (fI t), some (fI 1)]) (st_q := []) (h_q := h_148) (cl_q := 0) (sl_q := 0) rfl ?_
  exact cr_oddsAtL (pl := pl) (f := f) (s := s) (cn := cn) (go := go) (ch := ch) (gt := gt) (gd := gd) (xs := xs) (ys := ys) (kd := kd) (qp := qp) (t := t) q0 q1 q2 q3 q4 q5 q6 q7  (t.toNat + 1) 1 (f 24) gt gd xs'_148 ys h_148 g_148_66 g_148_67 n67 g_148_68 n68 g_148_69 n69 g_148_77 n77 g_148_78 n78 g_148_79 m_148_79 g_148_80 n80 k_148 fr_148 (by omega) (fun j hj => p_148_0 j (by omega)) (by omega)

theorem cr_comesRowL {h : List ik_E} {pl : Int} {f : Nat → Int} {s : Nat} {cn : List Int} {go : List Int} {ch : List Int} {gt : List Int} {gd : List Int} {xs : List Int} {ys : List Int} {kd : Int} {qp : Int} {r : Nat} {rr : List Int} (q0 : 1 ≤ pl ∧ pl ≤ 12) (q1 : s < 4096) (q2 : ∀ x : Int, (0 : Int) ≤ x → x < pl - 1 → 0 ≤ cn.getD x.toNat 0 ∧ cn.getD x.toNat 0 ≤ 4) (q3 : ∀ x : Int, (0 : Int) ≤ x → x < pl - 1 → 1 ≤ cn.getD x.toNat 0 ∧ ∀ j : Int, 4 * x ≤ j → j < 4 * x + cn.getD x.toNat 0 → 0 ≤ ch.getD j.toNat 0 ∧ ch.getD j.toNat 0 ≤ 100) (q4 : ∀ x : Int, (0 : Int) ≤ x → x < pl - 1 → mx_ok pl (mx_w cn go ch s x)) (q5 : (0 : Int) ≤ kd ∧ kd ≤ (2 : Int)) (q6 : (0 : Int) ≤ qp ∧ qp < pl) (q7 : r = 81 ∨ r = 82)  : ∀ (k : Nat) (i : Int) (w1 : Int) (g1 : List Int) (d1 : List Int) (x1 : List Int) (y1 : List Int) (r1 : List Int) (u : List ik_E) (u66 : cE u 66 (.inr (10, (fI pl :: .ref 67 :: .ref 68 :: .ref 69 :: fI ((s : Nat) : Int) :: .ref 70 :: .ref 71 :: fI (f 7) :: fI (f 8) :: .ref 72 :: fI (f 10) :: fI (f 11) :: fI (f 12) :: fJ (f 13) :: fI (f 14) :: fI (f 15) :: fI (f 16) :: fI (f 17) :: .ref 73 :: .ref 74 :: .ref 75 :: .ref 76 :: .ref 77 :: .ref 78 :: fI w1 :: .ref 79 :: .ref 80 :: .ref 81 :: .ref 82 :: .ref 83 :: .ref 84 :: .ref 85 :: fJ (f 32) :: fJ (f 33) :: .ref 86 :: .ref 87 :: fI (f 36) :: .ref 88 :: .ref 89 :: .ref 90 :: .ref 91 :: .ref 92 :: .ref 93 :: [])))) (u67 : cE u 67 (.inl (.int, fA cn))) (n67 : cn.length = (12 : Nat)) (u68 : cE u 68 (.inl (.int, fA go))) (n68 : go.length = (48 : Nat)) (u69 : cE u 69 (.inl (.int, fA ch))) (n69 : ch.length = (48 : Nat)) (u77 : cE u 77 (.inl (.int, fA g1))) (n77 : g1.length = (5 : Nat)) (u78 : cE u 78 (.inl (.int, fA d1))) (n78 : d1.length = (5 : Nat)) (u79 : cE u 79 (.inl (.long, fL x1))) (n79 : x1.length = (12 : Nat)) (u80 : cE u 80 (.inl (.long, fL y1))) (n80 : y1.length = (12 : Nat)) (ur : cE u r (.inl (.long, fL r1))) (nr : r1.length = (201 : Nat)) (ul : u.length = (94 : Nat)) (F : hfr [66, 77, 78, 79, 80, r] h u) (hi : (1 : Int) ≤ i ∧ i ≤ (201 : Int)) (hx : mf_is pl x1 (mf_od (fun x => mx_w cn go ch s x) (pl - 1) kd qp (i - 1).toNat)) (hr : ∀ j : Nat, (j : Int) < i → r1.getD j 0 = mf_cm (fun x => mx_w cn go ch s x) (pl - 1) kd qp j) (hk : 201 - i < (k : Int)), ik_G 157 20 [some (.ref 66), some (.ref r), some (fI kd), some (fI qp), some (fI i)] [] u (fun rv h_q => ∃ (w' : Int) (gt' : List Int) (gd' : List Int) (xs' : List Int) (ys' : List Int) (rr' : List Int), rv = [] ∧ cE h_q 66 (.inr (10, (fI pl :: .ref 67 :: .ref 68 :: .ref 69 :: fI ((s : Nat) : Int) :: .ref 70 :: .ref 71 :: fI (f 7) :: fI (f 8) :: .ref 72 :: fI (f 10) :: fI (f 11) :: fI (f 12) :: fJ (f 13) :: fI (f 14) :: fI (f 15) :: fI (f 16) :: fI (f 17) :: .ref 73 :: .ref 74 :: .ref 75 :: .ref 76 :: .ref 77 :: .ref 78 :: fI w' :: .ref 79 :: .ref 80 :: .ref 81 :: .ref 82 :: .ref 83 :: .ref 84 :: .ref 85 :: fJ (f 32) :: fJ (f 33) :: .ref 86 :: .ref 87 :: fI (f 36) :: .ref 88 :: .ref 89 :: .ref 90 :: .ref 91 :: .ref 92 :: .ref 93 :: []))) ∧ cE h_q 77 (.inl (.int, fA gt')) ∧ gt'.length = (5 : Nat) ∧ cE h_q 78 (.inl (.int, fA gd')) ∧ gd'.length = (5 : Nat) ∧ cE h_q 79 (.inl (.long, fL xs')) ∧ xs'.length = (12 : Nat) ∧ cE h_q 80 (.inl (.long, fL ys')) ∧ ys'.length = (12 : Nat) ∧ cE h_q r (.inl (.long, fL rr')) ∧ rr'.length = (201 : Nat) ∧ (∀ j : Nat, j ≤ 200 → rr'.getD j 0 = mf_cm (fun x => mx_w cn go ch s x) (pl - 1) kd qp j) ∧ hfr [66, 77, 78, 79, 80, r] h h_q) := by
  intro k
  induction k with
  | zero => intro i w1 g1 d1 x1 y1 r1 u u66 u67 n67 u68 n68 u69 n69 u77 n77 u78 n78 u79 n79 u80 n80 ur nr ul F hi hx hr hk; omega
  | succ k ih =>
    intro i w1 g1 d1 x1 y1 r1 u u66 u67 n67 u68 n68 u69 n69 u77 n77 u78 n78 u79 n79 u80 n80 ur nr ul F hi hx hr hk
    refine ik_Wk 1 (pc_q := 22) (loc_q := [some (.ref 66), some (.ref r), some (fI kd), some (fI qp), some (fI i)]) (st_q := [fI i]) (h_q := u) (cl_q := 0) (sl_q := 0) rfl ?_
    refine fw_si rfl (by decide +kernel) ?_
    refine fw_ic_gt rfl rfl (by omega) (by omega) (by omega) (by omega) (fun hc1 => ?_) (fun hc1 => ?_)
    · exact ik_Wret rfl rfl ⟨_, _, rfl, rfl, rfl, rfl, ⟨w1, g1, d1, x1, y1, r1, rfl, u66, u77, n77, u78, n78, u79, n79, u80, n80, ur, nr, (fun j hj => hr j (by omega)), F⟩⟩
    · refine ik_Wk 3 (pc_q := 32) (loc_q := [some (.ref 66), some (.ref r), some (fI kd), some (fI qp), some (fI i)]) (st_q := [fI i, fI kd, .ref 66]) (h_q := u) (cl_q := 0) (sl_q := 0) rfl ?_
      refine fw_call 155 3 0 [.ref 66, fI kd, fI i] [] rfl rfl rfl (Nat.le_of_ble_eq_true rfl) rfl rfl (fw_rec ul (fw_ftx rfl wv_n (wl_c rfl (wl_c (wl_r (by omega)) (wl_c rfl (wl_c rfl (wl_c rfl wl_n)))))) u66 rfl (by decide +kernel)) (cr_goOn (pl := pl) (f := fun j => ((0 :: 0 :: 0 :: 0 :: 0 :: 0 :: 0 :: f 7 :: f 8 :: 0 :: f 10 :: f 11 :: f 12 :: f 13 :: f 14 :: f 15 :: f 16 :: f 17 :: 0 :: 0 :: 0 :: 0 :: 0 :: 0 :: w1 :: 0 :: 0 :: 0 :: 0 :: 0 :: 0 :: 0 :: f 32 :: f 33 :: 0 :: 0 :: f 36 :: 0 :: 0 :: 0 :: 0 :: 0 :: 0 :: []) : List Int).getD j 0) (s := s) (cn := cn) (go := go) (ch := ch) (gt := g1) (gd := d1) (xs := x1) (ys := y1) (kd := kd) (own := i) (by omega) (by omega) q2 q3 q4 hx (mf_od_gd (W := (fun x => mx_w cn go ch s x)) q4 (by omega) _) (by omega) (by omega) u66 u67 n67 u68 n68 u69 n69 u77 n77 u78 n78 u79 n79 u80 n80 ul) ?_
      rintro _ h_149 ⟨w'_149, gt'_149, gd'_149, xs'_149, ys'_149, rfl, e_149_66, e_149_77, m_149_77, e_149_78, m_149_78, e_149_79, m_149_79, e_149_80, m_149_80, p_149_0, F_149⟩
      have k_149 : cL h_149 := F_149.1.trans ul
      have fr_149 := hfr_c F F_149 (by intro b_ hb; simp at hb ⊢; omega)
      have g_149_67 := (hfr_g F_149 67 rfl).trans u67
      have g_149_68 := (hfr_g F_149 68 rfl).trans u68
      have g_149_69 := (hfr_g F_149 69 rfl).trans u69
      have g_149_r := (F_149.2 r (by simp <;> omega)).trans ur
      have g_149_66 : cE h_149 66 (.inr (10, (fI pl :: .ref 67 :: .ref 68 :: .ref 69 :: fI ((s : Nat) : Int) :: .ref 70 :: .ref 71 :: fI (f 7) :: fI (f 8) :: .ref 72 :: fI (f 10) :: fI (f 11) :: fI (f 12) :: fJ (f 13) :: fI (f 14) :: fI (f 15) :: fI (f 16) :: fI (f 17) :: .ref 73 :: .ref 74 :: .ref 75 :: .ref 76 :: .ref 77 :: .ref 78 :: fI w'_149 :: .ref 79 :: .ref 80 :: .ref 81 :: .ref 82 :: .ref 83 :: .ref 84 :: .ref 85 :: fJ (f 32) :: fJ (f 33) :: .ref 86 :: .ref 87 :: fI (f 36) :: .ref 88 :: .ref 89 :: .ref 90 :: .ref 91 :: .ref 92 :: .ref 93 :: []))) := e_149_66
      have g_149_77 : cE h_149 77 (.inl (.int, fA gt'_149)) := e_149_77
      have g_149_78 : cE h_149 78 (.inl (.int, fA gd'_149)) := e_149_78
      have g_149_79 : cE h_149 79 (.inl (.long, fL xs'_149)) := e_149_79
      have g_149_80 : cE h_149 80 (.inl (.long, fL ys'_149)) := e_149_80
      refine ik_Wk 0 (pc_q := 35) (loc_q := [some (.ref 66), some (.ref r), some (fI kd), some (fI qp), some (fI i)]) (st_q := []) (h_q := h_149) (cl_q := 0) (sl_q := 0) rfl ?_
      refine ik_Wk 3 (pc_q := 39) (loc_q := [some (.ref 66), some (.ref r), some (fI kd), some (fI qp), some (fI i)]) (st_q := [.ref 66, fI i, .ref r]) (h_q := h_149) (cl_q := 0) (sl_q := 0) rfl ?_
      refine fw_gf rfl rfl g_149_66 rfl ?_
      refine ik_Wk 1 (pc_q := 43) (loc_q := [some (.ref 66), some (.ref r), some (fI kd), some (fI qp), some (fI i)]) (st_q := [.ref 66, .ref 79, fI i, .ref r]) (h_q := h_149) (cl_q := 0) (sl_q := 0) rfl ?_
      refine ik_Wc 130 1 0 [.ref 66] [.ref 79, fI i, .ref r] rfl rfl rfl (by decide +kernel) rfl rfl (fw_rec k_149 (fw_ftx rfl (wv_c rfl (wv_c rfl (wv_c (wv_r (by omega)) wv_n))) (wl_c rfl (wl_c (wl_r (by omega)) (wl_c rfl (wl_c rfl (wl_c rfl wl_n)))))) g_149_66 rfl (by decide +kernel)) ?_
      refine ik_Wk 0 (pc_q := 0) (loc_q := [some (.ref 66)]) (st_q := []) (h_q := h_149) (cl_q := 0) (sl_q := 0) rfl ?_
      refine ik_Wk 1 (pc_q := 1) (loc_q := [some (.ref 66)]) (st_q := [.ref 66]) (h_q := h_149) (cl_q := 0) (sl_q := 0) rfl ?_
      refine fw_gf rfl rfl g_149_66 rfl ?_
      refine ik_Wk 1 (pc_q := 5) (loc_q := [some (.ref 66)]) (st_q := [fI 1, fI pl]) (h_q := h_149) (cl_q := 0) (sl_q := 0) rfl ?_
      refine fw_sub rfl ?_
      refine ik_Wret rfl rfl ⟨_, _, rfl, rfl, ?_⟩
      refine ik_Wk 0 (pc_q := 46) (loc_q := [some (.ref 66), some (.ref r), some (fI kd), some (fI qp), some (fI i)]) (st_q := [fI (pl - 1), .ref 79, fI i, .ref r]) (h_q := h_149) (cl_q := 0) (sl_q := 0) rfl ?_
      refine fx_lal rfl g_149_79 (by omega) (by omega) (by omega) ?_
      have hl2 : (r1.set i.toNat (xs'_149.getD (pl - 1).toNat 0)).length = 201 := (List.length_set ..).trans nr
      refine fx_las rfl g_149_r (by omega) (by omega) (by omega) ?_
      intro h_150 e_150 f_150 l_150
      have k_150 : cL h_150 := l_150.trans k_149
      have fr_150 := hfr_w fr_149 f_150 l_150 (by simp <;> omega)
      clear l_150
      have g_150_66 := (f_150 66 (by omega)).trans g_149_66
      have g_150_67 := (f_150 67 (by omega)).trans g_149_67
      have g_150_68 := (f_150 68 (by omega)).trans g_149_68
      have g_150_69 := (f_150 69 (by omega)).trans g_149_69
      have g_150_77 := (f_150 77 (by omega)).trans g_149_77
      have g_150_78 := (f_150 78 (by omega)).trans g_149_78
      have g_150_79 := (f_150 79 (by omega)).trans g_149_79
      have g_150_80 := (f_150 80 (by omega)).trans g_149_80
      have g_150_r : cE h_150 r (.inl (.long, fL (r1.set i.toNat (xs'_149.getD (pl - 1).toNat 0)))) := e_150
      refine fw_inc (a := i) (loc_q := [some (.ref 66), some (.ref r), some (fI kd), some (fI qp), some (fI (i + 1))]) rfl rfl (Nat.le_of_ble_eq_true rfl) rfl ?_
      refine ik_Wk 1 (pc_q := 20) (loc_q := [some (.ref 66), some (.ref r), some (fI kd), some (fI qp), some (fI (i + 1))]) (st_q := []) (h_q := h_150) (cl_q := 0) (sl_q := 0) rfl ?_
      have hx2 : mf_is pl xs'_149 (mf_od (fun x => mx_w cn go ch s x) (pl - 1) kd qp i.toNat) := by
        have e := mf_od_s (W := (fun x => mx_w cn go ch s x)) (br := pl - 1) (k := kd) (q := qp) (u := i - 1) (by omega)
        rw [show i - 1 + 1 = i by omega] at e
        rw [e]
        exact p_149_0
      have hr2 : ∀ j : Nat, (j : Int) < i + 1 → (r1.set i.toNat (xs'_149.getD (pl - 1).toNat 0)).getD j 0 = mf_cm (fun x => mx_w cn go ch s x) (pl - 1) kd qp j := by
        intro j hj
        rw [fz_getD_set]
        by_cases z : j = i.toNat
        · rw [if_pos ⟨z, by omega⟩, z]; exact hx2 _ (by omega)
        · rw [if_neg (fun y => z y.1)]; exact hr j (by omega)
      exact ih  (i + 1) w'_149 gt'_149 gd'_149 xs'_149 ys'_149 (r1.set i.toNat (xs'_149.getD (pl - 1).toNat 0)) h_150 g_150_66 g_150_67 n67 g_150_68 n68 g_150_69 n69 g_150_77 m_149_77 g_150_78 m_149_78 g_150_79 m_149_79 g_150_80 m_149_80 g_150_r hl2 k_150 fr_150 (by omega) (by rw [show i + 1 - 1 = i by omega]; exact hx2) hr2 (by omega)

theorem cr_comesRow {h : List ik_E} {pl : Int} {f : Nat → Int} {s : Nat} {cn : List Int} {go : List Int} {ch : List Int} {gt : List Int} {gd : List Int} {xs : List Int} {ys : List Int} {kd : Int} {qp : Int} {r : Nat} {rr : List Int} (q0 : 1 ≤ pl ∧ pl ≤ 12) (q1 : s < 4096) (q2 : ∀ x : Int, (0 : Int) ≤ x → x < pl - 1 → 0 ≤ cn.getD x.toNat 0 ∧ cn.getD x.toNat 0 ≤ 4) (q3 : ∀ x : Int, (0 : Int) ≤ x → x < pl - 1 → 1 ≤ cn.getD x.toNat 0 ∧ ∀ j : Int, 4 * x ≤ j → j < 4 * x + cn.getD x.toNat 0 → 0 ≤ ch.getD j.toNat 0 ∧ ch.getD j.toNat 0 ≤ 100) (q4 : ∀ x : Int, (0 : Int) ≤ x → x < pl - 1 → mx_ok pl (mx_w cn go ch s x)) (q5 : (0 : Int) ≤ kd ∧ kd ≤ (2 : Int)) (q6 : (0 : Int) ≤ qp ∧ qp < pl) (q7 : r = 81 ∨ r = 82) (h66 : cE h 66 (.inr (10, (fI pl :: .ref 67 :: .ref 68 :: .ref 69 :: fI ((s : Nat) : Int) :: .ref 70 :: .ref 71 :: fI (f 7) :: fI (f 8) :: .ref 72 :: fI (f 10) :: fI (f 11) :: fI (f 12) :: fJ (f 13) :: fI (f 14) :: fI (f 15) :: fI (f 16) :: fI (f 17) :: .ref 73 :: .ref 74 :: .ref 75 :: .ref 76 :: .ref 77 :: .ref 78 :: fI (f 24) :: .ref 79 :: .ref 80 :: .ref 81 :: .ref 82 :: .ref 83 :: .ref 84 :: .ref 85 :: fJ (f 32) :: fJ (f 33) :: .ref 86 :: .ref 87 :: fI (f 36) :: .ref 88 :: .ref 89 :: .ref 90 :: .ref 91 :: .ref 92 :: .ref 93 :: [])))) (h67 : cE h 67 (.inl (.int, fA cn))) (n67 : cn.length = (12 : Nat)) (h68 : cE h 68 (.inl (.int, fA go))) (n68 : go.length = (48 : Nat)) (h69 : cE h 69 (.inl (.int, fA ch))) (n69 : ch.length = (48 : Nat)) (h77 : cE h 77 (.inl (.int, fA gt))) (n77 : gt.length = (5 : Nat)) (h78 : cE h 78 (.inl (.int, fA gd))) (n78 : gd.length = (5 : Nat)) (h79 : cE h 79 (.inl (.long, fL xs))) (n79 : xs.length = (12 : Nat)) (h80 : cE h 80 (.inl (.long, fL ys))) (n80 : ys.length = (12 : Nat)) (hr : cE h r (.inl (.long, fL rr))) (nr : rr.length = (201 : Nat)) (hl : h.length = (94 : Nat)) : ik_F 157 [.ref 66, .ref r, fI kd, fI qp] h (fun rv h_q => ∃ (w' : Int) (gt' : List Int) (gd' : List Int) (xs' : List Int) (ys' : List Int) (rr' : List Int), rv = [] ∧ cE h_q 66 (.inr (10, (fI pl :: .ref 67 :: .ref 68 :: .ref 69 :: fI ((s : Nat) : Int) :: .ref 70 :: .ref 71 :: fI (f 7) :: fI (f 8) :: .ref 72 :: fI (f 10) :: fI (f 11) :: fI (f 12) :: fJ (f 13) :: fI (f 14) :: fI (f 15) :: fI (f 16) :: fI (f 17) :: .ref 73 :: .ref 74 :: .ref 75 :: .ref 76 :: .ref 77 :: .ref 78 :: fI w' :: .ref 79 :: .ref 80 :: .ref 81 :: .ref 82 :: .ref 83 :: .ref 84 :: .ref 85 :: fJ (f 32) :: fJ (f 33) :: .ref 86 :: .ref 87 :: fI (f 36) :: .ref 88 :: .ref 89 :: .ref 90 :: .ref 91 :: .ref 92 :: .ref 93 :: []))) ∧ cE h_q 77 (.inl (.int, fA gt')) ∧ gt'.length = (5 : Nat) ∧ cE h_q 78 (.inl (.int, fA gd')) ∧ gd'.length = (5 : Nat) ∧ cE h_q 79 (.inl (.long, fL xs')) ∧ xs'.length = (12 : Nat) ∧ cE h_q 80 (.inl (.long, fL ys')) ∧ ys'.length = (12 : Nat) ∧ cE h_q r (.inl (.long, fL rr')) ∧ rr'.length = (201 : Nat) ∧ (∀ j : Nat, j ≤ 200 → rr'.getD j 0 = mf_cm (fun x => mx_w cn go ch s x) (pl - 1) kd qp j) ∧ hfr [66, 77, 78, 79, 80, r] h h_q) := by
  refine ik_Wk 2 (pc_q := 2) (loc_q := [some (.ref 66), some (.ref r), some (fI kd), some (fI qp), none]) (st_q := [fI qp, .ref 66]) (h_q := h) (cl_q := 0) (sl_q := 0) rfl ?_
  refine fw_call 154 2 0 [.ref 66, fI qp] [] rfl rfl rfl (Nat.le_of_ble_eq_true rfl) rfl rfl (fw_rec hl (fw_ftx rfl wv_n (wl_c rfl (wl_c (wl_r (by omega)) (wl_c rfl (wl_c rfl (wl_c rfl wl_n)))))) h66 rfl (by decide +kernel)) (cr_setIn (p := qp) (f := fun j => ((pl :: 0 :: 0 :: 0 :: (((s : Nat) : Int)) :: 0 :: 0 :: f 7 :: f 8 :: 0 :: f 10 :: f 11 :: f 12 :: f 13 :: f 14 :: f 15 :: f 16 :: f 17 :: 0 :: 0 :: 0 :: 0 :: 0 :: 0 :: f 24 :: 0 :: 0 :: 0 :: 0 :: 0 :: 0 :: 0 :: f 32 :: f 33 :: 0 :: 0 :: f 36 :: 0 :: 0 :: 0 :: 0 :: 0 :: 0 :: []) : List Int).getD j 0) (xs := xs) (by omega) h66 h79 n79 hl) ?_
  rintro _ h_151 ⟨xs'_151, rfl, e_151_79, m_151_79, p_151_0, F_151⟩
  have k_151 : cL h_151 := F_151.1.trans hl
  have fr_151 := hfr_c (hfr_refl [66, 77, 78, 79, 80, r] h) F_151 (by intro b_ hb; simp at hb ⊢; omega)
  have g_151_66 := (hfr_g F_151 66 rfl).trans h66
  have g_151_67 := (hfr_g F_151 67 rfl).trans h67
  have g_151_68 := (hfr_g F_151 68 rfl).trans h68
  have g_151_69 := (hfr_g F_151 69 rfl).trans h69
  have g_151_77 := (hfr_g F_151 77 rfl).trans h77
  have g_151_78 := (hfr_g F_151 78 rfl).trans h78
  have g_151_80 := (hfr_g F_151 80 rfl).trans h80
  have g_151_r := (F_151.2 r (by simp <;> omega)).trans hr
  have g_151_79 : cE h_151 79 (.inl (.long, fL xs'_151)) := e_151_79
  refine ik_Wk 0 (pc_q := 5) (loc_q := [some (.ref 66), some (.ref r), some (fI kd), some (fI qp), none]) (st_q := []) (h_q := h_151) (cl_q := 0) (sl_q := 0) rfl ?_
  refine ik_Wk 3 (pc_q := 8) (loc_q := [some (.ref 66), some (.ref r), some (fI kd), some (fI qp), none]) (st_q := [.ref 66, fI 0, .ref r]) (h_q := h_151) (cl_q := 0) (sl_q := 0) rfl ?_
  refine fw_gf rfl rfl g_151_66 rfl ?_
  refine ik_Wk 1 (pc_q := 12) (loc_q := [some (.ref 66), some (.ref r), some (fI kd), some (fI qp), none]) (st_q := [.ref 66, .ref 79, fI 0, .ref r]) (h_q := h_151) (cl_q := 0) (sl_q := 0) rfl ?_
  refine ik_Wc 130 1 0 [.ref 66] [.ref 79, fI 0, .ref r] rfl rfl rfl (by decide +kernel) rfl rfl (fw_rec k_151 (fw_ftx rfl (wv_c rfl (wv_c rfl (wv_c (wv_r (by omega)) wv_n))) (wl_c rfl (wl_c (wl_r (by omega)) (wl_c rfl (wl_c rfl (wl_c rfl wl_n)))))) g_151_66 rfl (by decide +kernel)) ?_
  refine ik_Wk 0 (pc_q := 0) (loc_q := [some (.ref 66)]) (st_q := []) (h_q := h_151) (cl_q := 0) (sl_q := 0) rfl ?_
  refine ik_Wk 1 (pc_q := 1) (loc_q := [some (.ref 66)]) (st_q := [.ref 66]) (h_q := h_151) (cl_q := 0) (sl_q := 0) rfl ?_
  refine fw_gf rfl rfl g_151_66 rfl ?_
  refine ik_Wk 1 (pc_q := 5) (loc_q := [some (.ref 66)]) (st_q := [fI 1, fI pl]) (h_q := h_151) (cl_q := 0) (sl_q := 0) rfl ?_
  refine fw_sub rfl ?_
  refine ik_Wret rfl rfl ⟨_, _, rfl, rfl, ?_⟩
  refine ik_Wk 0 (pc_q := 15) (loc_q := [some (.ref 66), some (.ref r), some (fI kd), some (fI qp), none]) (st_q := [fI (pl - 1), .ref 79, fI 0, .ref r]) (h_q := h_151) (cl_q := 0) (sl_q := 0) rfl ?_
  refine fx_lal rfl g_151_79 (by omega) (by omega) (by omega) ?_
  have hl1 : (rr.set (0 : Int).toNat (xs'_151.getD (pl - 1).toNat 0)).length = 201 := (List.length_set ..).trans nr
  refine fx_las rfl g_151_r (by omega) (by omega) (by omega) ?_
  intro h_152 e_152 f_152 l_152
  have k_152 : cL h_152 := l_152.trans k_151
  have fr_152 := hfr_w fr_151 f_152 l_152 (by simp <;> omega)
  clear l_152
  have g_152_66 := (f_152 66 (by omega)).trans g_151_66
  have g_152_67 := (f_152 67 (by omega)).trans g_151_67
  have g_152_68 := (f_152 68 (by omega)).trans g_151_68
  have g_152_69 := (f_152 69 (by omega)).trans g_151_69
  have g_152_77 := (f_152 77 (by omega)).trans g_151_77
  have g_152_78 := (f_152 78 (by omega)).trans g_151_78
  have g_152_79 := (f_152 79 (by omega)).trans g_151_79
  have g_152_80 := (f_152 80 (by omega)).trans g_151_80
  have g_152_r : cE h_152 r (.inl (.long, fL (rr.set (0 : Int).toNat (xs'_151.getD (pl - 1).toNat 0)))) := e_152
  refine ik_Wk 2 (pc_q := 20) (loc_q := [some (.ref 66), some (.ref r), some (fI kd), some (fI qp), some (fI 1)]) (st_q := []) (h_q := h_152) (cl_q := 0) (sl_q := 0) rfl ?_
  have hx0 : mf_is pl xs'_151 (mf_od (fun x => mx_w cn go ch s x) (pl - 1) kd qp 0) := fun j hj => p_151_0 j (by omega)
  have hr0 : ∀ j : Nat, (j : Int) < 1 → (rr.set (0 : Int).toNat (xs'_151.getD (pl - 1).toNat 0)).getD j 0 = mf_cm (fun x => mx_w cn go ch s x) (pl - 1) kd qp j := by
    intro j hj
    rw [show j = 0 by omega, fz_getD_set, if_pos ⟨by omega, by omega⟩]
    exact hx0 _ (by omega)
  exact cr_comesRowL (pl := pl) (f := f) (s := s) (cn := cn) (go := go) (ch := ch) (gt := gt) (gd := gd) (xs := xs) (ys := ys) (kd := kd) (qp := qp) (r := r) (rr := rr) q0 q1 q2 q3 q4 q5 q6 q7  202 1 (f 24) gt gd xs'_151 ys (rr.set (0 : Int).toNat (xs'_151.getD (pl - 1).toNat 0)) h_152 g_152_66 g_152_67 n67 g_152_68 n68 g_152_69 n69 g_152_77 n77 g_152_78 n78 g_152_79 m_151_79 g_152_80 n80 g_152_r hl1 k_152 fr_152 (by omega) hx0 hr0 (by omega)

end

/-! 38zf.rmodel -/
noncomputable section
/-! THE MODEL of suits: whose cork comes later -/
/-- a row of what has come: grows from 0 to at most a billion -/
def mr_ok (c : Nat → Int) : Prop := (∀ n, 0 ≤ c n ∧ c n ≤ 1000000000) ∧ (∀ n, c n ≤ c (n + 1)) ∧ c 0 = 0
theorem mr_ok_cm {W : Int → List (Int × Int)} {pl k q : Int} (hW : ∀ x : Int, (0 : Int) ≤ x → x < pl - 1 → mx_ok pl (W x)) (hq : (0 : Int) ≤ q ∧ q < pl - 1) : mr_ok (mf_cm W (pl - 1) k q) :=
  ⟨fun n => ⟨(mf_cm_b hW (by omega) n).1, (mf_cm_b hW (by omega) n).2.1⟩, fun n => (mf_cm_b hW (by omega) n).2.2, mf_cm_0 hq⟩
def mr_by (c : Nat → Int) (m u : Int) : Int := if u < m then 0 else c (u - m).toNat
def mr_ju (c : Nat → Int) (m u : Int) : Int := mr_by c m u - mr_by c m (u - 1)
theorem mr_by_b {c : Nat → Int} (hc : mr_ok c) (m u : Int) : 0 ≤ mr_by c m u ∧ mr_by c m u ≤ 1000000000 ∧ mr_by c m (u - 1) ≤ mr_by c m u := by
  unfold mr_by
  by_cases h : u < m
  · rw [if_pos h, if_pos (by omega)]; decide
  · rw [if_neg h]
    have a := hc.1 (u - m).toNat
    by_cases g : u - 1 < m
    · rw [if_pos g]; omega
    · rw [if_neg g]
      have b := hc.2.1 (u - 1 - m).toNat
      rw [show (u - 1 - m).toNat + 1 = (u - m).toNat by omega] at b
      omega
theorem mr_by_0 {c : Nat → Int} (hc : mr_ok c) {m u : Int} (hu : u ≤ 0) (hm : 0 ≤ m) : mr_by c m u = 0 := by
  unfold mr_by
  split
  · rfl
  · rw [show (u - m).toNat = 0 by omega]; exact hc.2.2
theorem mr_by_mono {c : Nat → Int} (hc : mr_ok c) (m u : Int) : ∀ k : Nat, mr_by c m u ≤ mr_by c m (u + k) := by
  intro k
  induction k with
  | zero => rw [show u + ((0 : Nat) : Int) = u by omega]; exact Int.le_refl _
  | succ k ih =>
    have := (mr_by_b hc m (u + ((k + 1 : Nat) : Int))).2.2
    rw [show u + ((k + 1 : Nat) : Int) - 1 = u + (k : Nat) by omega] at this
    omega
theorem mr_mul_b {a b : Int} (a0 : 0 ≤ a) (a1 : a ≤ 1000000000) (b0 : 0 ≤ b) (b1 : b ≤ 1000000000) : 0 ≤ a * b ∧ a * b ≤ 1000000000000000000 := by
  refine ⟨Int.mul_nonneg a0 b0, ?_⟩
  have := Int.mul_le_mul a1 b1 b0 (by omega : (0 : Int) ≤ 1000000000)
  omega
/-- sums of the first n -/
def mr_S (t : Int → Int) : Nat → Int
  | 0 => 0
  | n + 1 => mr_S t n + t (n : Nat)
theorem mr_S_s {t : Int → Int} {u : Int} (h : 0 ≤ u) : mr_S t (u + 1).toNat = mr_S t u.toNat + t u := by
  rw [show (u + 1).toNat = u.toNat + 1 by omega]
  show mr_S t u.toNat + t ((u.toNat : Nat) : Int) = _
  rw [Int.toNat_of_nonneg h]
theorem mr_S_mono {t : Int → Int} (h : ∀ u, 0 ≤ t u) (n : Nat) : ∀ k, mr_S t n ≤ mr_S t (n + k) := by
  intro k
  induction k with
  | zero => exact Int.le_refl _
  | succ k ih => have := h ((n + k : Nat) : Int); show mr_S t n ≤ mr_S t (n + k) + t ((n + k : Nat) : Int); omega
/-- of a minute: side 0 is later -/
def mr_t0 (c0 : Nat → Int) (m0 : Int) (c1 : Nat → Int) (m1 u : Int) : Int := mr_ju c1 m1 u * (1000000000 - mr_by c0 m0 u) / 1000000000
def mr_t2 (c0 : Nat → Int) (m0 : Int) (c1 : Nat → Int) (m1 u : Int) : Int := mr_ju c0 m0 u * mr_ju c1 m1 u / 1000000000
def mr_F0 (c0 : Nat → Int) (m0 : Int) (c1 : Nat → Int) (m1 : Int) : Int := mr_S (mr_t0 c0 m0 c1 m1) 201
def mr_F2 (c0 : Nat → Int) (m0 : Int) (c1 : Nat → Int) (m1 : Int) : Int := mr_S (mr_t2 c0 m0 c1 m1) 201
def mr_w (c0 : Nat → Int) (m0 : Int) (c1 : Nat → Int) (m1 wh : Int) : Int := (if wh = 0 then mr_F0 c0 m0 c1 m1 else if wh = 1 then mr_F0 c1 m1 c0 m0 else mr_F2 c0 m0 c1 m1) / 1000
theorem mr_tail {c : Nat → Int} {m A : Int} {z t : Int → Int} {n : Nat} (hc : mr_ok c) (ht : ∀ u, t u = mr_ju c m u * z u / 1000000000) (hz : ∀ u : Int, (n : Int) ≤ u → 0 ≤ z u ∧ z u ≤ A) (hA : (0 : Int) ≤ A) : ∀ k : Nat, mr_S t (n + k) - mr_S t n ≤ (mr_by c m ((n + k : Nat) - 1) - mr_by c m ((n : Nat) - 1)) * A / 1000000000 := by
  intro k
  induction k with
  | zero =>
    rw [show mr_by c m (((n + 0 : Nat) : Int) - 1) - mr_by c m ((n : Nat) - 1) = 0 from Int.sub_self _, Int.zero_mul]
    show mr_S t n - mr_S t n ≤ 0 / 1000000000
    omega
  | succ k ih =>
    have e : mr_S t (n + (k + 1)) = mr_S t (n + k) + t ((n + k : Nat) : Int) := rfl
    have hb := mr_by_b hc m ((n + k : Nat) : Int)
    have hu := hz ((n + k : Nat) : Int) (by omega)
    have e2 : (((n + (k + 1) : Nat) : Int) - 1) = ((n + k : Nat) : Int) := by omega
    rw [e, ht, e2]
    have h1 : mr_ju c m ((n + k : Nat) : Int) * z ((n + k : Nat) : Int) ≤ mr_ju c m ((n + k : Nat) : Int) * A := Int.mul_le_mul_of_nonneg_left hu.2 (by unfold mr_ju; omega)
    have h0 : 0 ≤ mr_ju c m ((n + k : Nat) : Int) * z ((n + k : Nat) : Int) := Int.mul_nonneg (by unfold mr_ju; omega) hu.1
    have h2 : (mr_by c m ((n + k : Nat) : Int) - mr_by c m ((n : Nat) - 1)) * A = (mr_by c m (((n + k : Nat) : Int) - 1) - mr_by c m ((n : Nat) - 1)) * A + mr_ju c m ((n + k : Nat) : Int) * A := by
      rw [← Int.add_mul]
      unfold mr_ju
      exact congrArg (· * A) (by omega)
    omega
theorem mr_t0_nn {c0 c1 : Nat → Int} (h0 : mr_ok c0) (h1 : mr_ok c1) (m0 m1 u : Int) : 0 ≤ mr_t0 c0 m0 c1 m1 u := by
  have a := mr_by_b h0 m0 u
  have b := mr_by_b h1 m1 u
  have := Int.mul_nonneg (show 0 ≤ mr_ju c1 m1 u by unfold mr_ju; omega) (show 0 ≤ 1000000000 - mr_by c0 m0 u by omega)
  unfold mr_t0
  omega
theorem mr_t2_nn {c0 c1 : Nat → Int} (h0 : mr_ok c0) (h1 : mr_ok c1) (m0 m1 u : Int) : 0 ≤ mr_t2 c0 m0 c1 m1 u := by
  have a := mr_by_b h0 m0 u
  have b := mr_by_b h1 m1 u
  have := Int.mul_nonneg (show 0 ≤ mr_ju c0 m0 u by unfold mr_ju; omega) (show 0 ≤ mr_ju c1 m1 u by unfold mr_ju; omega)
  unfold mr_t2
  omega
/-- what can still be added behind minute u -/
theorem mr_rest0 {c0 c1 : Nat → Int} (h0 : mr_ok c0) (h1 : mr_ok c1) {m0 m1 u : Int} (hu : 0 ≤ u ∧ u ≤ 200) : mr_S (mr_t0 c0 m0 c1 m1) (u + 1).toNat ≤ mr_F0 c0 m0 c1 m1 ∧ mr_F0 c0 m0 c1 m1 ≤ mr_S (mr_t0 c0 m0 c1 m1) (u + 1).toNat + (1000000000 - mr_by c0 m0 u) * (1000000000 - mr_by c1 m1 u) / 1000000000 := by
  have en : (u + 1).toNat + (200 - u).toNat = 201 := by omega
  have hm := mr_S_mono (t := mr_t0 c0 m0 c1 m1) (fun v => mr_t0_nn h0 h1 m0 m1 v) (u + 1).toNat (200 - u).toNat
  have a := mr_by_b h0 m0 u
  have b := mr_by_b h1 m1 u
  have ht := mr_tail (c := c1) (m := m1) (A := 1000000000 - mr_by c0 m0 u) (z := fun v => 1000000000 - mr_by c0 m0 v) (t := mr_t0 c0 m0 c1 m1) (n := (u + 1).toNat) h1 (fun _ => rfl)
    (fun v hv => by
      have x := mr_by_b h0 m0 v
      have y := mr_by_mono h0 m0 u (v - u).toNat
      rw [show u + ((v - u).toNat : Int) = v by omega] at y
      show 0 ≤ 1000000000 - mr_by c0 m0 v ∧ 1000000000 - mr_by c0 m0 v ≤ _
      omega) (by omega) (200 - u).toNat
  rw [en] at hm ht
  rw [show (((u + 1).toNat : Nat) : Int) - 1 = u by omega] at ht
  have b2 := mr_by_b h1 m1 (((201 : Nat) : Int) - 1)
  have hx : (mr_by c1 m1 (((201 : Nat) : Int) - 1) - mr_by c1 m1 u) * (1000000000 - mr_by c0 m0 u) ≤ (1000000000 - mr_by c1 m1 u) * (1000000000 - mr_by c0 m0 u) := Int.mul_le_mul_of_nonneg_right (by omega) (by omega)
  rw [Int.mul_comm (1000000000 - mr_by c1 m1 u)] at hx
  unfold mr_F0
  omega
theorem mr_rest2 {c0 c1 : Nat → Int} (h0 : mr_ok c0) (h1 : mr_ok c1) {m0 m1 u : Int} (hu : 0 ≤ u ∧ u ≤ 200) : mr_S (mr_t2 c0 m0 c1 m1) (u + 1).toNat ≤ mr_F2 c0 m0 c1 m1 ∧ mr_F2 c0 m0 c1 m1 ≤ mr_S (mr_t2 c0 m0 c1 m1) (u + 1).toNat + (1000000000 - mr_by c0 m0 u) * (1000000000 - mr_by c1 m1 u) / 1000000000 := by
  have en : (u + 1).toNat + (200 - u).toNat = 201 := by omega
  have hm := mr_S_mono (t := mr_t2 c0 m0 c1 m1) (fun v => mr_t2_nn h0 h1 m0 m1 v) (u + 1).toNat (200 - u).toNat
  have a := mr_by_b h0 m0 u
  have b := mr_by_b h1 m1 u
  have ht := mr_tail (c := c1) (m := m1) (A := 1000000000 - mr_by c0 m0 u) (z := fun v => mr_ju c0 m0 v) (t := mr_t2 c0 m0 c1 m1) (n := (u + 1).toNat) h1 (fun v => by unfold mr_t2; rw [Int.mul_comm])
    (fun v hv => by
      have x := mr_by_b h0 m0 v
      have y := mr_by_mono h0 m0 u (v - 1 - u).toNat
      rw [show u + ((v - 1 - u).toNat : Int) = v - 1 by omega] at y
      show 0 ≤ mr_ju c0 m0 v ∧ mr_ju c0 m0 v ≤ _
      unfold mr_ju
      omega) (by omega) (200 - u).toNat
  rw [en] at hm ht
  rw [show (((u + 1).toNat : Nat) : Int) - 1 = u by omega] at ht
  have b2 := mr_by_b h1 m1 (((201 : Nat) : Int) - 1)
  have hx : (mr_by c1 m1 (((201 : Nat) : Int) - 1) - mr_by c1 m1 u) * (1000000000 - mr_by c0 m0 u) ≤ (1000000000 - mr_by c1 m1 u) * (1000000000 - mr_by c0 m0 u) := Int.mul_le_mul_of_nonneg_right (by omega) (by omega)
  rw [Int.mul_comm (1000000000 - mr_by c1 m1 u)] at hx
  unfold mr_F2
  omega
theorem mr_S_b0 {c0 c1 : Nat → Int} (h0 : mr_ok c0) (h1 : mr_ok c1) (m0 : Int) {m1 : Int} (hm : 0 ≤ m1) (n : Nat) : 0 ≤ mr_S (mr_t0 c0 m0 c1 m1) n ∧ mr_S (mr_t0 c0 m0 c1 m1) n ≤ 1000000000 := by
  have hm' := mr_S_mono (t := mr_t0 c0 m0 c1 m1) (fun v => mr_t0_nn h0 h1 m0 m1 v) 0 n
  have ht := mr_tail (c := c1) (m := m1) (A := 1000000000) (z := fun v => 1000000000 - mr_by c0 m0 v) (t := mr_t0 c0 m0 c1 m1) (n := 0) h1 (fun _ => rfl) (fun v _ => by have x := mr_by_b h0 m0 v; show 0 ≤ 1000000000 - mr_by c0 m0 v ∧ 1000000000 - mr_by c0 m0 v ≤ _; omega) (by decide +kernel) n
  rw [Nat.zero_add] at hm' ht
  have z := mr_by_0 h1 (m := m1) (u := ((0 : Nat) : Int) - 1) (by omega) hm
  have b := mr_by_b h1 m1 ((n : Nat) - 1)
  have s0 : mr_S (mr_t0 c0 m0 c1 m1) 0 = 0 := rfl
  rw [z] at ht
  omega
theorem mr_S_b2 {c0 c1 : Nat → Int} (h0 : mr_ok c0) (h1 : mr_ok c1) (m0 : Int) {m1 : Int} (hm : 0 ≤ m1) (n : Nat) : 0 ≤ mr_S (mr_t2 c0 m0 c1 m1) n ∧ mr_S (mr_t2 c0 m0 c1 m1) n ≤ 1000000000 := by
  have hm' := mr_S_mono (t := mr_t2 c0 m0 c1 m1) (fun v => mr_t2_nn h0 h1 m0 m1 v) 0 n
  have ht := mr_tail (c := c1) (m := m1) (A := 1000000000) (z := fun v => mr_ju c0 m0 v) (t := mr_t2 c0 m0 c1 m1) (n := 0) h1 (fun v => by unfold mr_t2; rw [Int.mul_comm]) (fun v _ => by have x := mr_by_b h0 m0 v; have y := mr_by_b h0 m0 (v - 1); show 0 ≤ mr_ju c0 m0 v ∧ mr_ju c0 m0 v ≤ _; unfold mr_ju; omega) (by decide +kernel) n
  rw [Nat.zero_add] at hm' ht
  have z := mr_by_0 h1 (m := m1) (u := ((0 : Nat) : Int) - 1) (by omega) hm
  have b := mr_by_b h1 m1 ((n : Nat) - 1)
  have s0 : mr_S (mr_t2 c0 m0 c1 m1) 0 = 0 := rfl
  rw [z] at ht
  omega
theorem mr_t0_0 {c0 c1 : Nat → Int} (h1 : mr_ok c1) (m0 : Int) {m1 : Int} (hm : 0 ≤ m1) : mr_S (mr_t0 c0 m0 c1 m1) 1 = 0 := by
  show 0 + mr_t0 c0 m0 c1 m1 ((0 : Nat) : Int) = 0
  unfold mr_t0 mr_ju
  rw [mr_by_0 h1 (u := ((0 : Nat) : Int)) (by omega) hm, mr_by_0 h1 (u := ((0 : Nat) : Int) - 1) (by omega) hm, Int.sub_self, Int.zero_mul]
  decide
theorem mr_t2_0 {c0 c1 : Nat → Int} (h1 : mr_ok c1) (m0 : Int) {m1 : Int} (hm : 0 ≤ m1) : mr_S (mr_t2 c0 m0 c1 m1) 1 = 0 := by
  show 0 + mr_t2 c0 m0 c1 m1 ((0 : Nat) : Int) = 0
  unfold mr_t2
  rw [show mr_ju c1 m1 ((0 : Nat) : Int) = 0 by unfold mr_ju; rw [mr_by_0 h1 (u := ((0 : Nat) : Int)) (by omega) hm, mr_by_0 h1 (u := ((0 : Nat) : Int) - 1) (by omega) hm]; rfl, Int.mul_zero]
  decide
theorem mr_w_b {c0 c1 : Nat → Int} (h0 : mr_ok c0) (h1 : mr_ok c1) {m0 m1 : Int} (hm0 : 0 ≤ m0) (hm : 0 ≤ m1) (wh : Int) : 0 ≤ mr_w c0 m0 c1 m1 wh ∧ mr_w c0 m0 c1 m1 wh ≤ 1000000 := by
  have a := mr_S_b0 h0 h1 m0 hm 201
  have b := mr_S_b0 h1 h0 m1 hm0 201
  have c := mr_S_b2 h0 h1 m0 hm 201
  unfold mr_w mr_F0 mr_F2
  split
  · omega
  · split <;> omega
theorem mr_w_0 {c0 c1 : Nat → Int} {m0 m1 : Int} : mr_w c0 m0 c1 m1 0 = mr_F0 c0 m0 c1 m1 / 1000 := by unfold mr_w; rw [if_pos rfl]
theorem mr_w_1 {c0 c1 : Nat → Int} {m0 m1 : Int} : mr_w c0 m0 c1 m1 1 = mr_F0 c1 m1 c0 m0 / 1000 := by unfold mr_w; rw [if_neg (by decide +kernel), if_pos rfl]
theorem mr_w_2 {c0 c1 : Nat → Int} {m0 m1 : Int} : mr_w c0 m0 c1 m1 2 = mr_F2 c0 m0 c1 m1 / 1000 := by unfold mr_w; rw [if_neg (by decide +kernel), if_neg (by decide +kernel)]
theorem mr_F_b {c0 c1 : Nat → Int} (h0 : mr_ok c0) (h1 : mr_ok c1) (m0 : Int) {m1 : Int} (hm : 0 ≤ m1) : 0 ≤ mr_F0 c0 m0 c1 m1 ∧ mr_F0 c0 m0 c1 m1 ≤ 1000000000 := mr_S_b0 h0 h1 m0 hm 201
theorem mr_ct {W : Int → List (Int × Int)} {pl k q u m : Int} (hu : u ≤ 200) (hm : 0 ≤ m) : mf_ct W pl k q (u - m) = mr_by (mf_cm W (pl - 1) k q) m u := by
  unfold mf_ct mr_by
  by_cases h : u < m
  · rw [if_pos h, if_neg (by omega)]
  · rw [if_neg h, if_pos (by omega)]
end
