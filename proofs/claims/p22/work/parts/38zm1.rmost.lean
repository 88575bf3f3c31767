/-! 38zm1.rmost -/
noncomputable section
theorem rp_most0L {h : List ik_E} {pl : Int} {f : Nat → Int} {s : Nat} {cn : List Int} {go : List Int} {ch : List Int} {gt : List Int} {gd : List Int} {xs : List Int} {ys : List Int} {ka : Int} {pa : Int} {fa : Int} {kb : Int} {pb : Int} {fb : Int} {r1 : List Int} {r2 : List Int} {what : Int} (q0 : 0 ≤ pl ∧ pl ≤ 12) (q1 : s < 4096) (q2 : ∀ x : Int, (0 : Int) ≤ x → x < pl - 1 → 0 ≤ cn.getD x.toNat 0 ∧ cn.getD x.toNat 0 ≤ 4) (q3 : ∀ x : Int, (0 : Int) ≤ x → x < pl - 1 → 1 ≤ cn.getD x.toNat 0 ∧ ∀ j : Int, 4 * x ≤ j → j < 4 * x + cn.getD x.toNat 0 → 0 ≤ ch.getD j.toNat 0 ∧ ch.getD j.toNat 0 ≤ 100) (q4 : ∀ x : Int, (0 : Int) ≤ x → x < pl - 1 → mx_ok pl (mx_w cn go ch s x)) (q5 : (0 : Int) ≤ ka ∧ ka ≤ (2 : Int)) (q6 : (0 : Int) ≤ kb ∧ kb ≤ (2 : Int)) (q7 : (1 : Int) < pl → (0 : Int) ≤ pa ∧ pa < pl - 1) (q8 : (1 : Int) < pl → (0 : Int) ≤ pb ∧ pb < pl - 1) (q9 : (0 : Int) ≤ fa ∧ fa ≤ (30 : Int)) (q10 : (0 : Int) ≤ fb ∧ fb ≤ (30 : Int)) (q11 : mx_rw pl cn go ch) (q12 : (-2147483648 : Int) ≤ what ∧ what < (2147483648 : Int)) {nw : Int} (hpl : (1 : Int) < pl) (hw : (0 : Int) ≤ what ∧ what ≤ (1 : Int)) (hnw : nw = mk_lw cn go ch s pl ka pa fa kb pb fb 0) (hnb : (0 : Int) ≤ nw ∧ nw ≤ (1000000 : Int)) : ∀ (k : Nat) (p : Int) (b : Int) (y : Int) (w1 : Int) (g1 : List Int) (d1 : List Int) (x1 : List Int) (y1 : List Int) (s1 : List Int) (s2 : List Int) (x7 : Option Value) (x8 : Option Value) (u : List ik_E) (u66 : cE u 66 (.inr (10, (fI pl :: .ref 67 :: .ref 68 :: .ref 69 :: fI ((s : Nat) : Int) :: .ref 70 :: .ref 71 :: fI (f 7) :: fI (f 8) :: .ref 72 :: fI (f 10) :: fI (f 11) :: fI (f 12) :: fJ (f 13) :: fI (f 14) :: fI (f 15) :: fI (f 16) :: fI (f 17) :: .ref 73 :: .ref 74 :: .ref 75 :: .ref 76 :: .ref 77 :: .ref 78 :: fI w1 :: .ref 79 :: .ref 80 :: .ref 81 :: .ref 82 :: .ref 83 :: .ref 84 :: .ref 85 :: fJ (f 32) :: fJ (f 33) :: .ref 86 :: .ref 87 :: fI (f 36) :: .ref 88 :: .ref 89 :: .ref 90 :: .ref 91 :: .ref 92 :: .ref 93 :: [])))) (u67 : cE u 67 (.inl (.int, fA cn))) (n67 : cn.length = (12 : Nat)) (u68 : cE u 68 (.inl (.int, fA go))) (n68 : go.length = (48 : Nat)) (u69 : cE u 69 (.inl (.int, fA ch))) (n69 : ch.length = (48 : Nat)) (u77 : cE u 77 (.inl (.int, fA g1))) (n77 : g1.length = (5 : Nat)) (u78 : cE u 78 (.inl (.int, fA d1))) (n78 : d1.length = (5 : Nat)) (u79 : cE u 79 (.inl (.long, fL x1))) (n79 : x1.length = (12 : Nat)) (u80 : cE u 80 (.inl (.long, fL y1))) (n80 : y1.length = (12 : Nat)) (u70 : cE u 70 (.inl (.int, fA [ka, pa, fa, kb, pb, fb]))) (u81 : cE u 81 (.inl (.long, fL s1))) (n81 : s1.length = (201 : Nat)) (u82 : cE u 82 (.inl (.long, fL s2))) (n82 : s2.length = (201 : Nat)) (ul : u.length = (94 : Nat)) (F : hfr [66, 77, 78, 79, 80, 81, 82] h u) (hp : (0 : Int) ≤ p ∧ p ≤ pl - 1) (hb : (b = -1 ∧ p = 0) ∨ ((0 : Int) ≤ b ∧ b < (12 : Int) ∧ (0 : Int) < p)) (hyb : (-1000000 : Int) ≤ y ∧ y ≤ (1000000 : Int)) (he : (mk_mo (mk_vm cn go ch s pl ka pa fa kb pb fb 0) (pl - 1).toNat 0 (-1) 0) = mk_mo (mk_vm cn go ch s pl ka pa fa kb pb fb 0) (pl - 1 - p).toNat p b y) (w7 : ik_wl 94 x7 = true) (w8 : ik_wl 94 x8 = true) (hk : pl - p < (k : Int)), ik_G 182 48 [some (.ref 66), some (fI 0), some (fI what), some (fI nw), some (fI b), some (fI y), some (fI p), x7, x8] [] u (fun rv h_q => ∃ (w' : Int) (gt' : List Int) (gd' : List Int) (xs' : List Int) (ys' : List Int) (r1' : List Int) (r2' : List Int), rv = [fI (an_mo what pl (if what = 0 then (mk_mo (mk_vm cn go ch s pl ka pa fa kb pb fb 0) (pl - 1).toNat 0 (-1) 0).1 else (mk_mo (mk_vm cn go ch s pl ka pa fa kb pb fb 0) (pl - 1).toNat 0 (-1) 0).2))] ∧ cE h_q 66 (.inr (10, (fI pl :: .ref 67 :: .ref 68 :: .ref 69 :: fI ((s : Nat) : Int) :: .ref 70 :: .ref 71 :: fI (f 7) :: fI (f 8) :: .ref 72 :: fI (f 10) :: fI (f 11) :: fI (f 12) :: fJ (f 13) :: fI (f 14) :: fI (f 15) :: fI (f 16) :: fI (f 17) :: .ref 73 :: .ref 74 :: .ref 75 :: .ref 76 :: .ref 77 :: .ref 78 :: fI w' :: .ref 79 :: .ref 80 :: .ref 81 :: .ref 82 :: .ref 83 :: .ref 84 :: .ref 85 :: fJ (f 32) :: fJ (f 33) :: .ref 86 :: .ref 87 :: fI (f 36) :: .ref 88 :: .ref 89 :: .ref 90 :: .ref 91 :: .ref 92 :: .ref 93 :: []))) ∧ cE h_q 77 (.inl (.int, fA gt')) ∧ gt'.length = (5 : Nat) ∧ cE h_q 78 (.inl (.int, fA gd')) ∧ gd'.length = (5 : Nat) ∧ cE h_q 79 (.inl (.long, fL xs')) ∧ xs'.length = (12 : Nat) ∧ cE h_q 80 (.inl (.long, fL ys')) ∧ ys'.length = (12 : Nat) ∧ cE h_q 81 (.inl (.long, fL r1')) ∧ r1'.length = (201 : Nat) ∧ cE h_q 82 (.inl (.long, fL r2')) ∧ r2'.length = (201 : Nat) ∧ hfr [66, 77, 78, 79, 80, 81, 82] h h_q) := by
  intro k
  induction k with
  | zero => intro p b y w1 g1 d1 x1 y1 s1 s2 x7 x8 u u66 u67 n67 u68 n68 u69 n69 u77 n77 u78 n78 u79 n79 u80 n80 u70 u81 n81 u82 n82 ul F hp hb hyb he w7 w8 hk; omega
  | succ k ih =>
    intro p b y w1 g1 d1 x1 y1 s1 s2 x7 x8 u u66 u67 n67 u68 n68 u69 n69 u77 n77 u78 n78 u79 n79 u80 n80 u70 u81 n81 u82 n82 ul F hp hb hyb he w7 w8 hk
    refine ik_Wk 2 (pc_q := 51) (loc_q := [some (.ref 66), some (fI 0), some (fI what), some (fI nw), some (fI b), some (fI y), some (fI p), x7, x8]) (st_q := [.ref 66, fI p]) (h_q := u) (cl_q := 0) (sl_q := 0) rfl ?_
    refine fw_gf rfl rfl u66 rfl ?_
    refine ik_Wk 1 (pc_q := 55) (loc_q := [some (.ref 66), some (fI 0), some (fI what), some (fI nw), some (fI b), some (fI y), some (fI p), x7, x8]) (st_q := [fI 1, fI pl, fI p]) (h_q := u) (cl_q := 0) (sl_q := 0) rfl ?_
    refine fw_sub rfl ?_
    refine fw_ic_ge rfl rfl (by omega) (by omega) (by omega) (by omega) (fun hc1 => ?_) (fun hc1 => ?_)
    · refine ik_Wk 1 (pc_q := 157) (loc_q := [some (.ref 66), some (fI 0), some (fI what), some (fI nw), some (fI b), some (fI y), some (fI p), x7, x8]) (st_q := [fI what]) (h_q := u) (cl_q := 0) (sl_q := 0) rfl ?_
      refine fw_if_ne rfl rfl (by omega) (by omega) (fun hc2 => ?_) (fun hc2 => ?_)
      · refine ik_Wk 2 (pc_q := 167) (loc_q := [some (.ref 66), some (fI 0), some (fI what), some (fI nw), some (fI b), some (fI y), some (fI p), x7, x8]) (st_q := [fI b]) (h_q := u) (cl_q := 0) (sl_q := 0) rfl ?_
        have e0 : (pl - 1 - p).toNat = 0 := by omega
        rw [e0] at he
        have e1 : (mk_mo (mk_vm cn go ch s pl ka pa fa kb pb fb 0) (pl - 1).toNat 0 (-1) 0).1 = b := by rw [he]; rfl
        have e2 : (mk_mo (mk_vm cn go ch s pl ka pa fa kb pb fb 0) (pl - 1).toNat 0 (-1) 0).2 = y := by rw [he]; rfl
        exact ik_Wret rfl rfl ⟨_, _, rfl, rfl, rfl, rfl, ⟨w1, g1, d1, x1, y1, s1, s2, (congrArg (fun z => [fI z]) (by rw [e1, e2]; unfold an_mo; (repeat' split) <;> first | rfl | omega)), u66, u77, n77, u78, n78, u79, n79, u80, n80, u81, n81, u82, n82, F⟩⟩
      · refine ik_Wk 1 (pc_q := 167) (loc_q := [some (.ref 66), some (fI 0), some (fI what), some (fI nw), some (fI b), some (fI y), some (fI p), x7, x8]) (st_q := [fI y]) (h_q := u) (cl_q := 0) (sl_q := 0) rfl ?_
        have e0 : (pl - 1 - p).toNat = 0 := by omega
        rw [e0] at he
        have e1 : (mk_mo (mk_vm cn go ch s pl ka pa fa kb pb fb 0) (pl - 1).toNat 0 (-1) 0).1 = b := by rw [he]; rfl
        have e2 : (mk_mo (mk_vm cn go ch s pl ka pa fa kb pb fb 0) (pl - 1).toNat 0 (-1) 0).2 = y := by rw [he]; rfl
        exact ik_Wret rfl rfl ⟨_, _, rfl, rfl, rfl, rfl, ⟨w1, g1, d1, x1, y1, s1, s2, (congrArg (fun z => [fI z]) (by rw [e1, e2]; unfold an_mo; (repeat' split) <;> first | rfl | omega)), u66, u77, n77, u78, n78, u79, n79, u80, n80, u81, n81, u82, n82, F⟩⟩
    · refine ik_Wk 2 (pc_q := 61) (loc_q := [some (.ref 66), some (fI 0), some (fI what), some (fI nw), some (fI b), some (fI y), some (fI p), x7, x8]) (st_q := [.ref 66, .ref 66]) (h_q := u) (cl_q := 0) (sl_q := 0) rfl ?_
      refine fw_gf rfl rfl u66 rfl ?_
      refine ik_Wk 2 (pc_q := 67) (loc_q := [some (.ref 66), some (fI 0), some (fI what), some (fI nw), some (fI b), some (fI y), some (fI p), x7, x8]) (st_q := [fI p, fI 1, fI ((s : Nat) : Int), .ref 66]) (h_q := u) (cl_q := 0) (sl_q := 0) rfl ?_
      refine fx_shl rfl (by omega) (by omega) ?_
      refine fx_xor (m := s) (n := 1 <<< p.toNat) rfl ?_
      refine fx_pf rfl rfl u66 (Nat.le_of_ble_eq_true rfl) rfl rfl ?_
      intro h_269 e_269 f_269 l_269
      have k_269 : cL h_269 := l_269.trans ul
      have fr_269 := hfr_wb F f_269 l_269 rfl
      clear l_269
      have g_269_67 := (f_269 67 (Nat.ne_of_beq_eq_false rfl)).trans u67
      have g_269_68 := (f_269 68 (Nat.ne_of_beq_eq_false rfl)).trans u68
      have g_269_69 := (f_269 69 (Nat.ne_of_beq_eq_false rfl)).trans u69
      have g_269_77 := (f_269 77 (Nat.ne_of_beq_eq_false rfl)).trans u77
      have g_269_78 := (f_269 78 (Nat.ne_of_beq_eq_false rfl)).trans u78
      have g_269_79 := (f_269 79 (Nat.ne_of_beq_eq_false rfl)).trans u79
      have g_269_80 := (f_269 80 (Nat.ne_of_beq_eq_false rfl)).trans u80
      have g_269_70 := (f_269 70 (Nat.ne_of_beq_eq_false rfl)).trans u70
      have g_269_81 := (f_269 81 (Nat.ne_of_beq_eq_false rfl)).trans u81
      have g_269_82 := (f_269 82 (Nat.ne_of_beq_eq_false rfl)).trans u82
      have g_269_66 : cE h_269 66 (.inr (10, (fI pl :: .ref 67 :: .ref 68 :: .ref 69 :: fI ((s ^^^ (1 <<< p.toNat) : Nat) : Int) :: .ref 70 :: .ref 71 :: fI (f 7) :: fI (f 8) :: .ref 72 :: fI (f 10) :: fI (f 11) :: fI (f 12) :: fJ (f 13) :: fI (f 14) :: fI (f 15) :: fI (f 16) :: fI (f 17) :: .ref 73 :: .ref 74 :: .ref 75 :: .ref 76 :: .ref 77 :: .ref 78 :: fI w1 :: .ref 79 :: .ref 80 :: .ref 81 :: .ref 82 :: .ref 83 :: .ref 84 :: .ref 85 :: fJ (f 32) :: fJ (f 33) :: .ref 86 :: .ref 87 :: fI (f 36) :: .ref 88 :: .ref 89 :: .ref 90 :: .ref 91 :: .ref 92 :: .ref 93 :: []))) := e_269
      refine ik_Wk 2 (pc_q := 74) (loc_q := [some (.ref 66), some (fI 0), some (fI what), some (fI nw), some (fI b), some (fI y), some (fI p), x7, x8]) (st_q := [fI 0, .ref 66]) (h_q := h_269) (cl_q := 0) (sl_q := 0) rfl ?_
      refine fw_call 169 2 0 [.ref 66, fI 0] [] rfl rfl rfl (Nat.le_of_ble_eq_true rfl) rfl rfl (fw_rec k_269 (fw_ftx rfl wv_n (wl_c rfl (wl_c rfl (wl_c rfl (wl_c rfl (wl_c rfl (wl_c rfl (wl_c rfl (wl_c w7 (wl_c w8 wl_n)))))))))) g_269_66 rfl (by decide +kernel)) (cr_laterOf (pl := pl) (f := fun j => ((0 :: 0 :: 0 :: 0 :: 0 :: 0 :: 0 :: f 7 :: f 8 :: 0 :: f 10 :: f 11 :: f 12 :: f 13 :: f 14 :: f 15 :: f 16 :: f 17 :: 0 :: 0 :: 0 :: 0 :: 0 :: 0 :: w1 :: 0 :: 0 :: 0 :: 0 :: 0 :: 0 :: 0 :: f 32 :: f 33 :: 0 :: 0 :: f 36 :: 0 :: 0 :: 0 :: 0 :: 0 :: 0 :: []) : List Int).getD j 0) (s := s ^^^ (1 <<< p.toNat)) (cn := cn) (go := go) (ch := ch) (gt := g1) (gd := d1) (xs := x1) (ys := y1) (ka := ka) (pa := pa) (fa := fa) (kb := kb) (pb := pb) (fb := fb) (r1 := s1) (r2 := s2) (wh := 0) (by omega) (mx_xor_lt q1 (by omega)) q2 q3 (mx_rw_ok q11 _) q5 q6 (q7 hpl) (q8 hpl) q9 q10 (by omega) g_269_66 g_269_67 n67 g_269_68 n68 g_269_69 n69 g_269_77 n77 g_269_78 n78 g_269_79 n79 g_269_80 n80 g_269_70 g_269_81 n81 g_269_82 n82 k_269) ?_
      rintro _ h_270 ⟨w'_270, gt'_270, gd'_270, xs'_270, ys'_270, r1'_270, r2'_270, rfl, e_270_66, e_270_77, m_270_77, e_270_78, m_270_78, e_270_79, m_270_79, e_270_80, m_270_80, e_270_81, m_270_81, e_270_82, m_270_82, F_270⟩
      have k_270 : cL h_270 := F_270.1.trans k_269
      have fr_270 := hfr_cb fr_269 F_270 rfl
      have g_270_67 := (hfr_g F_270 67 rfl).trans g_269_67
      have g_270_68 := (hfr_g F_270 68 rfl).trans g_269_68
      have g_270_69 := (hfr_g F_270 69 rfl).trans g_269_69
      have g_270_70 := (hfr_g F_270 70 rfl).trans g_269_70
      have g_270_66 : cE h_270 66 (.inr (10, (fI pl :: .ref 67 :: .ref 68 :: .ref 69 :: (fI (((s ^^^ (1 <<< p.toNat)) : Nat) : Int)) :: .ref 70 :: .ref 71 :: fI (f 7) :: fI (f 8) :: .ref 72 :: fI (f 10) :: fI (f 11) :: fI (f 12) :: fJ (f 13) :: fI (f 14) :: fI (f 15) :: fI (f 16) :: fI (f 17) :: .ref 73 :: .ref 74 :: .ref 75 :: .ref 76 :: .ref 77 :: .ref 78 :: fI w'_270 :: .ref 79 :: .ref 80 :: .ref 81 :: .ref 82 :: .ref 83 :: .ref 84 :: .ref 85 :: fJ (f 32) :: fJ (f 33) :: .ref 86 :: .ref 87 :: fI (f 36) :: .ref 88 :: .ref 89 :: .ref 90 :: .ref 91 :: .ref 92 :: .ref 93 :: []))) := e_270_66
      have g_270_77 : cE h_270 77 (.inl (.int, fA gt'_270)) := e_270_77
      have g_270_78 : cE h_270 78 (.inl (.int, fA gd'_270)) := e_270_78
      have g_270_79 : cE h_270 79 (.inl (.long, fL xs'_270)) := e_270_79
      have g_270_80 : cE h_270 80 (.inl (.long, fL ys'_270)) := e_270_80
      have g_270_81 : cE h_270 81 (.inl (.long, fL r1'_270)) := e_270_81
      have g_270_82 : cE h_270 82 (.inl (.long, fL r2'_270)) := e_270_82
      refine ik_Wk 0 (pc_q := 77) (loc_q := [some (.ref 66), some (fI 0), some (fI what), some (fI nw), some (fI b), some (fI y), some (fI p), x7, x8]) (st_q := [fI (mr_w (mf_cm (fun x => mx_w cn go ch (s ^^^ (1 <<< p.toNat)) x) (pl - 1) ka pa) fa (mf_cm (fun x => mx_w cn go ch (s ^^^ (1 <<< p.toNat)) x) (pl - 1) kb pb) fb 0)]) (h_q := h_270) (cl_q := 0) (sl_q := 0) rfl ?_
      have ka_270 := mr_ok_cm (W := (fun x => mx_w cn go ch (s ^^^ 1 <<< p.toNat) x)) (k := ka) (mx_rw_ok q11 _) (q7 hpl)
      have kb_270 := mr_ok_cm (W := (fun x => mx_w cn go ch (s ^^^ 1 <<< p.toNat) x)) (k := kb) (mx_rw_ok q11 _) (q8 hpl)
      have wb_270 := mr_w_b ka_270 kb_270 (show 0 ≤ fa by omega) (show 0 ≤ fb by omega) 0
      have ev : (mk_vm cn go ch s pl ka pa fa kb pb fb 0) p = mr_w (mf_cm (fun x => mx_w cn go ch (s ^^^ 1 <<< p.toNat) x) (pl - 1) ka pa) fa (mf_cm (fun x => mx_w cn go ch (s ^^^ 1 <<< p.toNat) x) (pl - 1) kb pb) fb 0 - nw := by rw [hnw]; rfl
      refine ik_Wk 1 (pc_q := 78) (loc_q := [some (.ref 66), some (fI 0), some (fI what), some (fI nw), some (fI b), some (fI y), some (fI p), x7, x8]) (st_q := [fI nw, fI (mr_w (mf_cm (fun x => mx_w cn go ch (s ^^^ (1 <<< p.toNat)) x) (pl - 1) ka pa) fa (mf_cm (fun x => mx_w cn go ch (s ^^^ (1 <<< p.toNat)) x) (pl - 1) kb pb) fb 0)]) (h_q := h_270) (cl_q := 0) (sl_q := 0) rfl ?_
      refine fw_sub rfl ?_
      refine ik_Wk 3 (pc_q := 83) (loc_q := [some (.ref 66), some (fI 0), some (fI what), some (fI nw), some (fI b), some (fI y), some (fI p), some (fI ((mr_w (mf_cm (fun x => mx_w cn go ch (s ^^^ (1 <<< p.toNat)) x) (pl - 1) ka pa) fa (mf_cm (fun x => mx_w cn go ch (s ^^^ (1 <<< p.toNat)) x) (pl - 1) kb pb) fb 0) - nw)), x8]) (st_q := [.ref 66, .ref 66]) (h_q := h_270) (cl_q := 0) (sl_q := 0) rfl ?_
      refine fw_gf rfl rfl g_270_66 rfl ?_
      refine ik_Wk 2 (pc_q := 89) (loc_q := [some (.ref 66), some (fI 0), some (fI what), some (fI nw), some (fI b), some (fI y), some (fI p), some (fI ((mr_w (mf_cm (fun x => mx_w cn go ch (s ^^^ (1 <<< p.toNat)) x) (pl - 1) ka pa) fa (mf_cm (fun x => mx_w cn go ch (s ^^^ (1 <<< p.toNat)) x) (pl - 1) kb pb) fb 0) - nw)), x8]) (st_q := [fI p, fI 1, fI (((s ^^^ (1 <<< p.toNat)) : Nat) : Int), .ref 66]) (h_q := h_270) (cl_q := 0) (sl_q := 0) rfl ?_
      refine fx_shl rfl (by omega) (by omega) ?_
      refine fx_xor (m := (s ^^^ (1 <<< p.toNat))) (n := 1 <<< p.toNat) rfl ?_
      refine fx_pf rfl rfl g_270_66 (Nat.le_of_ble_eq_true rfl) rfl rfl ?_
      intro h_271 e_271 f_271 l_271
      have k_271 : cL h_271 := l_271.trans k_270
      have fr_271 := hfr_wb fr_270 f_271 l_271 rfl
      clear l_271
      have g_271_67 := (f_271 67 (Nat.ne_of_beq_eq_false rfl)).trans g_270_67
      have g_271_68 := (f_271 68 (Nat.ne_of_beq_eq_false rfl)).trans g_270_68
      have g_271_69 := (f_271 69 (Nat.ne_of_beq_eq_false rfl)).trans g_270_69
      have g_271_77 := (f_271 77 (Nat.ne_of_beq_eq_false rfl)).trans g_270_77
      have g_271_78 := (f_271 78 (Nat.ne_of_beq_eq_false rfl)).trans g_270_78
      have g_271_79 := (f_271 79 (Nat.ne_of_beq_eq_false rfl)).trans g_270_79
      have g_271_80 := (f_271 80 (Nat.ne_of_beq_eq_false rfl)).trans g_270_80
      have g_271_70 := (f_271 70 (Nat.ne_of_beq_eq_false rfl)).trans g_270_70
      have g_271_81 := (f_271 81 (Nat.ne_of_beq_eq_false rfl)).trans g_270_81
      have g_271_82 := (f_271 82 (Nat.ne_of_beq_eq_false rfl)).trans g_270_82
      have g_271_66 : cE h_271 66 (.inr (10, (fI pl :: .ref 67 :: .ref 68 :: .ref 69 :: (fI (((s ^^^ (1 <<< p.toNat)) ^^^ (1 <<< p.toNat) : Nat) : Int)) :: .ref 70 :: .ref 71 :: fI (f 7) :: fI (f 8) :: .ref 72 :: fI (f 10) :: fI (f 11) :: fI (f 12) :: fJ (f 13) :: fI (f 14) :: fI (f 15) :: fI (f 16) :: fI (f 17) :: .ref 73 :: .ref 74 :: .ref 75 :: .ref 76 :: .ref 77 :: .ref 78 :: fI w'_270 :: .ref 79 :: .ref 80 :: .ref 81 :: .ref 82 :: .ref 83 :: .ref 84 :: .ref 85 :: fJ (f 32) :: fJ (f 33) :: .ref 86 :: .ref 87 :: fI (f 36) :: .ref 88 :: .ref 89 :: .ref 90 :: .ref 91 :: .ref 92 :: .ref 93 :: []))) := e_271
      refine ik_Wk 1 (pc_q := 96) (loc_q := [some (.ref 66), some (fI 0), some (fI what), some (fI nw), some (fI b), some (fI y), some (fI p), some (fI ((mr_w (mf_cm (fun x => mx_w cn go ch (s ^^^ (1 <<< p.toNat)) x) (pl - 1) ka pa) fa (mf_cm (fun x => mx_w cn go ch (s ^^^ (1 <<< p.toNat)) x) (pl - 1) kb pb) fb 0) - nw)), x8]) (st_q := [fI b]) (h_q := h_271) (cl_q := 0) (sl_q := 0) rfl ?_
      simp only [mx_xor2] at g_271_66
      refine fw_if_lt rfl rfl (by omega) (by omega) (fun hc3 => ?_) (fun hc3 => ?_)
      · refine ik_Wk 4 (pc_q := 124) (loc_q := [some (.ref 66), some (fI 0), some (fI what), some (fI nw), some (fI b), some (fI y), some (fI p), some (fI ((mr_w (mf_cm (fun x => mx_w cn go ch (s ^^^ (1 <<< p.toNat)) x) (pl - 1) ka pa) fa (mf_cm (fun x => mx_w cn go ch (s ^^^ (1 <<< p.toNat)) x) (pl - 1) kb pb) fb 0) - nw)), some (fI 1)]) (st_q := [fI 1]) (h_q := h_271) (cl_q := 0) (sl_q := 0) rfl ?_
        refine fw_if_eq rfl rfl (by decide +kernel) (by decide +kernel) (fun hc4 => absurd hc4 (by decide +kernel)) (fun hc4 => ?_)
        refine ik_Wk 4 (pc_q := 138) (loc_q := [some (.ref 66), some (fI 0), some (fI what), some (fI nw), some (fI p), some (fI y), some (fI p), some (fI ((mr_w (mf_cm (fun x => mx_w cn go ch (s ^^^ (1 <<< p.toNat)) x) (pl - 1) ka pa) fa (mf_cm (fun x => mx_w cn go ch (s ^^^ (1 <<< p.toNat)) x) (pl - 1) kb pb) fb 0) - nw)), some (fI 1)]) (st_q := [fI 1]) (h_q := h_271) (cl_q := 0) (sl_q := 0) rfl ?_
        refine fw_if_eq rfl rfl (by decide +kernel) (by decide +kernel) (fun hc5 => absurd hc5 (by decide +kernel)) (fun hc5 => ?_)
        refine ik_Wk 3 (pc_q := 150) (loc_q := [some (.ref 66), some (fI 0), some (fI what), some (fI nw), some (fI p), some (fI ((mr_w (mf_cm (fun x => mx_w cn go ch (s ^^^ (1 <<< p.toNat)) x) (pl - 1) ka pa) fa (mf_cm (fun x => mx_w cn go ch (s ^^^ (1 <<< p.toNat)) x) (pl - 1) kb pb) fb 0) - nw)), some (fI p), some (fI ((mr_w (mf_cm (fun x => mx_w cn go ch (s ^^^ (1 <<< p.toNat)) x) (pl - 1) ka pa) fa (mf_cm (fun x => mx_w cn go ch (s ^^^ (1 <<< p.toNat)) x) (pl - 1) kb pb) fb 0) - nw)), some (fI 1)]) (st_q := []) (h_q := h_271) (cl_q := 0) (sl_q := 0) rfl ?_
        refine fw_inc (a := p) (loc_q := [some (.ref 66), some (fI 0), some (fI what), some (fI nw), some (fI p), some (fI ((mr_w (mf_cm (fun x => mx_w cn go ch (s ^^^ (1 <<< p.toNat)) x) (pl - 1) ka pa) fa (mf_cm (fun x => mx_w cn go ch (s ^^^ (1 <<< p.toNat)) x) (pl - 1) kb pb) fb 0) - nw)), some (fI (p + 1)), some (fI ((mr_w (mf_cm (fun x => mx_w cn go ch (s ^^^ (1 <<< p.toNat)) x) (pl - 1) ka pa) fa (mf_cm (fun x => mx_w cn go ch (s ^^^ (1 <<< p.toNat)) x) (pl - 1) kb pb) fb 0) - nw)), some (fI 1)]) rfl rfl (Nat.le_of_ble_eq_true rfl) rfl ?_
        refine ik_Wk 1 (pc_q := 48) (loc_q := [some (.ref 66), some (fI 0), some (fI what), some (fI nw), some (fI p), some (fI ((mr_w (mf_cm (fun x => mx_w cn go ch (s ^^^ (1 <<< p.toNat)) x) (pl - 1) ka pa) fa (mf_cm (fun x => mx_w cn go ch (s ^^^ (1 <<< p.toNat)) x) (pl - 1) kb pb) fb 0) - nw)), some (fI (p + 1)), some (fI ((mr_w (mf_cm (fun x => mx_w cn go ch (s ^^^ (1 <<< p.toNat)) x) (pl - 1) ka pa) fa (mf_cm (fun x => mx_w cn go ch (s ^^^ (1 <<< p.toNat)) x) (pl - 1) kb pb) fb 0) - nw)), some (fI 1)]) (st_q := []) (h_q := h_271) (cl_q := 0) (sl_q := 0) rfl ?_
        exact ih  (p + 1) p ((mr_w (mf_cm (fun x => mx_w cn go ch (s ^^^ (1 <<< p.toNat)) x) (pl - 1) ka pa) fa (mf_cm (fun x => mx_w cn go ch (s ^^^ (1 <<< p.toNat)) x) (pl - 1) kb pb) fb 0) - nw) w'_270 gt'_270 gd'_270 xs'_270 ys'_270 r1'_270 r2'_270 (some (fI ((mr_w (mf_cm (fun x => mx_w cn go ch (s ^^^ (1 <<< p.toNat)) x) (pl - 1) ka pa) fa (mf_cm (fun x => mx_w cn go ch (s ^^^ (1 <<< p.toNat)) x) (pl - 1) kb pb) fb 0) - nw))) (some (fI 1)) h_271 g_271_66 g_271_67 n67 g_271_68 n68 g_271_69 n69 g_271_77 m_270_77 g_271_78 m_270_78 g_271_79 m_270_79 g_271_80 m_270_80 g_271_70 g_271_81 m_270_81 g_271_82 m_270_82 k_271 fr_271 (by omega) (by omega) (by omega) (by rw [he, show (pl - 1 - p).toNat = (pl - 1 - (p + 1)).toNat + 1 by omega]; show (if p = 0 ∨ mk_ab y < mk_ab ((mk_vm cn go ch s pl ka pa fa kb pb fb 0) p) then _ else _) = _; rw [ev, if_pos (by omega)]) rfl rfl (by omega)
      · refine ik_Wk 1 (pc_q := 101) (loc_q := [some (.ref 66), some (fI 0), some (fI what), some (fI nw), some (fI b), some (fI y), some (fI p), some (fI ((mr_w (mf_cm (fun x => mx_w cn go ch (s ^^^ (1 <<< p.toNat)) x) (pl - 1) ka pa) fa (mf_cm (fun x => mx_w cn go ch (s ^^^ (1 <<< p.toNat)) x) (pl - 1) kb pb) fb 0) - nw)), x8]) (st_q := [fI ((mr_w (mf_cm (fun x => mx_w cn go ch (s ^^^ (1 <<< p.toNat)) x) (pl - 1) ka pa) fa (mf_cm (fun x => mx_w cn go ch (s ^^^ (1 <<< p.toNat)) x) (pl - 1) kb pb) fb 0) - nw)]) (h_q := h_271) (cl_q := 0) (sl_q := 0) rfl ?_
        refine fw_i2l rfl (by omega) (by omega) ?_
        refine ik_Wc 163 1 3 [fJ ((mr_w (mf_cm (fun x => mx_w cn go ch (s ^^^ (1 <<< p.toNat)) x) (pl - 1) ka pa) fa (mf_cm (fun x => mx_w cn go ch (s ^^^ (1 <<< p.toNat)) x) (pl - 1) kb pb) fb 0) - nw)] [] rfl rfl rfl (by decide +kernel) rfl rfl (fw_sta k_271 (fw_ftx rfl wv_n (wl_c rfl (wl_c rfl (wl_c rfl (wl_c rfl (wl_c rfl (wl_c rfl (wl_c rfl (wl_c rfl (wl_c w8 wl_n)))))))))) (by decide +kernel)) ?_
        refine ik_Wk 0 (pc_q := 0) (loc_q := [some (fJ ((mr_w (mf_cm (fun x => mx_w cn go ch (s ^^^ (1 <<< p.toNat)) x) (pl - 1) ka pa) fa (mf_cm (fun x => mx_w cn go ch (s ^^^ (1 <<< p.toNat)) x) (pl - 1) kb pb) fb 0) - nw)), none]) (st_q := []) (h_q := h_271) (cl_q := 0) (sl_q := 0) rfl ?_
        refine ik_Wk 1 (pc_q := 1) (loc_q := [some (fJ ((mr_w (mf_cm (fun x => mx_w cn go ch (s ^^^ (1 <<< p.toNat)) x) (pl - 1) ka pa) fa (mf_cm (fun x => mx_w cn go ch (s ^^^ (1 <<< p.toNat)) x) (pl - 1) kb pb) fb 0) - nw)), none]) (st_q := [fJ ((mr_w (mf_cm (fun x => mx_w cn go ch (s ^^^ (1 <<< p.toNat)) x) (pl - 1) ka pa) fa (mf_cm (fun x => mx_w cn go ch (s ^^^ (1 <<< p.toNat)) x) (pl - 1) kb pb) fb 0) - nw)]) (h_q := h_271) (cl_q := 0) (sl_q := 0) rfl ?_
        refine fw_lc (z := 0) rfl (by decide +kernel) ?_
        refine fw_lcmp_ge rfl rfl rfl (by omega) (by omega) (by omega) (by omega) (fun hc6 => ?_) (fun hc6 => ?_)
        · refine ik_Wk 1 (pc_q := 12) (loc_q := [some (fJ ((mr_w (mf_cm (fun x => mx_w cn go ch (s ^^^ (1 <<< p.toNat)) x) (pl - 1) ka pa) fa (mf_cm (fun x => mx_w cn go ch (s ^^^ (1 <<< p.toNat)) x) (pl - 1) kb pb) fb 0) - nw)), none]) (st_q := [fJ ((mr_w (mf_cm (fun x => mx_w cn go ch (s ^^^ (1 <<< p.toNat)) x) (pl - 1) ka pa) fa (mf_cm (fun x => mx_w cn go ch (s ^^^ (1 <<< p.toNat)) x) (pl - 1) kb pb) fb 0) - nw)]) (h_q := h_271) (cl_q := 0) (sl_q := 0) rfl ?_
          refine ik_Wret rfl rfl ⟨_, _, rfl, rfl, ?_⟩
          refine ik_Wk 0 (pc_q := 105) (loc_q := [some (.ref 66), some (fI 0), some (fI what), some (fI nw), some (fI b), some (fI y), some (fI p), some (fI ((mr_w (mf_cm (fun x => mx_w cn go ch (s ^^^ (1 <<< p.toNat)) x) (pl - 1) ka pa) fa (mf_cm (fun x => mx_w cn go ch (s ^^^ (1 <<< p.toNat)) x) (pl - 1) kb pb) fb 0) - nw)), x8]) (st_q := [fJ ((mr_w (mf_cm (fun x => mx_w cn go ch (s ^^^ (1 <<< p.toNat)) x) (pl - 1) ka pa) fa (mf_cm (fun x => mx_w cn go ch (s ^^^ (1 <<< p.toNat)) x) (pl - 1) kb pb) fb 0) - nw)]) (h_q := h_271) (cl_q := 0) (sl_q := 0) rfl ?_
          refine ik_Wk 1 (pc_q := 107) (loc_q := [some (.ref 66), some (fI 0), some (fI what), some (fI nw), some (fI b), some (fI y), some (fI p), some (fI ((mr_w (mf_cm (fun x => mx_w cn go ch (s ^^^ (1 <<< p.toNat)) x) (pl - 1) ka pa) fa (mf_cm (fun x => mx_w cn go ch (s ^^^ (1 <<< p.toNat)) x) (pl - 1) kb pb) fb 0) - nw)), x8]) (st_q := [fI y, fJ ((mr_w (mf_cm (fun x => mx_w cn go ch (s ^^^ (1 <<< p.toNat)) x) (pl - 1) ka pa) fa (mf_cm (fun x => mx_w cn go ch (s ^^^ (1 <<< p.toNat)) x) (pl - 1) kb pb) fb 0) - nw)]) (h_q := h_271) (cl_q := 0) (sl_q := 0) rfl ?_
          refine fw_i2l rfl (by omega) (by omega) ?_
          refine ik_Wc 163 1 3 [fJ y] [fJ ((mr_w (mf_cm (fun x => mx_w cn go ch (s ^^^ (1 <<< p.toNat)) x) (pl - 1) ka pa) fa (mf_cm (fun x => mx_w cn go ch (s ^^^ (1 <<< p.toNat)) x) (pl - 1) kb pb) fb 0) - nw)] rfl rfl rfl (by decide +kernel) rfl rfl (fw_sta k_271 (fw_ftx rfl (wv_c rfl wv_n) (wl_c rfl (wl_c rfl (wl_c rfl (wl_c rfl (wl_c rfl (wl_c rfl (wl_c rfl (wl_c rfl (wl_c w8 wl_n)))))))))) (by decide +kernel)) ?_
          refine ik_Wk 0 (pc_q := 0) (loc_q := [some (fJ y), none]) (st_q := []) (h_q := h_271) (cl_q := 0) (sl_q := 0) rfl ?_
          refine ik_Wk 1 (pc_q := 1) (loc_q := [some (fJ y), none]) (st_q := [fJ y]) (h_q := h_271) (cl_q := 0) (sl_q := 0) rfl ?_
          refine fw_lc (z := 0) rfl (by decide +kernel) ?_
          refine fw_lcmp_ge rfl rfl rfl (by omega) (by omega) (by omega) (by omega) (fun hc7 => ?_) (fun hc7 => ?_)
          · refine ik_Wk 1 (pc_q := 12) (loc_q := [some (fJ y), none]) (st_q := [fJ y]) (h_q := h_271) (cl_q := 0) (sl_q := 0) rfl ?_
            refine ik_Wret rfl rfl ⟨_, _, rfl, rfl, ?_⟩
            refine ik_Wk 0 (pc_q := 111) (loc_q := [some (.ref 66), some (fI 0), some (fI what), some (fI nw), some (fI b), some (fI y), some (fI p), some (fI ((mr_w (mf_cm (fun x => mx_w cn go ch (s ^^^ (1 <<< p.toNat)) x) (pl - 1) ka pa) fa (mf_cm (fun x => mx_w cn go ch (s ^^^ (1 <<< p.toNat)) x) (pl - 1) kb pb) fb 0) - nw)), x8]) (st_q := [fJ y, fJ ((mr_w (mf_cm (fun x => mx_w cn go ch (s ^^^ (1 <<< p.toNat)) x) (pl - 1) ka pa) fa (mf_cm (fun x => mx_w cn go ch (s ^^^ (1 <<< p.toNat)) x) (pl - 1) kb pb) fb 0) - nw)]) (h_q := h_271) (cl_q := 0) (sl_q := 0) rfl ?_
            have ab0 : mk_ab y = y := by unfold mk_ab; split <;> omega
            have ab1 : mk_ab (mr_w (mf_cm (fun x => mx_w cn go ch (s ^^^ 1 <<< p.toNat) x) (pl - 1) ka pa) fa (mf_cm (fun x => mx_w cn go ch (s ^^^ 1 <<< p.toNat) x) (pl - 1) kb pb) fb 0 - nw) = (mr_w (mf_cm (fun x => mx_w cn go ch (s ^^^ (1 <<< p.toNat)) x) (pl - 1) ka pa) fa (mf_cm (fun x => mx_w cn go ch (s ^^^ (1 <<< p.toNat)) x) (pl - 1) kb pb) fb 0) - nw := by unfold mk_ab; split <;> omega
            refine fw_lcmp_le rfl rfl rfl (by omega) (by omega) (by omega) (by omega) (fun hc8 => ?_) (fun hc8 => ?_)
            · refine ik_Wk 3 (pc_q := 124) (loc_q := [some (.ref 66), some (fI 0), some (fI what), some (fI nw), some (fI b), some (fI y), some (fI p), some (fI ((mr_w (mf_cm (fun x => mx_w cn go ch (s ^^^ (1 <<< p.toNat)) x) (pl - 1) ka pa) fa (mf_cm (fun x => mx_w cn go ch (s ^^^ (1 <<< p.toNat)) x) (pl - 1) kb pb) fb 0) - nw)), some (fI 0)]) (st_q := [fI 0]) (h_q := h_271) (cl_q := 0) (sl_q := 0) rfl ?_
              refine fw_if_eq rfl rfl (by decide +kernel) (by decide +kernel) (fun hc9 => ?_) (fun hc9 => absurd hc9 (by decide +kernel))
              refine ik_Wk 3 (pc_q := 138) (loc_q := [some (.ref 66), some (fI 0), some (fI what), some (fI nw), some (fI b), some (fI y), some (fI p), some (fI ((mr_w (mf_cm (fun x => mx_w cn go ch (s ^^^ (1 <<< p.toNat)) x) (pl - 1) ka pa) fa (mf_cm (fun x => mx_w cn go ch (s ^^^ (1 <<< p.toNat)) x) (pl - 1) kb pb) fb 0) - nw)), some (fI 0)]) (st_q := [fI 0]) (h_q := h_271) (cl_q := 0) (sl_q := 0) rfl ?_
              refine fw_if_eq rfl rfl (by decide +kernel) (by decide +kernel) (fun hc10 => ?_) (fun hc10 => absurd hc10 (by decide +kernel))
              refine ik_Wk 2 (pc_q := 150) (loc_q := [some (.ref 66), some (fI 0), some (fI what), some (fI nw), some (fI b), some (fI y), some (fI p), some (fI ((mr_w (mf_cm (fun x => mx_w cn go ch (s ^^^ (1 <<< p.toNat)) x) (pl - 1) ka pa) fa (mf_cm (fun x => mx_w cn go ch (s ^^^ (1 <<< p.toNat)) x) (pl - 1) kb pb) fb 0) - nw)), some (fI 0)]) (st_q := []) (h_q := h_271) (cl_q := 0) (sl_q := 0) rfl ?_
              refine fw_inc (a := p) (loc_q := [some (.ref 66), some (fI 0), some (fI what), some (fI nw), some (fI b), some (fI y), some (fI (p + 1)), some (fI ((mr_w (mf_cm (fun x => mx_w cn go ch (s ^^^ (1 <<< p.toNat)) x) (pl - 1) ka pa) fa (mf_cm (fun x => mx_w cn go ch (s ^^^ (1 <<< p.toNat)) x) (pl - 1) kb pb) fb 0) - nw)), some (fI 0)]) rfl rfl (Nat.le_of_ble_eq_true rfl) rfl ?_
              refine ik_Wk 1 (pc_q := 48) (loc_q := [some (.ref 66), some (fI 0), some (fI what), some (fI nw), some (fI b), some (fI y), some (fI (p + 1)), some (fI ((mr_w (mf_cm (fun x => mx_w cn go ch (s ^^^ (1 <<< p.toNat)) x) (pl - 1) ka pa) fa (mf_cm (fun x => mx_w cn go ch (s ^^^ (1 <<< p.toNat)) x) (pl - 1) kb pb) fb 0) - nw)), some (fI 0)]) (st_q := []) (h_q := h_271) (cl_q := 0) (sl_q := 0) rfl ?_
              exact ih  (p + 1) b y w'_270 gt'_270 gd'_270 xs'_270 ys'_270 r1'_270 r2'_270 (some (fI ((mr_w (mf_cm (fun x => mx_w cn go ch (s ^^^ (1 <<< p.toNat)) x) (pl - 1) ka pa) fa (mf_cm (fun x => mx_w cn go ch (s ^^^ (1 <<< p.toNat)) x) (pl - 1) kb pb) fb 0) - nw))) (some (fI 0)) h_271 g_271_66 g_271_67 n67 g_271_68 n68 g_271_69 n69 g_271_77 m_270_77 g_271_78 m_270_78 g_271_79 m_270_79 g_271_80 m_270_80 g_271_70 g_271_81 m_270_81 g_271_82 m_270_82 k_271 fr_271 (by omega) (by omega) (by omega) (by rw [he, show (pl - 1 - p).toNat = (pl - 1 - (p + 1)).toNat + 1 by omega]; show (if p = 0 ∨ mk_ab y < mk_ab ((mk_vm cn go ch s pl ka pa fa kb pb fb 0) p) then _ else _) = _; rw [ev, if_neg (by rw [ab0, ab1]; omega)]) rfl rfl (by omega)
            · refine ik_Wk 4 (pc_q := 124) (loc_q := [some (.ref 66), some (fI 0), some (fI what), some (fI nw), some (fI b), some (fI y), some (fI p), some (fI ((mr_w (mf_cm (fun x => mx_w cn go ch (s ^^^ (1 <<< p.toNat)) x) (pl - 1) ka pa) fa (mf_cm (fun x => mx_w cn go ch (s ^^^ (1 <<< p.toNat)) x) (pl - 1) kb pb) fb 0) - nw)), some (fI 1)]) (st_q := [fI 1]) (h_q := h_271) (cl_q := 0) (sl_q := 0) rfl ?_
              refine fw_if_eq rfl rfl (by decide +kernel) (by decide +kernel) (fun hc11 => absurd hc11 (by decide +kernel)) (fun hc11 => ?_)
              refine ik_Wk 4 (pc_q := 138) (loc_q := [some (.ref 66), some (fI 0), some (fI what), some (fI nw), some (fI p), some (fI y), some (fI p), some (fI ((mr_w (mf_cm (fun x => mx_w cn go ch (s ^^^ (1 <<< p.toNat)) x) (pl - 1) ka pa) fa (mf_cm (fun x => mx_w cn go ch (s ^^^ (1 <<< p.toNat)) x) (pl - 1) kb pb) fb 0) - nw)), some (fI 1)]) (st_q := [fI 1]) (h_q := h_271) (cl_q := 0) (sl_q := 0) rfl ?_
              refine fw_if_eq rfl rfl (by decide +kernel) (by decide +kernel) (fun hc12 => absurd hc12 (by decide +kernel)) (fun hc12 => ?_)
              refine ik_Wk 3 (pc_q := 150) (loc_q := [some (.ref 66), some (fI 0), some (fI what), some (fI nw), some (fI p), some (fI ((mr_w (mf_cm (fun x => mx_w cn go ch (s ^^^ (1 <<< p.toNat)) x) (pl - 1) ka pa) fa (mf_cm (fun x => mx_w cn go ch (s ^^^ (1 <<< p.toNat)) x) (pl - 1) kb pb) fb 0) - nw)), some (fI p), some (fI ((mr_w (mf_cm (fun x => mx_w cn go ch (s ^^^ (1 <<< p.toNat)) x) (pl - 1) ka pa) fa (mf_cm (fun x => mx_w cn go ch (s ^^^ (1 <<< p.toNat)) x) (pl - 1) kb pb) fb 0) - nw)), some (fI 1)]) (st_q := []) (h_q := h_271) (cl_q := 0) (sl_q := 0) rfl ?_
              refine fw_inc (a := p) (loc_q := [some (.ref 66), some (fI 0), some (fI what), some (fI nw), some (fI p), some (fI ((mr_w (mf_cm (fun x => mx_w cn go ch (s ^^^ (1 <<< p.toNat)) x) (pl - 1) ka pa) fa (mf_cm (fun x => mx_w cn go ch (s ^^^ (1 <<< p.toNat)) x) (pl - 1) kb pb) fb 0) - nw)), some (fI (p + 1)), some (fI ((mr_w (mf_cm (fun x => mx_w cn go ch (s ^^^ (1 <<< p.toNat)) x) (pl - 1) ka pa) fa (mf_cm (fun x => mx_w cn go ch (s ^^^ (1 <<< p.toNat)) x) (pl - 1) kb pb) fb 0) - nw)), some (fI 1)]) rfl rfl (Nat.le_of_ble_eq_true rfl) rfl ?_
              refine ik_Wk 1 (pc_q := 48) (loc_q := [some (.ref 66), some (fI 0), some (fI what), some (fI nw), some (fI p), some (fI ((mr_w (mf_cm (fun x => mx_w cn go ch (s ^^^ (1 <<< p.toNat)) x) (pl - 1) ka pa) fa (mf_cm (fun x => mx_w cn go ch (s ^^^ (1 <<< p.toNat)) x) (pl - 1) kb pb) fb 0) - nw)), some (fI (p + 1)), some (fI ((mr_w (mf_cm (fun x => mx_w cn go ch (s ^^^ (1 <<< p.toNat)) x) (pl - 1) ka pa) fa (mf_cm (fun x => mx_w cn go ch (s ^^^ (1 <<< p.toNat)) x) (pl - 1) kb pb) fb 0) - nw)), some (fI 1)]) (st_q := []) (h_q := h_271) (cl_q := 0) (sl_q := 0) rfl ?_
              exact ih  (p + 1) p ((mr_w (mf_cm (fun x => mx_w cn go ch (s ^^^ (1 <<< p.toNat)) x) (pl - 1) ka pa) fa (mf_cm (fun x => mx_w cn go ch (s ^^^ (1 <<< p.toNat)) x) (pl - 1) kb pb) fb 0) - nw) w'_270 gt'_270 gd'_270 xs'_270 ys'_270 r1'_270 r2'_270 (some (fI ((mr_w (mf_cm (fun x => mx_w cn go ch (s ^^^ (1 <<< p.toNat)) x) (pl - 1) ka pa) fa (mf_cm (fun x => mx_w cn go ch (s ^^^ (1 <<< p.toNat)) x) (pl - 1) kb pb) fb 0) - nw))) (some (fI 1)) h_271 g_271_66 g_271_67 n67 g_271_68 n68 g_271_69 n69 g_271_77 m_270_77 g_271_78 m_270_78 g_271_79 m_270_79 g_271_80 m_270_80 g_271_70 g_271_81 m_270_81 g_271_82 m_270_82 k_271 fr_271 (by omega) (by omega) (by omega) (by rw [he, show (pl - 1 - p).toNat = (pl - 1 - (p + 1)).toNat + 1 by omega]; show (if p = 0 ∨ mk_ab y < mk_ab ((mk_vm cn go ch s pl ka pa fa kb pb fb 0) p) then _ else _) = _; rw [ev, if_pos (by rw [ab0, ab1]; omega)]) rfl rfl (by omega)
          · refine ik_Wk 1 (pc_q := 7) (loc_q := [some (fJ y), none]) (st_q := [fJ y]) (h_q := h_271) (cl_q := 0) (sl_q := 0) rfl ?_
            refine fx_lneg rfl ?_
            refine ik_Wk 1 (pc_q := 12) (loc_q := [some (fJ y), none]) (st_q := [fJ (-y)]) (h_q := h_271) (cl_q := 0) (sl_q := 0) rfl ?_
            refine ik_Wret rfl rfl ⟨_, _, rfl, rfl, ?_⟩
            refine ik_Wk 0 (pc_q := 111) (loc_q := [some (.ref 66), some (fI 0), some (fI what), some (fI nw), some (fI b), some (fI y), some (fI p), some (fI ((mr_w (mf_cm (fun x => mx_w cn go ch (s ^^^ (1 <<< p.toNat)) x) (pl - 1) ka pa) fa (mf_cm (fun x => mx_w cn go ch (s ^^^ (1 <<< p.toNat)) x) (pl - 1) kb pb) fb 0) - nw)), x8]) (st_q := [fJ (-y), fJ ((mr_w (mf_cm (fun x => mx_w cn go ch (s ^^^ (1 <<< p.toNat)) x) (pl - 1) ka pa) fa (mf_cm (fun x => mx_w cn go ch (s ^^^ (1 <<< p.toNat)) x) (pl - 1) kb pb) fb 0) - nw)]) (h_q := h_271) (cl_q := 0) (sl_q := 0) rfl ?_
            have ab0 : mk_ab y = -y := by unfold mk_ab; split <;> omega
            have ab1 : mk_ab (mr_w (mf_cm (fun x => mx_w cn go ch (s ^^^ 1 <<< p.toNat) x) (pl - 1) ka pa) fa (mf_cm (fun x => mx_w cn go ch (s ^^^ 1 <<< p.toNat) x) (pl - 1) kb pb) fb 0 - nw) = (mr_w (mf_cm (fun x => mx_w cn go ch (s ^^^ (1 <<< p.toNat)) x) (pl - 1) ka pa) fa (mf_cm (fun x => mx_w cn go ch (s ^^^ (1 <<< p.toNat)) x) (pl - 1) kb pb) fb 0) - nw := by unfold mk_ab; split <;> omega
            refine fw_lcmp_le rfl rfl rfl (by omega) (by omega) (by omega) (by omega) (fun hc13 => ?_) (fun hc13 => ?_)
            · refine ik_Wk 3 (pc_q := 124) (loc_q := [some (.ref 66), some (fI 0), some (fI what), some (fI nw), some (fI b), some (fI y), some (fI p), some (fI ((mr_w (mf_cm (fun x => mx_w cn go ch (s ^^^ (1 <<< p.toNat)) x) (pl - 1) ka pa) fa (mf_cm (fun x => mx_w cn go ch (s ^^^ (1 <<< p.toNat)) x) (pl - 1) kb pb) fb 0) - nw)), some (fI 0)]) (st_q := [fI 0]) (h_q := h_271) (cl_q := 0) (sl_q := 0) rfl ?_
              refine fw_if_eq rfl rfl (by decide +kernel) (by decide +kernel) (fun hc14 => ?_) (fun hc14 => absurd hc14 (by decide +kernel))
              refine ik_Wk 3 (pc_q := 138) (loc_q := [some (.ref 66), some (fI 0), some (fI what), some (fI nw), some (fI b), some (fI y), some (fI p), some (fI ((mr_w (mf_cm (fun x => mx_w cn go ch (s ^^^ (1 <<< p.toNat)) x) (pl - 1) ka pa) fa (mf_cm (fun x => mx_w cn go ch (s ^^^ (1 <<< p.toNat)) x) (pl - 1) kb pb) fb 0) - nw)), some (fI 0)]) (st_q := [fI 0]) (h_q := h_271) (cl_q := 0) (sl_q := 0) rfl ?_
              refine fw_if_eq rfl rfl (by decide +kernel) (by decide +kernel) (fun hc15 => ?_) (fun hc15 => absurd hc15 (by decide +kernel))
              refine ik_Wk 2 (pc_q := 150) (loc_q := [some (.ref 66), some (fI 0), some (fI what), some (fI nw), some (fI b), some (fI y), some (fI p), some (fI ((mr_w (mf_cm (fun x => mx_w cn go ch (s ^^^ (1 <<< p.toNat)) x) (pl - 1) ka pa) fa (mf_cm (fun x => mx_w cn go ch (s ^^^ (1 <<< p.toNat)) x) (pl - 1) kb pb) fb 0) - nw)), some (fI 0)]) (st_q := []) (h_q := h_271) (cl_q := 0) (sl_q := 0) rfl ?_
              refine fw_inc (a := p) (loc_q := [some (.ref 66), some (fI 0), some (fI what), some (fI nw), some (fI b), some (fI y), some (fI (p + 1)), some (fI ((mr_w (mf_cm (fun x => mx_w cn go ch (s ^^^ (1 <<< p.toNat)) x) (pl - 1) ka pa) fa (mf_cm (fun x => mx_w cn go ch (s ^^^ (1 <<< p.toNat)) x) (pl - 1) kb pb) fb 0) - nw)), some (fI 0)]) rfl rfl (Nat.le_of_ble_eq_true rfl) rfl ?_
              refine ik_Wk 1 (pc_q := 48) (loc_q := [some (.ref 66), some (fI 0), some (fI what), some (fI nw), some (fI b), some (fI y), some (fI (p + 1)), some (fI ((mr_w (mf_cm (fun x => mx_w cn go ch (s ^^^ (1 <<< p.toNat)) x) (pl - 1) ka pa) fa (mf_cm (fun x => mx_w cn go ch (s ^^^ (1 <<< p.toNat)) x) (pl - 1) kb pb) fb 0) - nw)), some (fI 0)]) (st_q := []) (h_q := h_271) (cl_q := 0) (sl_q := 0) rfl ?_
              exact ih  (p + 1) b y w'_270 gt'_270 gd'_270 xs'_270 ys'_270 r1'_270 r2'_270 (some (fI ((mr_w (mf_cm (fun x => mx_w cn go ch (s ^^^ (1 <<< p.toNat)) x) (pl - 1) ka pa) fa (mf_cm (fun x => mx_w cn go ch (s ^^^ (1 <<< p.toNat)) x) (pl - 1) kb pb) fb 0) - nw))) (some (fI 0)) h_271 g_271_66 g_271_67 n67 g_271_68 n68 g_271_69 n69 g_271_77 m_270_77 g_271_78 m_270_78 g_271_79 m_270_79 g_271_80 m_270_80 g_271_70 g_271_81 m_270_81 g_271_82 m_270_82 k_271 fr_271 (by omega) (by omega) (by omega) (by rw [he, show (pl - 1 - p).toNat = (pl - 1 - (p + 1)).toNat + 1 by omega]; show (if p = 0 ∨ mk_ab y < mk_ab ((mk_vm cn go ch s pl ka pa fa kb pb fb 0) p) then _ else _) = _; rw [ev, if_neg (by rw [ab0, ab1]; omega)]) rfl rfl (by omega)
            · refine ik_Wk 4 (pc_q := 124) (loc_q := [some (.ref 66), some (fI 0), some (fI what), some (fI nw), some (fI b), some (fI y), some (fI p), some (fI ((mr_w (mf_cm (fun x => mx_w cn go ch (s ^^^ (1 <<< p.toNat)) x) (pl - 1) ka pa) fa (mf_cm (fun x => mx_w cn go ch (s ^^^ (1 <<< p.toNat)) x) (pl - 1) kb pb) fb 0) - nw)), some (fI 1)]) (st_q := [fI 1]) (h_q := h_271) (cl_q := 0) (sl_q := 0) rfl ?_
              refine fw_if_eq rfl rfl (by decide +kernel) (by decide +kernel) (fun hc16 => absurd hc16 (by decide +kernel)) (fun hc16 => ?_)
              refine ik_Wk 4 (pc_q := 138) (loc_q := [some (.ref 66), some (fI 0), some (fI what), some (fI nw), some (fI p), some (fI y), some (fI p), some (fI ((mr_w (mf_cm (fun x => mx_w cn go ch (s ^^^ (1 <<< p.toNat)) x) (pl - 1) ka pa) fa (mf_cm (fun x => mx_w cn go ch (s ^^^ (1 <<< p.toNat)) x) (pl - 1) kb pb) fb 0) - nw)), some (fI 1)]) (st_q := [fI 1]) (h_q := h_271) (cl_q := 0) (sl_q := 0) rfl ?_
              refine fw_if_eq rfl rfl (by decide +kernel) (by decide +kernel) (fun hc17 => absurd hc17 (by decide +kernel)) (fun hc17 => ?_)
              refine ik_Wk 3 (pc_q := 150) (loc_q := [some (.ref 66), some (fI 0), some (fI what), some (fI nw), some (fI p), some (fI ((mr_w (mf_cm (fun x => mx_w cn go ch (s ^^^ (1 <<< p.toNat)) x) (pl - 1) ka pa) fa (mf_cm (fun x => mx_w cn go ch (s ^^^ (1 <<< p.toNat)) x) (pl - 1) kb pb) fb 0) - nw)), some (fI p), some (fI ((mr_w (mf_cm (fun x => mx_w cn go ch (s ^^^ (1 <<< p.toNat)) x) (pl - 1) ka pa) fa (mf_cm (fun x => mx_w cn go ch (s ^^^ (1 <<< p.toNat)) x) (pl - 1) kb pb) fb 0) - nw)), some (fI 1)]) (st_q := []) (h_q := h_271) (cl_q := 0) (sl_q := 0) rfl ?_
              refine fw_inc (a := p) (loc_q := [some (.ref 66), some (fI 0), some (fI what), some (fI nw), some (fI p), some (fI ((mr_w (mf_cm (fun x => mx_w cn go ch (s ^^^ (1 <<< p.toNat)) x) (pl - 1) ka pa) fa (mf_cm (fun x => mx_w cn go ch (s ^^^ (1 <<< p.toNat)) x) (pl - 1) kb pb) fb 0) - nw)), some (fI (p + 1)), some (fI ((mr_w (mf_cm (fun x => mx_w cn go ch (s ^^^ (1 <<< p.toNat)) x) (pl - 1) ka pa) fa (mf_cm (fun x => mx_w cn go ch (s ^^^ (1 <<< p.toNat)) x) (pl - 1) kb pb) fb 0) - nw)), some (fI 1)]) rfl rfl (Nat.le_of_ble_eq_true rfl) rfl ?_
              refine ik_Wk 1 (pc_q := 48) (loc_q := [some (.ref 66), some (fI 0), some (fI what), some (fI nw), some (fI p), some (fI ((mr_w (mf_cm (fun x => mx_w cn go ch (s ^^^ (1 <<< p.toNat)) x) (pl - 1) ka pa) fa (mf_cm (fun x => mx_w cn go ch (s ^^^ (1 <<< p.toNat)) x) (pl - 1) kb pb) fb 0) - nw)), some (fI (p + 1)), some (fI ((mr_w (mf_cm (fun x => mx_w cn go ch (s ^^^ (1 <<< p.toNat)) x) (pl - 1) ka pa) fa (mf_cm (fun x => mx_w cn go ch (s ^^^ (1 <<< p.toNat)) x) (pl - 1) kb pb) fb 0) - nw)), some (fI 1)]) (st_q := []) (h_q := h_271) (cl_q := 0) (sl_q := 0) rfl ?_
              exact ih  (p + 1) p ((mr_w (mf_cm (fun x => mx_w cn go ch (s ^^^ (1 <<< p.toNat)) x) (pl - 1) ka pa) fa (mf_cm (fun x => mx_w cn go ch (s ^^^ (1 <<< p.toNat)) x) (pl - 1) kb pb) fb 0) - nw) w'_270 gt'_270 gd'_270 xs'_270 ys'_270 r1'_270 r2'_270 (some (fI ((mr_w (mf_cm (fun x => mx_w cn go ch (s ^^^ (1 <<< p.toNat)) x) (pl - 1) ka pa) fa (mf_cm (fun x => mx_w cn go ch (s ^^^ (1 <<< p.toNat)) x) (pl - 1) kb pb) fb 0) - nw))) (some (fI 1)) h_271 g_271_66 g_271_67 n67 g_271_68 n68 g_271_69 n69 g_271_77 m_270_77 g_271_78 m_270_78 g_271_79 m_270_79 g_271_80 m_270_80 g_271_70 g_271_81 m_270_81 g_271_82 m_270_82 k_271 fr_271 (by omega) (by omega) (by omega) (by rw [he, show (pl - 1 - p).toNat = (pl - 1 - (p + 1)).toNat + 1 by omega]; show (if p = 0 ∨ mk_ab y < mk_ab ((mk_vm cn go ch s pl ka pa fa kb pb fb 0) p) then _ else _) = _; rw [ev, if_pos (by rw [ab0, ab1]; omega)]) rfl rfl (by omega)
        · refine ik_Wk 1 (pc_q := 7) (loc_q := [some (fJ ((mr_w (mf_cm (fun x => mx_w cn go ch (s ^^^ (1 <<< p.toNat)) x) (pl - 1) ka pa) fa (mf_cm (fun x => mx_w cn go ch (s ^^^ (1 <<< p.toNat)) x) (pl - 1) kb pb) fb 0) - nw)), none]) (st_q := [fJ ((mr_w (mf_cm (fun x => mx_w cn go ch (s ^^^ (1 <<< p.toNat)) x) (pl - 1) ka pa) fa (mf_cm (fun x => mx_w cn go ch (s ^^^ (1 <<< p.toNat)) x) (pl - 1) kb pb) fb 0) - nw)]) (h_q := h_271) (cl_q := 0) (sl_q := 0) rfl ?_
          refine fx_lneg rfl ?_
          refine ik_Wk 1 (pc_q := 12) (loc_q := [some (fJ ((mr_w (mf_cm (fun x => mx_w cn go ch (s ^^^ (1 <<< p.toNat)) x) (pl - 1) ka pa) fa (mf_cm (fun x => mx_w cn go ch (s ^^^ (1 <<< p.toNat)) x) (pl - 1) kb pb) fb 0) - nw)), none]) (st_q := [fJ (-((mr_w (mf_cm (fun x => mx_w cn go ch (s ^^^ (1 <<< p.toNat)) x) (pl - 1) ka pa) fa (mf_cm (fun x => mx_w cn go ch (s ^^^ (1 <<< p.toNat)) x) (pl - 1) kb pb) fb 0) - nw))]) (h_q := h_271) (cl_q := 0) (sl_q := 0) rfl ?_
          refine ik_Wret rfl rfl ⟨_, _, rfl, rfl, ?_⟩
          refine ik_Wk 0 (pc_q := 105) (loc_q := [some (.ref 66), some (fI 0), some (fI what), some (fI nw), some (fI b), some (fI y), some (fI p), some (fI ((mr_w (mf_cm (fun x => mx_w cn go ch (s ^^^ (1 <<< p.toNat)) x) (pl - 1) ka pa) fa (mf_cm (fun x => mx_w cn go ch (s ^^^ (1 <<< p.toNat)) x) (pl - 1) kb pb) fb 0) - nw)), x8]) (st_q := [fJ (-((mr_w (mf_cm (fun x => mx_w cn go ch (s ^^^ (1 <<< p.toNat)) x) (pl - 1) ka pa) fa (mf_cm (fun x => mx_w cn go ch (s ^^^ (1 <<< p.toNat)) x) (pl - 1) kb pb) fb 0) - nw))]) (h_q := h_271) (cl_q := 0) (sl_q := 0) rfl ?_
          refine ik_Wk 1 (pc_q := 107) (loc_q := [some (.ref 66), some (fI 0), some (fI what), some (fI nw), some (fI b), some (fI y), some (fI p), some (fI ((mr_w (mf_cm (fun x => mx_w cn go ch (s ^^^ (1 <<< p.toNat)) x) (pl - 1) ka pa) fa (mf_cm (fun x => mx_w cn go ch (s ^^^ (1 <<< p.toNat)) x) (pl - 1) kb pb) fb 0) - nw)), x8]) (st_q := [fI y, fJ (-((mr_w (mf_cm (fun x => mx_w cn go ch (s ^^^ (1 <<< p.toNat)) x) (pl - 1) ka pa) fa (mf_cm (fun x => mx_w cn go ch (s ^^^ (1 <<< p.toNat)) x) (pl - 1) kb pb) fb 0) - nw))]) (h_q := h_271) (cl_q := 0) (sl_q := 0) rfl ?_
          refine fw_i2l rfl (by omega) (by omega) ?_
          refine ik_Wc 163 1 3 [fJ y] [fJ (-((mr_w (mf_cm (fun x => mx_w cn go ch (s ^^^ (1 <<< p.toNat)) x) (pl - 1) ka pa) fa (mf_cm (fun x => mx_w cn go ch (s ^^^ (1 <<< p.toNat)) x) (pl - 1) kb pb) fb 0) - nw))] rfl rfl rfl (by decide +kernel) rfl rfl (fw_sta k_271 (fw_ftx rfl (wv_c rfl wv_n) (wl_c rfl (wl_c rfl (wl_c rfl (wl_c rfl (wl_c rfl (wl_c rfl (wl_c rfl (wl_c rfl (wl_c w8 wl_n)))))))))) (by decide +kernel)) ?_
          refine ik_Wk 0 (pc_q := 0) (loc_q := [some (fJ y), none]) (st_q := []) (h_q := h_271) (cl_q := 0) (sl_q := 0) rfl ?_
          refine ik_Wk 1 (pc_q := 1) (loc_q := [some (fJ y), none]) (st_q := [fJ y]) (h_q := h_271) (cl_q := 0) (sl_q := 0) rfl ?_
          refine fw_lc (z := 0) rfl (by decide +kernel) ?_
          refine fw_lcmp_ge rfl rfl rfl (by omega) (by omega) (by omega) (by omega) (fun hc18 => ?_) (fun hc18 => ?_)
          · refine ik_Wk 1 (pc_q := 12) (loc_q := [some (fJ y), none]) (st_q := [fJ y]) (h_q := h_271) (cl_q := 0) (sl_q := 0) rfl ?_
            refine ik_Wret rfl rfl ⟨_, _, rfl, rfl, ?_⟩
            refine ik_Wk 0 (pc_q := 111) (loc_q := [some (.ref 66), some (fI 0), some (fI what), some (fI nw), some (fI b), some (fI y), some (fI p), some (fI ((mr_w (mf_cm (fun x => mx_w cn go ch (s ^^^ (1 <<< p.toNat)) x) (pl - 1) ka pa) fa (mf_cm (fun x => mx_w cn go ch (s ^^^ (1 <<< p.toNat)) x) (pl - 1) kb pb) fb 0) - nw)), x8]) (st_q := [fJ y, fJ (-((mr_w (mf_cm (fun x => mx_w cn go ch (s ^^^ (1 <<< p.toNat)) x) (pl - 1) ka pa) fa (mf_cm (fun x => mx_w cn go ch (s ^^^ (1 <<< p.toNat)) x) (pl - 1) kb pb) fb 0) - nw))]) (h_q := h_271) (cl_q := 0) (sl_q := 0) rfl ?_
            have ab0 : mk_ab y = y := by unfold mk_ab; split <;> omega
            have ab1 : mk_ab (mr_w (mf_cm (fun x => mx_w cn go ch (s ^^^ 1 <<< p.toNat) x) (pl - 1) ka pa) fa (mf_cm (fun x => mx_w cn go ch (s ^^^ 1 <<< p.toNat) x) (pl - 1) kb pb) fb 0 - nw) = -((mr_w (mf_cm (fun x => mx_w cn go ch (s ^^^ (1 <<< p.toNat)) x) (pl - 1) ka pa) fa (mf_cm (fun x => mx_w cn go ch (s ^^^ (1 <<< p.toNat)) x) (pl - 1) kb pb) fb 0) - nw) := by unfold mk_ab; split <;> omega
            refine fw_lcmp_le rfl rfl rfl (by omega) (by omega) (by omega) (by omega) (fun hc19 => ?_) (fun hc19 => ?_)
            · refine ik_Wk 3 (pc_q := 124) (loc_q := [some (.ref 66), some (fI 0), some (fI what), some (fI nw), some (fI b), some (fI y), some (fI p), some (fI ((mr_w (mf_cm (fun x => mx_w cn go ch (s ^^^ (1 <<< p.toNat)) x) (pl - 1) ka pa) fa (mf_cm (fun x => mx_w cn go ch (s ^^^ (1 <<< p.toNat)) x) (pl - 1) kb pb) fb 0) - nw)), some (fI 0)]) (st_q := [fI 0]) (h_q := h_271) (cl_q := 0) (sl_q := 0) rfl ?_
              refine fw_if_eq rfl rfl (by decide +kernel) (by decide +kernel) (fun hc20 => ?_) (fun hc20 => absurd hc20 (by decide +kernel))
              refine ik_Wk 3 (pc_q := 138) (loc_q := [some (.ref 66), some (fI 0), some (fI what), some (fI nw), some (fI b), some (fI y), some (fI p), some (fI ((mr_w (mf_cm (fun x => mx_w cn go ch (s ^^^ (1 <<< p.toNat)) x) (pl - 1) ka pa) fa (mf_cm (fun x => mx_w cn go ch (s ^^^ (1 <<< p.toNat)) x) (pl - 1) kb pb) fb 0) - nw)), some (fI 0)]) (st_q := [fI 0]) (h_q := h_271) (cl_q := 0) (sl_q := 0) rfl ?_
              refine fw_if_eq rfl rfl (by decide +kernel) (by decide +kernel) (fun hc21 => ?_) (fun hc21 => absurd hc21 (by decide +kernel))
              refine ik_Wk 2 (pc_q := 150) (loc_q := [some (.ref 66), some (fI 0), some (fI what), some (fI nw), some (fI b), some (fI y), some (fI p), some (fI ((mr_w (mf_cm (fun x => mx_w cn go ch (s ^^^ (1 <<< p.toNat)) x) (pl - 1) ka pa) fa (mf_cm (fun x => mx_w cn go ch (s ^^^ (1 <<< p.toNat)) x) (pl - 1) kb pb) fb 0) - nw)), some (fI 0)]) (st_q := []) (h_q := h_271) (cl_q := 0) (sl_q := 0) rfl ?_
              refine fw_inc (a := p) (loc_q := [some (.ref 66), some (fI 0), some (fI what), some (fI nw), some (fI b), some (fI y), some (fI (p + 1)), some (fI ((mr_w (mf_cm (fun x => mx_w cn go ch (s ^^^ (1 <<< p.toNat)) x) (pl - 1) ka pa) fa (mf_cm (fun x => mx_w cn go ch (s ^^^ (1 <<< p.toNat)) x) (pl - 1) kb pb) fb 0) - nw)), some (fI 0)]) rfl rfl (Nat.le_of_ble_eq_true rfl) rfl ?_
              refine ik_Wk 1 (pc_q := 48) (loc_q := [some (.ref 66), some (fI 0), some (fI what), some (fI nw), some (fI b), some (fI y), some (fI (p + 1)), some (fI ((mr_w (mf_cm (fun x => mx_w cn go ch (s ^^^ (1 <<< p.toNat)) x) (pl - 1) ka pa) fa (mf_cm (fun x => mx_w cn go ch (s ^^^ (1 <<< p.toNat)) x) (pl - 1) kb pb) fb 0) - nw)), some (fI 0)]) (st_q := []) (h_q := h_271) (cl_q := 0) (sl_q := 0) rfl ?_
              exact ih  (p + 1) b y w'_270 gt'_270 gd'_270 xs'_270 ys'_270 r1'_270 r2'_270 (some (fI ((mr_w (mf_cm (fun x => mx_w cn go ch (s ^^^ (1 <<< p.toNat)) x) (pl - 1) ka pa) fa (mf_cm (fun x => mx_w cn go ch (s ^^^ (1 <<< p.toNat)) x) (pl - 1) kb pb) fb 0) - nw))) (some (fI 0)) h_271 g_271_66 g_271_67 n67 g_271_68 n68 g_271_69 n69 g_271_77 m_270_77 g_271_78 m_270_78 g_271_79 m_270_79 g_271_80 m_270_80 g_271_70 g_271_81 m_270_81 g_271_82 m_270_82 k_271 fr_271 (by omega) (by omega) (by omega) (by rw [he, show (pl - 1 - p).toNat = (pl - 1 - (p + 1)).toNat + 1 by omega]; show (if p = 0 ∨ mk_ab y < mk_ab ((mk_vm cn go ch s pl ka pa fa kb pb fb 0) p) then _ else _) = _; rw [ev, if_neg (by rw [ab0, ab1]; omega)]) rfl rfl (by omega)
            · refine ik_Wk 4 (pc_q := 124) (loc_q := [some (.ref 66), some (fI 0), some (fI what), some (fI nw), some (fI b), some (fI y), some (fI p), some (fI ((mr_w (mf_cm (fun x => mx_w cn go ch (s ^^^ (1 <<< p.toNat)) x) (pl - 1) ka pa) fa (mf_cm (fun x => mx_w cn go ch (s ^^^ (1 <<< p.toNat)) x) (pl - 1) kb pb) fb 0) - nw)), some (fI 1)]) (st_q := [fI 1]) (h_q := h_271) (cl_q := 0) (sl_q := 0) rfl ?_
              refine fw_if_eq rfl rfl (by decide +kernel) (by decide +kernel) (fun hc22 => absurd hc22 (by decide +kernel)) (fun hc22 => ?_)
              refine ik_Wk 4 (pc_q := 138) (loc_q := [some (.ref 66), some (fI 0), some (fI what), some (fI nw), some (fI p), some (fI y), some (fI p), some (fI ((mr_w (mf_cm (fun x => mx_w cn go ch (s ^^^ (1 <<< p.toNat)) x) (pl - 1) ka pa) fa (mf_cm (fun x => mx_w cn go ch (s ^^^ (1 <<< p.toNat)) x) (pl - 1) kb pb) fb 0) - nw)), some (fI 1)]) (st_q := [fI 1]) (h_q := h_271) (cl_q := 0) (sl_q := 0) rfl ?_
              refine fw_if_eq rfl rfl (by decide +kernel) (by decide +kernel) (fun hc23 => absurd hc23 (by decide +kernel)) (fun hc23 => ?_)
              refine ik_Wk 3 (pc_q := 150) (loc_q := [some (.ref 66), some (fI 0), some (fI what), some (fI nw), some (fI p), some (fI ((mr_w (mf_cm (fun x => mx_w cn go ch (s ^^^ (1 <<< p.toNat)) x) (pl - 1) ka pa) fa (mf_cm (fun x => mx_w cn go ch (s ^^^ (1 <<< p.toNat)) x) (pl - 1) kb pb) fb 0) - nw)), some (fI p), some (fI ((mr_w (mf_cm (fun x => mx_w cn go ch (s ^^^ (1 <<< p.toNat)) x) (pl - 1) ka pa) fa (mf_cm (fun x => mx_w cn go ch (s ^^^ (1 <<< p.toNat)) x) (pl - 1) kb pb) fb 0) - nw)), some (fI 1)]) (st_q := []) (h_q := h_271) (cl_q := 0) (sl_q := 0) rfl ?_
              refine fw_inc (a := p) (loc_q := [some (.ref 66), some (fI 0), some (fI what), some (fI nw), some (fI p), some (fI ((mr_w (mf_cm (fun x => mx_w cn go ch (s ^^^ (1 <<< p.toNat)) x) (pl - 1) ka pa) fa (mf_cm (fun x => mx_w cn go ch (s ^^^ (1 <<< p.toNat)) x) (pl - 1) kb pb) fb 0) - nw)), some (fI (p + 1)), some (fI ((mr_w (mf_cm (fun x => mx_w cn go ch (s ^^^ (1 <<< p.toNat)) x) (pl - 1) ka pa) fa (mf_cm (fun x => mx_w cn go ch (s ^^^ (1 <<< p.toNat)) x) (pl - 1) kb pb) fb 0) - nw)), some (fI 1)]) rfl rfl (Nat.le_of_ble_eq_true rfl) rfl ?_
              refine ik_Wk 1 (pc_q := 48) (loc_q := [some (.ref 66), some (fI 0), some (fI what), some (fI nw), some (fI p), some (fI ((mr_w (mf_cm (fun x => mx_w cn go ch (s ^^^ (1 <<< p.toNat)) x) (pl - 1) ka pa) fa (mf_cm (fun x => mx_w cn go ch (s ^^^ (1 <<< p.toNat)) x) (pl - 1) kb pb) fb 0) - nw)), some (fI (p + 1)), some (fI ((mr_w (mf_cm (fun x => mx_w cn go ch (s ^^^ (1 <<< p.toNat)) x) (pl - 1) ka pa) fa (mf_cm (fun x => mx_w cn go ch (s ^^^ (1 <<< p.toNat)) x) (pl - 1) kb pb) fb 0) - nw)), some (fI 1)]) (st_q := []) (h_q := h_271) (cl_q := 0) (sl_q := 0) rfl ?_
              exact ih  (p + 1) p ((mr_w (mf_cm (fun x => mx_w cn go ch (s ^^^ (1 <<< p.toNat)) x) (pl - 1) ka pa) fa (mf_cm (fun x => mx_w cn go ch (s ^^^ (1 <<< p.toNat)) x) (pl - 1) kb pb) fb 0) - nw) w'_270 gt'_270 gd'_270 xs'_270 ys'_270 r1'_270 r2'_270 (some (fI ((mr_w (mf_cm (fun x => mx_w cn go ch (s ^^^ (1 <<< p.toNat)) x) (pl - 1) ka pa) fa (mf_cm (fun x => mx_w cn go ch (s ^^^ (1 <<< p.toNat)) x) (pl - 1) kb pb) fb 0) - nw))) (some (fI 1)) h_271 g_271_66 g_271_67 n67 g_271_68 n68 g_271_69 n69 g_271_77 m_270_77 g_271_78 m_270_78 g_271_79 m_270_79 g_271_80 m_270_80 g_271_70 g_271_81 m_270_81 g_271_82 m_270_82 k_271 fr_271 (by omega) (by omega) (by omega) (by rw [he, show (pl - 1 - p).toNat = (pl - 1 - (p + 1)).toNat + 1 by omega]; show (if p = 0 ∨ mk_ab y < mk_ab ((mk_vm cn go ch s pl ka pa fa kb pb fb 0) p) then _ else _) = _; rw [ev, if_pos (by rw [ab0, ab1]; omega)]) rfl rfl (by omega)
          · refine ik_Wk 1 (pc_q := 7) (loc_q := [some (fJ y), none]) (st_q := [fJ y]) (h_q := h_271) (cl_q := 0) (sl_q := 0) rfl ?_
            refine fx_lneg rfl ?_
            refine ik_Wk 1 (pc_q := 12) (loc_q := [some (fJ y), none]) (st_q := [fJ (-y)]) (h_q := h_271) (cl_q := 0) (sl_q := 0) rfl ?_
            refine ik_Wret rfl rfl ⟨_, _, rfl, rfl, ?_⟩
            refine ik_Wk 0 (pc_q := 111) (loc_q := [some (.ref 66), some (fI 0), some (fI what), some (fI nw), some (fI b), some (fI y), some (fI p), some (fI ((mr_w (mf_cm (fun x => mx_w cn go ch (s ^^^ (1 <<< p.toNat)) x) (pl - 1) ka pa) fa (mf_cm (fun x => mx_w cn go ch (s ^^^ (1 <<< p.toNat)) x) (pl - 1) kb pb) fb 0) - nw)), x8]) (st_q := [fJ (-y), fJ (-((mr_w (mf_cm (fun x => mx_w cn go ch (s ^^^ (1 <<< p.toNat)) x) (pl - 1) ka pa) fa (mf_cm (fun x => mx_w cn go ch (s ^^^ (1 <<< p.toNat)) x) (pl - 1) kb pb) fb 0) - nw))]) (h_q := h_271) (cl_q := 0) (sl_q := 0) rfl ?_
            have ab0 : mk_ab y = -y := by unfold mk_ab; split <;> omega
            have ab1 : mk_ab (mr_w (mf_cm (fun x => mx_w cn go ch (s ^^^ 1 <<< p.toNat) x) (pl - 1) ka pa) fa (mf_cm (fun x => mx_w cn go ch (s ^^^ 1 <<< p.toNat) x) (pl - 1) kb pb) fb 0 - nw) = -((mr_w (mf_cm (fun x => mx_w cn go ch (s ^^^ (1 <<< p.toNat)) x) (pl - 1) ka pa) fa (mf_cm (fun x => mx_w cn go ch (s ^^^ (1 <<< p.toNat)) x) (pl - 1) kb pb) fb 0) - nw) := by unfold mk_ab; split <;> omega
            refine fw_lcmp_le rfl rfl rfl (by omega) (by omega) (by omega) (by omega) (fun hc24 => ?_) (fun hc24 => ?_)
            · refine ik_Wk 3 (pc_q := 124) (loc_q := [some (.ref 66), some (fI 0), some (fI what), some (fI nw), some (fI b), some (fI y), some (fI p), some (fI ((mr_w (mf_cm (fun x => mx_w cn go ch (s ^^^ (1 <<< p.toNat)) x) (pl - 1) ka pa) fa (mf_cm (fun x => mx_w cn go ch (s ^^^ (1 <<< p.toNat)) x) (pl - 1) kb pb) fb 0) - nw)), some (fI 0)]) (st_q := [fI 0]) (h_q := h_271) (cl_q := 0) (sl_q := 0) rfl ?_
              refine fw_if_eq rfl rfl (by decide +kernel) (by decide +kernel) (fun hc25 => ?_) (fun hc25 => absurd hc25 (by decide +kernel))
              refine ik_Wk 3 (pc_q := 138) (loc_q := [some (.ref 66), some (fI 0), some (fI what), some (fI nw), some (fI b), some (fI y), some (fI p), some (fI ((mr_w (mf_cm (fun x => mx_w cn go ch (s ^^^ (1 <<< p.toNat)) x) (pl - 1) ka pa) fa (mf_cm (fun x => mx_w cn go ch (s ^^^ (1 <<< p.toNat)) x) (pl - 1) kb pb) fb 0) - nw)), some (fI 0)]) (st_q := [fI 0]) (h_q := h_271) (cl_q := 0) (sl_q := 0) rfl ?_
              refine fw_if_eq rfl rfl (by decide +kernel) (by decide +kernel) (fun hc26 => ?_) (fun hc26 => absurd hc26 (by decide +kernel))
              refine ik_Wk 2 (pc_q := 150) (loc_q := [some (.ref 66), some (fI 0), some (fI what), some (fI nw), some (fI b), some (fI y), some (fI p), some (fI ((mr_w (mf_cm (fun x => mx_w cn go ch (s ^^^ (1 <<< p.toNat)) x) (pl - 1) ka pa) fa (mf_cm (fun x => mx_w cn go ch (s ^^^ (1 <<< p.toNat)) x) (pl - 1) kb pb) fb 0) - nw)), some (fI 0)]) (st_q := []) (h_q := h_271) (cl_q := 0) (sl_q := 0) rfl ?_
              refine fw_inc (a := p) (loc_q := [some (.ref 66), some (fI 0), some (fI what), some (fI nw), some (fI b), some (fI y), some (fI (p + 1)), some (fI ((mr_w (mf_cm (fun x => mx_w cn go ch (s ^^^ (1 <<< p.toNat)) x) (pl - 1) ka pa) fa (mf_cm (fun x => mx_w cn go ch (s ^^^ (1 <<< p.toNat)) x) (pl - 1) kb pb) fb 0) - nw)), some (fI 0)]) rfl rfl (Nat.le_of_ble_eq_true rfl) rfl ?_
              refine ik_Wk 1 (pc_q := 48) (loc_q := [some (.ref 66), some (fI 0), some (fI what), some (fI nw), some (fI b), some (fI y), some (fI (p + 1)), some (fI ((mr_w (mf_cm (fun x => mx_w cn go ch (s ^^^ (1 <<< p.toNat)) x) (pl - 1) ka pa) fa (mf_cm (fun x => mx_w cn go ch (s ^^^ (1 <<< p.toNat)) x) (pl - 1) kb pb) fb 0) - nw)), some (fI 0)]) (st_q := []) (h_q := h_271) (cl_q := 0) (sl_q := 0) rfl ?_
              exact ih  (p + 1) b y w'_270 gt'_270 gd'_270 xs'_270 ys'_270 r1'_270 r2'_270 (some (fI ((mr_w (mf_cm (fun x => mx_w cn go ch (s ^^^ (1 <<< p.toNat)) x) (pl - 1) ka pa) fa (mf_cm (fun x => mx_w cn go ch (s ^^^ (1 <<< p.toNat)) x) (pl - 1) kb pb) fb 0) - nw))) (some (fI 0)) h_271 g_271_66 g_271_67 n67 g_271_68 n68 g_271_69 n69 g_271_77 m_270_77 g_271_78 m_270_78 g_271_79 m_270_79 g_271_80 m_270_80 g_271_70 g_271_81 m_270_81 g_271_82 m_270_82 k_271 fr_271 (by omega) (by omega) (by omega) (by rw [he, show (pl - 1 - p).toNat = (pl - 1 - (p + 1)).toNat + 1 by omega]; show (if p = 0 ∨ mk_ab y < mk_ab ((mk_vm cn go ch s pl ka pa fa kb pb fb 0) p) then _ else _) = _; rw [ev, if_neg (by rw [ab0, ab1]; omega)]) rfl rfl (by omega)
            · refine ik_Wk 4 (pc_q := 124) (loc_q := [some (.ref 66), some (fI 0), some (fI what), some (fI nw), some (fI b), some (fI y), some (fI p), some (fI ((mr_w (mf_cm (fun x => mx_w cn go ch (s ^^^ (1 <<< p.toNat)) x) (pl - 1) ka pa) fa (mf_cm (fun x => mx_w cn go ch (s ^^^ (1 <<< p.toNat)) x) (pl - 1) kb pb) fb 0) - nw)), some (fI 1)]) (st_q := [fI 1]) (h_q := h_271) (cl_q := 0) (sl_q := 0) rfl ?_
              refine fw_if_eq rfl rfl (by decide +kernel) (by decide +kernel) (fun hc27 => absurd hc27 (by decide +kernel)) (fun hc27 => ?_)
              refine ik_Wk 4 (pc_q := 138) (loc_q := [some (.ref 66), some (fI 0), some (fI what), some (fI nw), some (fI p), some (fI y), some (fI p), some (fI ((mr_w (mf_cm (fun x => mx_w cn go ch (s ^^^ (1 <<< p.toNat)) x) (pl - 1) ka pa) fa (mf_cm (fun x => mx_w cn go ch (s ^^^ (1 <<< p.toNat)) x) (pl - 1) kb pb) fb 0) - nw)), some (fI 1)]) (st_q := [fI 1]) (h_q := h_271) (cl_q := 0) (sl_q := 0) rfl ?_
              refine fw_if_eq rfl rfl (by decide +kernel) (by decide +kernel) (fun hc28 => absurd hc28 (by decide +kernel)) (fun hc28 => ?_)
              refine ik_Wk 3 (pc_q := 150) (loc_q := [some (.ref 66), some (fI 0), some (fI what), some (fI nw), some (fI p), some (fI ((mr_w (mf_cm (fun x => mx_w cn go ch (s ^^^ (1 <<< p.toNat)) x) (pl - 1) ka pa) fa (mf_cm (fun x => mx_w cn go ch (s ^^^ (1 <<< p.toNat)) x) (pl - 1) kb pb) fb 0) - nw)), some (fI p), some (fI ((mr_w (mf_cm (fun x => mx_w cn go ch (s ^^^ (1 <<< p.toNat)) x) (pl - 1) ka pa) fa (mf_cm (fun x => mx_w cn go ch (s ^^^ (1 <<< p.toNat)) x) (pl - 1) kb pb) fb 0) - nw)), some (fI 1)]) (st_q := []) (h_q := h_271) (cl_q := 0) (sl_q := 0) rfl ?_
              refine fw_inc (a := p) (loc_q := [some (.ref 66), some (fI 0), some (fI what), some (fI nw), some (fI p), some (fI ((mr_w (mf_cm (fun x => mx_w cn go ch (s ^^^ (1 <<< p.toNat)) x) (pl - 1) ka pa) fa (mf_cm (fun x => mx_w cn go ch (s ^^^ (1 <<< p.toNat)) x) (pl - 1) kb pb) fb 0) - nw)), some (fI (p + 1)), some (fI ((mr_w (mf_cm (fun x => mx_w cn go ch (s ^^^ (1 <<< p.toNat)) x) (pl - 1) ka pa) fa (mf_cm (fun x => mx_w cn go ch (s ^^^ (1 <<< p.toNat)) x) (pl - 1) kb pb) fb 0) - nw)), some (fI 1)]) rfl rfl (Nat.le_of_ble_eq_true rfl) rfl ?_
              refine ik_Wk 1 (pc_q := 48) (loc_q := [some (.ref 66), some (fI 0), some (fI what), some (fI nw), some (fI p), some (fI ((mr_w (mf_cm (fun x => mx_w cn go ch (s ^^^ (1 <<< p.toNat)) x) (pl - 1) ka pa) fa (mf_cm (fun x => mx_w cn go ch (s ^^^ (1 <<< p.toNat)) x) (pl - 1) kb pb) fb 0) - nw)), some (fI (p + 1)), some (fI ((mr_w (mf_cm (fun x => mx_w cn go ch (s ^^^ (1 <<< p.toNat)) x) (pl - 1) ka pa) fa (mf_cm (fun x => mx_w cn go ch (s ^^^ (1 <<< p.toNat)) x) (pl - 1) kb pb) fb 0) - nw)), some (fI 1)]) (st_q := []) (h_q := h_271) (cl_q := 0) (sl_q := 0) rfl ?_
              exact ih  (p + 1) p ((mr_w (mf_cm (fun x => mx_w cn go ch (s ^^^ (1 <<< p.toNat)) x) (pl - 1) ka pa) fa (mf_cm (fun x => mx_w cn go ch (s ^^^ (1 <<< p.toNat)) x) (pl - 1) kb pb) fb 0) - nw) w'_270 gt'_270 gd'_270 xs'_270 ys'_270 r1'_270 r2'_270 (some (fI ((mr_w (mf_cm (fun x => mx_w cn go ch (s ^^^ (1 <<< p.toNat)) x) (pl - 1) ka pa) fa (mf_cm (fun x => mx_w cn go ch (s ^^^ (1 <<< p.toNat)) x) (pl - 1) kb pb) fb 0) - nw))) (some (fI 1)) h_271 g_271_66 g_271_67 n67 g_271_68 n68 g_271_69 n69 g_271_77 m_270_77 g_271_78 m_270_78 g_271_79 m_270_79 g_271_80 m_270_80 g_271_70 g_271_81 m_270_81 g_271_82 m_270_82 k_271 fr_271 (by omega) (by omega) (by omega) (by rw [he, show (pl - 1 - p).toNat = (pl - 1 - (p + 1)).toNat + 1 by omega]; show (if p = 0 ∨ mk_ab y < mk_ab ((mk_vm cn go ch s pl ka pa fa kb pb fb 0) p) then _ else _) = _; rw [ev, if_pos (by rw [ab0, ab1]; omega)]) rfl rfl (by omega)

theorem rp_most0 {h : List ik_E} {pl : Int} {f : Nat → Int} {s : Nat} {cn : List Int} {go : List Int} {ch : List Int} {gt : List Int} {gd : List Int} {xs : List Int} {ys : List Int} {ka : Int} {pa : Int} {fa : Int} {kb : Int} {pb : Int} {fb : Int} {r1 : List Int} {r2 : List Int} {what : Int} (q0 : 0 ≤ pl ∧ pl ≤ 12) (q1 : s < 4096) (q2 : ∀ x : Int, (0 : Int) ≤ x → x < pl - 1 → 0 ≤ cn.getD x.toNat 0 ∧ cn.getD x.toNat 0 ≤ 4) (q3 : ∀ x : Int, (0 : Int) ≤ x → x < pl - 1 → 1 ≤ cn.getD x.toNat 0 ∧ ∀ j : Int, 4 * x ≤ j → j < 4 * x + cn.getD x.toNat 0 → 0 ≤ ch.getD j.toNat 0 ∧ ch.getD j.toNat 0 ≤ 100) (q4 : ∀ x : Int, (0 : Int) ≤ x → x < pl - 1 → mx_ok pl (mx_w cn go ch s x)) (q5 : (0 : Int) ≤ ka ∧ ka ≤ (2 : Int)) (q6 : (0 : Int) ≤ kb ∧ kb ≤ (2 : Int)) (q7 : (1 : Int) < pl → (0 : Int) ≤ pa ∧ pa < pl - 1) (q8 : (1 : Int) < pl → (0 : Int) ≤ pb ∧ pb < pl - 1) (q9 : (0 : Int) ≤ fa ∧ fa ≤ (30 : Int)) (q10 : (0 : Int) ≤ fb ∧ fb ≤ (30 : Int)) (q11 : mx_rw pl cn go ch) (q12 : (-2147483648 : Int) ≤ what ∧ what < (2147483648 : Int)) (h66 : cE h 66 (.inr (10, (fI pl :: .ref 67 :: .ref 68 :: .ref 69 :: fI ((s : Nat) : Int) :: .ref 70 :: .ref 71 :: fI (f 7) :: fI (f 8) :: .ref 72 :: fI (f 10) :: fI (f 11) :: fI (f 12) :: fJ (f 13) :: fI (f 14) :: fI (f 15) :: fI (f 16) :: fI (f 17) :: .ref 73 :: .ref 74 :: .ref 75 :: .ref 76 :: .ref 77 :: .ref 78 :: fI (f 24) :: .ref 79 :: .ref 80 :: .ref 81 :: .ref 82 :: .ref 83 :: .ref 84 :: .ref 85 :: fJ (f 32) :: fJ (f 33) :: .ref 86 :: .ref 87 :: fI (f 36) :: .ref 88 :: .ref 89 :: .ref 90 :: .ref 91 :: .ref 92 :: .ref 93 :: [])))) (h67 : cE h 67 (.inl (.int, fA cn))) (n67 : cn.length = (12 : Nat)) (h68 : cE h 68 (.inl (.int, fA go))) (n68 : go.length = (48 : Nat)) (h69 : cE h 69 (.inl (.int, fA ch))) (n69 : ch.length = (48 : Nat)) (h77 : cE h 77 (.inl (.int, fA gt))) (n77 : gt.length = (5 : Nat)) (h78 : cE h 78 (.inl (.int, fA gd))) (n78 : gd.length = (5 : Nat)) (h79 : cE h 79 (.inl (.long, fL xs))) (n79 : xs.length = (12 : Nat)) (h80 : cE h 80 (.inl (.long, fL ys))) (n80 : ys.length = (12 : Nat)) (h70 : cE h 70 (.inl (.int, fA [ka, pa, fa, kb, pb, fb]))) (h81 : cE h 81 (.inl (.long, fL r1))) (n81 : r1.length = (201 : Nat)) (h82 : cE h 82 (.inl (.long, fL r2))) (n82 : r2.length = (201 : Nat)) (hl : h.length = (94 : Nat)) : ik_F 182 [.ref 66, fI 0, fI what] h (fun rv h_q => ∃ (w' : Int) (gt' : List Int) (gd' : List Int) (xs' : List Int) (ys' : List Int) (r1' : List Int) (r2' : List Int), rv = [fI (an_mo what pl (if what = 0 then (mk_mo (mk_vm cn go ch s pl ka pa fa kb pb fb 0) (pl - 1).toNat 0 (-1) 0).1 else (mk_mo (mk_vm cn go ch s pl ka pa fa kb pb fb 0) (pl - 1).toNat 0 (-1) 0).2))] ∧ cE h_q 66 (.inr (10, (fI pl :: .ref 67 :: .ref 68 :: .ref 69 :: fI ((s : Nat) : Int) :: .ref 70 :: .ref 71 :: fI (f 7) :: fI (f 8) :: .ref 72 :: fI (f 10) :: fI (f 11) :: fI (f 12) :: fJ (f 13) :: fI (f 14) :: fI (f 15) :: fI (f 16) :: fI (f 17) :: .ref 73 :: .ref 74 :: .ref 75 :: .ref 76 :: .ref 77 :: .ref 78 :: fI w' :: .ref 79 :: .ref 80 :: .ref 81 :: .ref 82 :: .ref 83 :: .ref 84 :: .ref 85 :: fJ (f 32) :: fJ (f 33) :: .ref 86 :: .ref 87 :: fI (f 36) :: .ref 88 :: .ref 89 :: .ref 90 :: .ref 91 :: .ref 92 :: .ref 93 :: []))) ∧ cE h_q 77 (.inl (.int, fA gt')) ∧ gt'.length = (5 : Nat) ∧ cE h_q 78 (.inl (.int, fA gd')) ∧ gd'.length = (5 : Nat) ∧ cE h_q 79 (.inl (.long, fL xs')) ∧ xs'.length = (12 : Nat) ∧ cE h_q 80 (.inl (.long, fL ys')) ∧ ys'.length = (12 : Nat) ∧ cE h_q 81 (.inl (.long, fL r1')) ∧ r1'.length = (201 : Nat) ∧ cE h_q 82 (.inl (.long, fL r2')) ∧ r2'.length = (201 : Nat) ∧ hfr [66, 77, 78, 79, 80, 81, 82] h h_q) := by
  refine ik_Wk 1 (pc_q := 1) (loc_q := [some (.ref 66), some (fI 0), some (fI what), none, none, none, none, none, none]) (st_q := [fI 0]) (h_q := h) (cl_q := 0) (sl_q := 0) rfl ?_
  refine ik_Wc 132 1 3 [fI 0] [] rfl rfl rfl (by decide +kernel) rfl rfl (fw_sta hl rfl (by decide +kernel)) ?_
  refine ik_Wk 0 (pc_q := 0) (loc_q := [some (fI 0)]) (st_q := []) (h_q := h) (cl_q := 0) (sl_q := 0) rfl ?_
  refine ik_Wk 1 (pc_q := 1) (loc_q := [some (fI 0)]) (st_q := [fI 0]) (h_q := h) (cl_q := 0) (sl_q := 0) rfl ?_
  refine fw_i2l rfl (by omega) (by omega) ?_
  refine fw_lc (z := 0) rfl (by decide +kernel) ?_
  refine fw_lc (z := 1) rfl (by decide +kernel) ?_
  refine fw_call 127 3 3 [fJ 0, fJ 0, fJ 1] [] rfl rfl rfl (Nat.le_of_ble_eq_true rfl) rfl rfl (fw_sta hl rfl (by decide +kernel)) (cr_in (v := 0) (a := 0) (b := 1) (by omega) (by omega) (by omega)  hl) ?_
  rintro _ h_272 (⟨rfl, p_272_0, F_272⟩ | ⟨rfl, p_272_0, F_272⟩)
  · have k_272 : cL h_272 := F_272.1.trans hl
    have fr_272 := hfr_cb (hfr_refl [66, 77, 78, 79, 80, 81, 82] h) F_272 rfl
    have g_272_66 := (hfr_g F_272 66 rfl).trans h66
    have g_272_67 := (hfr_g F_272 67 rfl).trans h67
    have g_272_68 := (hfr_g F_272 68 rfl).trans h68
    have g_272_69 := (hfr_g F_272 69 rfl).trans h69
    have g_272_77 := (hfr_g F_272 77 rfl).trans h77
    have g_272_78 := (hfr_g F_272 78 rfl).trans h78
    have g_272_79 := (hfr_g F_272 79 rfl).trans h79
    have g_272_80 := (hfr_g F_272 80 rfl).trans h80
    have g_272_70 := (hfr_g F_272 70 rfl).trans h70
    have g_272_81 := (hfr_g F_272 81 rfl).trans h81
    have g_272_82 := (hfr_g F_272 82 rfl).trans h82
    refine ik_Wk 0 (pc_q := 7) (loc_q := [some (fI 0)]) (st_q := [fI 1]) (h_q := h_272) (cl_q := 0) (sl_q := 0) rfl ?_
    refine ik_Wret rfl rfl ⟨_, _, rfl, rfl, ?_⟩
    refine ik_Wk 0 (pc_q := 4) (loc_q := [some (.ref 66), some (fI 0), some (fI what), none, none, none, none, none, none]) (st_q := [fI 1]) (h_q := h_272) (cl_q := 0) (sl_q := 0) rfl ?_
    refine fw_if_ne rfl rfl (by decide +kernel) (by decide +kernel) (fun hc1 => absurd hc1 (by decide +kernel)) (fun hc1 => ?_)
    refine ik_Wk 1 (pc_q := 11) (loc_q := [some (.ref 66), some (fI 0), some (fI what), none, none, none, none, none, none]) (st_q := [fI what]) (h_q := h_272) (cl_q := 0) (sl_q := 0) rfl ?_
    refine fw_i2l rfl (by omega) (by omega) ?_
    refine fw_lc (z := 0) rfl (by decide +kernel) ?_
    refine fw_lc (z := 1) rfl (by decide +kernel) ?_
    refine fw_call 127 3 3 [fJ what, fJ 0, fJ 1] [] rfl rfl rfl (Nat.le_of_ble_eq_true rfl) rfl rfl (fw_sta k_272 rfl (by decide +kernel)) (cr_in (v := what) (a := 0) (b := 1) (by omega) (by omega) (by omega)  k_272) ?_
    rintro _ h_273 (⟨rfl, p_273_0, F_273⟩ | ⟨rfl, p_273_0, F_273⟩)
    · have k_273 : cL h_273 := F_273.1.trans k_272
      have fr_273 := hfr_cb fr_272 F_273 rfl
      have g_273_66 := (hfr_g F_273 66 rfl).trans g_272_66
      have g_273_67 := (hfr_g F_273 67 rfl).trans g_272_67
      have g_273_68 := (hfr_g F_273 68 rfl).trans g_272_68
      have g_273_69 := (hfr_g F_273 69 rfl).trans g_272_69
      have g_273_77 := (hfr_g F_273 77 rfl).trans g_272_77
      have g_273_78 := (hfr_g F_273 78 rfl).trans g_272_78
      have g_273_79 := (hfr_g F_273 79 rfl).trans g_272_79
      have g_273_80 := (hfr_g F_273 80 rfl).trans g_272_80
      have g_273_70 := (hfr_g F_273 70 rfl).trans g_272_70
      have g_273_81 := (hfr_g F_273 81 rfl).trans g_272_81
      have g_273_82 := (hfr_g F_273 82 rfl).trans g_272_82
      refine ik_Wk 0 (pc_q := 17) (loc_q := [some (.ref 66), some (fI 0), some (fI what), none, none, none, none, none, none]) (st_q := [fI 1]) (h_q := h_273) (cl_q := 0) (sl_q := 0) rfl ?_
      refine fw_if_ne rfl rfl (by decide +kernel) (by decide +kernel) (fun hc2 => absurd hc2 (by decide +kernel)) (fun hc2 => ?_)
      refine ik_Wk 1 (pc_q := 24) (loc_q := [some (.ref 66), some (fI 0), some (fI what), none, none, none, none, none, none]) (st_q := [.ref 66]) (h_q := h_273) (cl_q := 0) (sl_q := 0) rfl ?_
      refine ik_Wc 134 1 0 [.ref 66] [] rfl rfl rfl (by decide +kernel) rfl rfl (fw_rec k_273 rfl g_273_66 rfl (Nat.le_of_ble_eq_true rfl)) ?_
      refine ik_Wk 0 (pc_q := 0) (loc_q := [some (.ref 66)]) (st_q := []) (h_q := h_273) (cl_q := 0) (sl_q := 0) rfl ?_
      refine ik_Wk 1 (pc_q := 1) (loc_q := [some (.ref 66)]) (st_q := [.ref 66]) (h_q := h_273) (cl_q := 0) (sl_q := 0) rfl ?_
      refine fw_gf rfl rfl g_273_66 rfl ?_
      refine ik_Wk 1 (pc_q := 5) (loc_q := [some (.ref 66)]) (st_q := [fI 1, fI pl]) (h_q := h_273) (cl_q := 0) (sl_q := 0) rfl ?_
      refine fw_ic_le rfl rfl (by omega) (by omega) (by omega) (by omega) (fun hc3 => ?_) (fun hc3 => ?_)
      · refine ik_Wk 1 (pc_q := 13) (loc_q := [some (.ref 66)]) (st_q := [fI 0]) (h_q := h_273) (cl_q := 0) (sl_q := 0) rfl ?_
        refine ik_Wret rfl rfl ⟨_, _, rfl, rfl, ?_⟩
        refine ik_Wk 0 (pc_q := 27) (loc_q := [some (.ref 66), some (fI 0), some (fI what), none, none, none, none, none, none]) (st_q := [fI 0]) (h_q := h_273) (cl_q := 0) (sl_q := 0) rfl ?_
        refine fw_if_ne rfl rfl (by decide +kernel) (by decide +kernel) (fun hc4 => ?_) (fun hc4 => absurd hc4 (by decide +kernel))
        refine fw_ld (-1000000003) rfl rfl (by decide +kernel) ?_
        exact ik_Wret rfl rfl ⟨_, _, rfl, rfl, rfl, rfl, ⟨(f 24), gt, gd, xs, ys, r1, r2, (congrArg (fun z => [fI z]) (by unfold an_mo; (repeat' split) <;> first | rfl | omega)), g_273_66, g_273_77, n77, g_273_78, n78, g_273_79, n79, g_273_80, n80, g_273_81, n81, g_273_82, n82, fr_273⟩⟩
      · refine ik_Wk 2 (pc_q := 13) (loc_q := [some (.ref 66)]) (st_q := [fI 1]) (h_q := h_273) (cl_q := 0) (sl_q := 0) rfl ?_
        refine ik_Wret rfl rfl ⟨_, _, rfl, rfl, ?_⟩
        refine ik_Wk 0 (pc_q := 27) (loc_q := [some (.ref 66), some (fI 0), some (fI what), none, none, none, none, none, none]) (st_q := [fI 1]) (h_q := h_273) (cl_q := 0) (sl_q := 0) rfl ?_
        refine fw_if_ne rfl rfl (by decide +kernel) (by decide +kernel) (fun hc5 => absurd hc5 (by decide +kernel)) (fun hc5 => ?_)
        refine ik_Wk 2 (pc_q := 35) (loc_q := [some (.ref 66), some (fI 0), some (fI what), none, none, none, none, none, none]) (st_q := [fI 0, .ref 66]) (h_q := h_273) (cl_q := 0) (sl_q := 0) rfl ?_
        refine fw_call 169 2 0 [.ref 66, fI 0] [] rfl rfl rfl (Nat.le_of_ble_eq_true rfl) rfl rfl (fw_rec k_273 rfl g_273_66 rfl (Nat.le_of_ble_eq_true rfl)) (cr_laterOf (pl := pl) (f := fun j => ((0 :: 0 :: 0 :: 0 :: 0 :: 0 :: 0 :: f 7 :: f 8 :: 0 :: f 10 :: f 11 :: f 12 :: f 13 :: f 14 :: f 15 :: f 16 :: f 17 :: 0 :: 0 :: 0 :: 0 :: 0 :: 0 :: f 24 :: 0 :: 0 :: 0 :: 0 :: 0 :: 0 :: 0 :: f 32 :: f 33 :: 0 :: 0 :: f 36 :: 0 :: 0 :: 0 :: 0 :: 0 :: 0 :: []) : List Int).getD j 0) (s := s) (cn := cn) (go := go) (ch := ch) (gt := gt) (gd := gd) (xs := xs) (ys := ys) (ka := ka) (pa := pa) (fa := fa) (kb := kb) (pb := pb) (fb := fb) (r1 := r1) (r2 := r2) (wh := 0) (by omega) (by omega) q2 q3 q4 q5 q6 (q7 (by omega)) (q8 (by omega)) q9 q10 (by omega) g_273_66 g_273_67 n67 g_273_68 n68 g_273_69 n69 g_273_77 n77 g_273_78 n78 g_273_79 n79 g_273_80 n80 g_273_70 g_273_81 n81 g_273_82 n82 k_273) ?_
        rintro _ h_274 ⟨w'_274, gt'_274, gd'_274, xs'_274, ys'_274, r1'_274, r2'_274, rfl, e_274_66, e_274_77, m_274_77, e_274_78, m_274_78, e_274_79, m_274_79, e_274_80, m_274_80, e_274_81, m_274_81, e_274_82, m_274_82, F_274⟩
        have k_274 : cL h_274 := F_274.1.trans k_273
        have fr_274 := hfr_cb fr_273 F_274 rfl
        have g_274_67 := (hfr_g F_274 67 rfl).trans g_273_67
        have g_274_68 := (hfr_g F_274 68 rfl).trans g_273_68
        have g_274_69 := (hfr_g F_274 69 rfl).trans g_273_69
        have g_274_70 := (hfr_g F_274 70 rfl).trans g_273_70
        have g_274_66 : cE h_274 66 (.inr (10, (fI pl :: .ref 67 :: .ref 68 :: .ref 69 :: fI ((s : Nat) : Int) :: .ref 70 :: .ref 71 :: fI (f 7) :: fI (f 8) :: .ref 72 :: fI (f 10) :: fI (f 11) :: fI (f 12) :: fJ (f 13) :: fI (f 14) :: fI (f 15) :: fI (f 16) :: fI (f 17) :: .ref 73 :: .ref 74 :: .ref 75 :: .ref 76 :: .ref 77 :: .ref 78 :: fI w'_274 :: .ref 79 :: .ref 80 :: .ref 81 :: .ref 82 :: .ref 83 :: .ref 84 :: .ref 85 :: fJ (f 32) :: fJ (f 33) :: .ref 86 :: .ref 87 :: fI (f 36) :: .ref 88 :: .ref 89 :: .ref 90 :: .ref 91 :: .ref 92 :: .ref 93 :: []))) := e_274_66
        have g_274_77 : cE h_274 77 (.inl (.int, fA gt'_274)) := e_274_77
        have g_274_78 : cE h_274 78 (.inl (.int, fA gd'_274)) := e_274_78
        have g_274_79 : cE h_274 79 (.inl (.long, fL xs'_274)) := e_274_79
        have g_274_80 : cE h_274 80 (.inl (.long, fL ys'_274)) := e_274_80
        have g_274_81 : cE h_274 81 (.inl (.long, fL r1'_274)) := e_274_81
        have g_274_82 : cE h_274 82 (.inl (.long, fL r2'_274)) := e_274_82
        refine ik_Wk 0 (pc_q := 38) (loc_q := [some (.ref 66), some (fI 0), some (fI what), none, none, none, none, none, none]) (st_q := [fI (mr_w (mf_cm (fun x => mx_w cn go ch s x) (pl - 1) ka pa) fa (mf_cm (fun x => mx_w cn go ch s x) (pl - 1) kb pb) fb 0)]) (h_q := h_274) (cl_q := 0) (sl_q := 0) rfl ?_
        have ka_274 := mr_ok_cm (W := (fun x => mx_w cn go ch s x)) (k := ka) q4 (q7 (by omega))
        have kb_274 := mr_ok_cm (W := (fun x => mx_w cn go ch s x)) (k := kb) q4 (q8 (by omega))
        have wb_274 := mr_w_b ka_274 kb_274 (show 0 ≤ fa by omega) (show 0 ≤ fb by omega) 0
        refine ik_Wk 7 (pc_q := 48) (loc_q := [some (.ref 66), some (fI 0), some (fI what), some (fI (mr_w (mf_cm (fun x => mx_w cn go ch s x) (pl - 1) ka pa) fa (mf_cm (fun x => mx_w cn go ch s x) (pl - 1) kb pb) fb 0)), some (fI (-1)), some (fI 0), some (fI 0), none, none]) (st_q := []) (h_q := h_274) (cl_q := 0) (sl_q := 0) rfl ?_
        exact rp_most0L (pl := pl) (f := f) (s := s) (cn := cn) (go := go) (ch := ch) (gt := gt) (gd := gd) (xs := xs) (ys := ys) (ka := ka) (pa := pa) (fa := fa) (kb := kb) (pb := pb) (fb := fb) (r1 := r1) (r2 := r2) (what := what) q0 q1 q2 q3 q4 q5 q6 q7 q8 q9 q10 q11 q12 (nw := mr_w (mf_cm (fun x => mx_w cn go ch s x) (pl - 1) ka pa) fa (mf_cm (fun x => mx_w cn go ch s x) (pl - 1) kb pb) fb 0) (by omega) (by omega) rfl wb_274 (pl.toNat + 1) 0 (-1) 0 w'_274 gt'_274 gd'_274 xs'_274 ys'_274 r1'_274 r2'_274 none none h_274 g_274_66 g_274_67 n67 g_274_68 n68 g_274_69 n69 g_274_77 m_274_77 g_274_78 m_274_78 g_274_79 m_274_79 g_274_80 m_274_80 g_274_70 g_274_81 m_274_81 g_274_82 m_274_82 k_274 fr_274 (by omega) (by omega) (by omega) (by rw [Int.sub_zero]) rfl rfl (by omega)
    · have k_273 : cL h_273 := F_273.1.trans k_272
      have fr_273 := hfr_cb fr_272 F_273 rfl
      have g_273_66 := (hfr_g F_273 66 rfl).trans g_272_66
      have g_273_67 := (hfr_g F_273 67 rfl).trans g_272_67
      have g_273_68 := (hfr_g F_273 68 rfl).trans g_272_68
      have g_273_69 := (hfr_g F_273 69 rfl).trans g_272_69
      have g_273_77 := (hfr_g F_273 77 rfl).trans g_272_77
      have g_273_78 := (hfr_g F_273 78 rfl).trans g_272_78
      have g_273_79 := (hfr_g F_273 79 rfl).trans g_272_79
      have g_273_80 := (hfr_g F_273 80 rfl).trans g_272_80
      have g_273_70 := (hfr_g F_273 70 rfl).trans g_272_70
      have g_273_81 := (hfr_g F_273 81 rfl).trans g_272_81
      have g_273_82 := (hfr_g F_273 82 rfl).trans g_272_82
      refine ik_Wk 0 (pc_q := 17) (loc_q := [some (.ref 66), some (fI 0), some (fI what), none, none, none, none, none, none]) (st_q := [fI 0]) (h_q := h_273) (cl_q := 0) (sl_q := 0) rfl ?_
      refine fw_if_ne rfl rfl (by decide +kernel) (by decide +kernel) (fun hc6 => ?_) (fun hc6 => absurd hc6 (by decide +kernel))
      refine fw_ld (-1000000002) rfl rfl (by decide +kernel) ?_
      exact ik_Wret rfl rfl ⟨_, _, rfl, rfl, rfl, rfl, ⟨(f 24), gt, gd, xs, ys, r1, r2, (congrArg (fun z => [fI z]) (by unfold an_mo; (repeat' split) <;> first | rfl | omega)), g_273_66, g_273_77, n77, g_273_78, n78, g_273_79, n79, g_273_80, n80, g_273_81, n81, g_273_82, n82, fr_273⟩⟩
  · have k_272 : cL h_272 := F_272.1.trans hl
    have fr_272 := hfr_cb (hfr_refl [66, 77, 78, 79, 80, 81, 82] h) F_272 rfl
    have g_272_66 := (hfr_g F_272 66 rfl).trans h66
    have g_272_67 := (hfr_g F_272 67 rfl).trans h67
    have g_272_68 := (hfr_g F_272 68 rfl).trans h68
    have g_272_69 := (hfr_g F_272 69 rfl).trans h69
    have g_272_77 := (hfr_g F_272 77 rfl).trans h77
    have g_272_78 := (hfr_g F_272 78 rfl).trans h78
    have g_272_79 := (hfr_g F_272 79 rfl).trans h79
    have g_272_80 := (hfr_g F_272 80 rfl).trans h80
    have g_272_70 := (hfr_g F_272 70 rfl).trans h70
    have g_272_81 := (hfr_g F_272 81 rfl).trans h81
    have g_272_82 := (hfr_g F_272 82 rfl).trans h82
    refine ik_Wk 0 (pc_q := 7) (loc_q := [some (fI 0)]) (st_q := [fI 0]) (h_q := h_272) (cl_q := 0) (sl_q := 0) rfl ?_
    refine ik_Wret rfl rfl ⟨_, _, rfl, rfl, ?_⟩
    refine ik_Wk 0 (pc_q := 4) (loc_q := [some (.ref 66), some (fI 0), some (fI what), none, none, none, none, none, none]) (st_q := [fI 0]) (h_q := h_272) (cl_q := 0) (sl_q := 0) rfl ?_
    refine fw_if_ne rfl rfl (by decide +kernel) (by decide +kernel) (fun hc7 => ?_) (fun hc7 => absurd hc7 (by decide +kernel))
    refine fw_ld (-1000000001) rfl rfl (by decide +kernel) ?_
    exact ik_Wret rfl rfl ⟨_, _, rfl, rfl, rfl, rfl, ⟨(f 24), gt, gd, xs, ys, r1, r2, (congrArg (fun z => [fI z]) (by unfold an_mo; (repeat' split) <;> first | rfl | omega)), g_272_66, g_272_77, n77, g_272_78, n78, g_272_79, n79, g_272_80, n80, g_272_81, n81, g_272_82, n82, fr_272⟩⟩

theorem rp_most1L {h : List ik_E} {pl : Int} {f : Nat → Int} {s : Nat} {cn : List Int} {go : List Int} {ch : List Int} {gt : List Int} {gd : List Int} {xs : List Int} {ys : List Int} {ka : Int} {pa : Int} {fa : Int} {kb : Int} {pb : Int} {fb : Int} {r1 : List Int} {r2 : List Int} {what : Int} (q0 : 0 ≤ pl ∧ pl ≤ 12) (q1 : s < 4096) (q2 : ∀ x : Int, (0 : Int) ≤ x → x < pl - 1 → 0 ≤ cn.getD x.toNat 0 ∧ cn.getD x.toNat 0 ≤ 4) (q3 : ∀ x : Int, (0 : Int) ≤ x → x < pl - 1 → 1 ≤ cn.getD x.toNat 0 ∧ ∀ j : Int, 4 * x ≤ j → j < 4 * x + cn.getD x.toNat 0 → 0 ≤ ch.getD j.toNat 0 ∧ ch.getD j.toNat 0 ≤ 100) (q4 : ∀ x : Int, (0 : Int) ≤ x → x < pl - 1 → mx_ok pl (mx_w cn go ch s x)) (q5 : (0 : Int) ≤ ka ∧ ka ≤ (2 : Int)) (q6 : (0 : Int) ≤ kb ∧ kb ≤ (2 : Int)) (q7 : (1 : Int) < pl → (0 : Int) ≤ pa ∧ pa < pl - 1) (q8 : (1 : Int) < pl → (0 : Int) ≤ pb ∧ pb < pl - 1) (q9 : (0 : Int) ≤ fa ∧ fa ≤ (30 : Int)) (q10 : (0 : Int) ≤ fb ∧ fb ≤ (30 : Int)) (q11 : mx_rw pl cn go ch) (q12 : (-2147483648 : Int) ≤ what ∧ what < (2147483648 : Int)) {nw : Int} (hpl : (1 : Int) < pl) (hw : (0 : Int) ≤ what ∧ what ≤ (1 : Int)) (hnw : nw = mk_lw cn go ch s pl ka pa fa kb pb fb 1) (hnb : (0 : Int) ≤ nw ∧ nw ≤ (1000000 : Int)) : ∀ (k : Nat) (p : Int) (b : Int) (y : Int) (w1 : Int) (g1 : List Int) (d1 : List Int) (x1 : List Int) (y1 : List Int) (s1 : List Int) (s2 : List Int) (x7 : Option Value) (x8 : Option Value) (u : List ik_E) (u66 : cE u 66 (.inr (10, (fI pl :: .ref 67 :: .ref 68 :: .ref 69 :: fI ((s : Nat) : Int) :: .ref 70 :: .ref 71 :: fI (f 7) :: fI (f 8) :: .ref 72 :: fI (f 10) :: fI (f 11) :: fI (f 12) :: fJ (f 13) :: fI (f 14) :: fI (f 15) :: fI (f 16) :: fI (f 17) :: .ref 73 :: .ref 74 :: .ref 75 :: .ref 76 :: .ref 77 :: .ref 78 :: fI w1 :: .ref 79 :: .ref 80 :: .ref 81 :: .ref 82 :: .ref 83 :: .ref 84 :: .ref 85 :: fJ (f 32) :: fJ (f 33) :: .ref 86 :: .ref 87 :: fI (f 36) :: .ref 88 :: .ref 89 :: .ref 90 :: .ref 91 :: .ref 92 :: .ref 93 :: [])))) (u67 : cE u 67 (.inl (.int, fA cn))) (n67 : cn.length = (12 : Nat)) (u68 : cE u 68 (.inl (.int, fA go))) (n68 : go.length = (48 : Nat)) (u69 : cE u 69 (.inl (.int, fA ch))) (n69 : ch.length = (48 : Nat)) (u77 : cE u 77 (.inl (.int, fA g1))) (n77 : g1.length = (5 : Nat)) (u78 : cE u 78 (.inl (.int, fA d1))) (n78 : d1.length = (5 : Nat)) (u79 : cE u 79 (.inl (.long, fL x1))) (n79 : x1.length = (12 : Nat)) (u80 : cE u 80 (.inl (.long, fL y1))) (n80 : y1.length = (12 : Nat)) (u70 : cE u 70 (.inl (.int, fA [ka, pa, fa, kb, pb, fb]))) (u81 : cE u 81 (.inl (.long, fL s1))) (n81 : s1.length = (201 : Nat)) (u82 : cE u 82 (.inl (.long, fL s2))) (n82 : s2.length = (201 : Nat)) (ul : u.length = (94 : Nat)) (F : hfr [66, 77, 78, 79, 80, 81, 82] h u) (hp : (0 : Int) ≤ p ∧ p ≤ pl - 1) (hb : (b = -1 ∧ p = 0) ∨ ((0 : Int) ≤ b ∧ b < (12 : Int) ∧ (0 : Int) < p)) (hyb : (-1000000 : Int) ≤ y ∧ y ≤ (1000000 : Int)) (he : (mk_mo (mk_vm cn go ch s pl ka pa fa kb pb fb 1) (pl - 1).toNat 0 (-1) 0) = mk_mo (mk_vm cn go ch s pl ka pa fa kb pb fb 1) (pl - 1 - p).toNat p b y) (w7 : ik_wl 94 x7 = true) (w8 : ik_wl 94 x8 = true) (hk : pl - p < (k : Int)), ik_G 182 48 [some (.ref 66), some (fI 1), some (fI what), some (fI nw), some (fI b), some (fI y), some (fI p), x7, x8] [] u (fun rv h_q => ∃ (w' : Int) (gt' : List Int) (gd' : List Int) (xs' : List Int) (ys' : List Int) (r1' : List Int) (r2' : List Int), rv = [fI (an_mo what pl (if what = 0 then (mk_mo (mk_vm cn go ch s pl ka pa fa kb pb fb 1) (pl - 1).toNat 0 (-1) 0).1 else (mk_mo (mk_vm cn go ch s pl ka pa fa kb pb fb 1) (pl - 1).toNat 0 (-1) 0).2))] ∧ cE h_q 66 (.inr (10, (fI pl :: .ref 67 :: .ref 68 :: .ref 69 :: fI ((s : Nat) : Int) :: .ref 70 :: .ref 71 :: fI (f 7) :: fI (f 8) :: .ref 72 :: fI (f 10) :: fI (f 11) :: fI (f 12) :: fJ (f 13) :: fI (f 14) :: fI (f 15) :: fI (f 16) :: fI (f 17) :: .ref 73 :: .ref 74 :: .ref 75 :: .ref 76 :: .ref 77 :: .ref 78 :: fI w' :: .ref 79 :: .ref 80 :: .ref 81 :: .ref 82 :: .ref 83 :: .ref 84 :: .ref 85 :: fJ (f 32) :: fJ (f 33) :: .ref 86 :: .ref 87 :: fI (f 36) :: .ref 88 :: .ref 89 :: .ref 90 :: .ref 91 :: .ref 92 :: .ref 93 :: []))) ∧ cE h_q 77 (.inl (.int, fA gt')) ∧ gt'.length = (5 : Nat) ∧ cE h_q 78 (.inl (.int, fA gd')) ∧ gd'.length = (5 : Nat) ∧ cE h_q 79 (.inl (.long, fL xs')) ∧ xs'.length = (12 : Nat) ∧ cE h_q 80 (.inl (.long, fL ys')) ∧ ys'.length = (12 : Nat) ∧ cE h_q 81 (.inl (.long, fL r1')) ∧ r1'.length = (201 : Nat) ∧ cE h_q 82 (.inl (.long, fL r2')) ∧ r2'.length = (201 : Nat) ∧ hfr [66, 77, 78, 79, 80, 81, 82] h h_q) := by
  intro k
  induction k with
  | zero => intro p b y w1 g1 d1 x1 y1 s1 s2 x7 x8 u u66 u67 n67 u68 n68 u69 n69 u77 n77 u78 n78 u79 n79 u80 n80 u70 u81 n81 u82 n82 ul F hp hb hyb he w7 w8 hk; omega
  | succ k ih =>
    intro p b y w1 g1 d1 x1 y1 s1 s2 x7 x8 u u66 u67 n67 u68 n68 u69 n69 u77 n77 u78 n78 u79 n79 u80 n80 u70 u81 n81 u82 n82 ul F hp hb hyb he w7 w8 hk
    refine ik_Wk 2 (pc_q := 51) (loc_q := [some (.ref 66), some (fI 1), some (fI what), some (fI nw), some (fI b), some (fI y), some (fI p), x7, x8]) (st_q := [.ref 66, fI p]) (h_q := u) (cl_q := 0) (sl_q := 0) rfl ?_
    refine fw_gf rfl rfl u66 rfl ?_
    refine ik_Wk 1 (pc_q := 55) (loc_q := [some (.ref 66), some (fI 1), some (fI what), some (fI nw), some (fI b), some (fI y), some (fI p), x7, x8]) (st_q := [fI 1, fI pl, fI p]) (h_q := u) (cl_q := 0) (sl_q := 0) rfl ?_
    refine fw_sub rfl ?_
    refine fw_ic_ge rfl rfl (by omega) (by omega) (by omega) (by omega) (fun hc1 => ?_) (fun hc1 => ?_)
    · refine ik_Wk 1 (pc_q := 157) (loc_q := [some (.ref 66), some (fI 1), some (fI what), some (fI nw), some (fI b), some (fI y), some (fI p), x7, x8]) (st_q := [fI what]) (h_q := u) (cl_q := 0) (sl_q := 0) rfl ?_
      refine fw_if_ne rfl rfl (by omega) (by omega) (fun hc2 => ?_) (fun hc2 => ?_)
      · refine ik_Wk 2 (pc_q := 167) (loc_q := [some (.ref 66), some (fI 1), some (fI what), some (fI nw), some (fI b), some (fI y), some (fI p), x7, x8]) (st_q := [fI b]) (h_q := u) (cl_q := 0) (sl_q := 0) rfl ?_
        have e0 : (pl - 1 - p).toNat = 0 := by omega
        rw [e0] at he
        have e1 : (mk_mo (mk_vm cn go ch s pl ka pa fa kb pb fb 1) (pl - 1).toNat 0 (-1) 0).1 = b := by rw [he]; rfl
        have e2 : (mk_mo (mk_vm cn go ch s pl ka pa fa kb pb fb 1) (pl - 1).toNat 0 (-1) 0).2 = y := by rw [he]; rfl
        exact ik_Wret rfl rfl ⟨_, _, rfl, rfl, rfl, rfl, ⟨w1, g1, d1, x1, y1, s1, s2, (congrArg (fun z => [fI z]) (by rw [e1, e2]; unfold an_mo; (repeat' split) <;> first | rfl | omega)), u66, u77, n77, u78, n78, u79, n79, u80, n80, u81, n81, u82, n82, F⟩⟩
      · refine ik_Wk 1 (pc_q := 167) (loc_q := [some (.ref 66), some (fI 1), some (fI what), some (fI nw), some (fI b), some (fI y), some (fI p), x7, x8]) (st_q := [fI y]) (h_q := u) (cl_q := 0) (sl_q := 0) rfl ?_
        have e0 : (pl - 1 - p).toNat = 0 := by omega
        rw [e0] at he
        have e1 : (mk_mo (mk_vm cn go ch s pl ka pa fa kb pb fb 1) (pl - 1).toNat 0 (-1) 0).1 = b := by rw [he]; rfl
        have e2 : (mk_mo (mk_vm cn go ch s pl ka pa fa kb pb fb 1) (pl - 1).toNat 0 (-1) 0).2 = y := by rw [he]; rfl
        exact ik_Wret rfl rfl ⟨_, _, rfl, rfl, rfl, rfl, ⟨w1, g1, d1, x1, y1, s1, s2, (congrArg (fun z => [fI z]) (by rw [e1, e2]; unfold an_mo; (repeat' split) <;> first | rfl | omega)), u66, u77, n77, u78, n78, u79, n79, u80, n80, u81, n81, u82, n82, F⟩⟩
    · refine ik_Wk 2 (pc_q := 61) (loc_q := [some (.ref 66), some (fI 1), some (fI what), some (fI nw), some (fI b), some (fI y), some (fI p), x7, x8]) (st_q := [.ref 66, .ref 66]) (h_q := u) (cl_q := 0) (sl_q := 0) rfl ?_
      refine fw_gf rfl rfl u66 rfl ?_
      refine ik_Wk 2 (pc_q := 67) (loc_q := [some (.ref 66), some (fI 1), some (fI what), some (fI nw), some (fI b), some (fI y), some (fI p), x7, x8]) (st_q := [fI p, fI 1, fI ((s : Nat) : Int), .ref 66]) (h_q := u) (cl_q := 0) (sl_q := 0) rfl ?_
      refine fx_shl rfl (by omega) (by omega) ?_
      refine fx_xor (m := s) (n := 1 <<< p.toNat) rfl ?_
      refine fx_pf rfl rfl u66 (Nat.le_of_ble_eq_true rfl) rfl rfl ?_
      intro h_275 e_275 f_275 l_275
      have k_275 : cL h_275 := l_275.trans ul
      have fr_275 := hfr_wb F f_275 l_275 rfl
      clear l_275
      have g_275_67 := (f_275 67 (Nat.ne_of_beq_eq_false rfl)).trans u67
      have g_275_68 := (f_275 68 (Nat.ne_of_beq_eq_false rfl)).trans u68
      have g_275_69 := (f_275 69 (Nat.ne_of_beq_eq_false rfl)).trans u69
      have g_275_77 := (f_275 77 (Nat.ne_of_beq_eq_false rfl)).trans u77
      have g_275_78 := (f_275 78 (Nat.ne_of_beq_eq_false rfl)).trans u78
      have g_275_79 := (f_275 79 (Nat.ne_of_beq_eq_false rfl)).trans u79
      have g_275_80 := (f_275 80 (Nat.ne_of_beq_eq_false rfl)).trans u80
      have g_275_70 := (f_275 70 (Nat.ne_of_beq_eq_false rfl)).trans u70
      have g_275_81 := (f_275 81 (Nat.ne_of_beq_eq_false rfl)).trans u81
      have g_275_82 := (f_275 82 (Nat.ne_of_beq_eq_false rfl)).trans u82
      have g_275_66 : cE h_275 66 (.inr (10, (fI pl :: .ref 67 :: .ref 68 :: .ref 69 :: fI ((s ^^^ (1 <<< p.toNat) : Nat) : Int) :: .ref 70 :: .ref 71 :: fI (f 7) :: fI (f 8) :: .ref 72 :: fI (f 10) :: fI (f 11) :: fI (f 12) :: fJ (f 13) :: fI (f 14) :: fI (f 15) :: fI (f 16) :: fI (f 17) :: .ref 73 :: .ref 74 :: .ref 75 :: .ref 76 :: .ref 77 :: .ref 78 :: fI w1 :: .ref 79 :: .ref 80 :: .ref 81 :: .ref 82 :: .ref 83 :: .ref 84 :: .ref 85 :: fJ (f 32) :: fJ (f 33) :: .ref 86 :: .ref 87 :: fI (f 36) :: .ref 88 :: .ref 89 :: .ref 90 :: .ref 91 :: .ref 92 :: .ref 93 :: []))) := e_275
      refine ik_Wk 2 (pc_q := 74) (loc_q := [some (.ref 66), some (fI 1), some (fI what), some (fI nw), some (fI b), some (fI y), some (fI p), x7, x8]) (st_q := [fI 1, .ref 66]) (h_q := h_275) (cl_q := 0) (sl_q := 0) rfl ?_
      refine fw_call 169 2 0 [.ref 66, fI 1] [] rfl rfl rfl (Nat.le_of_ble_eq_true rfl) rfl rfl (fw_rec k_275 (fw_ftx rfl wv_n (wl_c rfl (wl_c rfl (wl_c rfl (wl_c rfl (wl_c rfl (wl_c rfl (wl_c rfl (wl_c w7 (wl_c w8 wl_n)))))))))) g_275_66 rfl (by decide +kernel)) (cr_laterOf (pl := pl) (f := fun j => ((0 :: 0 :: 0 :: 0 :: 0 :: 0 :: 0 :: f 7 :: f 8 :: 0 :: f 10 :: f 11 :: f 12 :: f 13 :: f 14 :: f 15 :: f 16 :: f 17 :: 0 :: 0 :: 0 :: 0 :: 0 :: 0 :: w1 :: 0 :: 0 :: 0 :: 0 :: 0 :: 0 :: 0 :: f 32 :: f 33 :: 0 :: 0 :: f 36 :: 0 :: 0 :: 0 :: 0 :: 0 :: 0 :: []) : List Int).getD j 0) (s := s ^^^ (1 <<< p.toNat)) (cn := cn) (go := go) (ch := ch) (gt := g1) (gd := d1) (xs := x1) (ys := y1) (ka := ka) (pa := pa) (fa := fa) (kb := kb) (pb := pb) (fb := fb) (r1 := s1) (r2 := s2) (wh := 1) (by omega) (mx_xor_lt q1 (by omega)) q2 q3 (mx_rw_ok q11 _) q5 q6 (q7 hpl) (q8 hpl) q9 q10 (by omega) g_275_66 g_275_67 n67 g_275_68 n68 g_275_69 n69 g_275_77 n77 g_275_78 n78 g_275_79 n79 g_275_80 n80 g_275_70 g_275_81 n81 g_275_82 n82 k_275) ?_
      rintro _ h_276 ⟨w'_276, gt'_276, gd'_276, xs'_276, ys'_276, r1'_276, r2'_276, rfl, e_276_66, e_276_77, m_276_77, e_276_78, m_276_78, e_276_79, m_276_79, e_276_80, m_276_80, e_276_81, m_276_81, e_276_82, m_276_82, F_276⟩
      have k_276 : cL h_276 := F_276.1.trans k_275
      have fr_276 := hfr_cb fr_275 F_276 rfl
      have g_276_67 := (hfr_g F_276 67 rfl).trans g_275_67
      have g_276_68 := (hfr_g F_276 68 rfl).trans g_275_68
      have g_276_69 := (hfr_g F_276 69 rfl).trans g_275_69
      have g_276_70 := (hfr_g F_276 70 rfl).trans g_275_70
      have g_276_66 : cE h_276 66 (.inr (10, (fI pl :: .ref 67 :: .ref 68 :: .ref 69 :: (fI (((s ^^^ (1 <<< p.toNat)) : Nat) : Int)) :: .ref 70 :: .ref 71 :: fI (f 7) :: fI (f 8) :: .ref 72 :: fI (f 10) :: fI (f 11) :: fI (f 12) :: fJ (f 13) :: fI (f 14) :: fI (f 15) :: fI (f 16) :: fI (f 17) :: .ref 73 :: .ref 74 :: .ref 75 :: .ref 76 :: .ref 77 :: .ref 78 :: fI w'_276 :: .ref 79 :: .ref 80 :: .ref 81 :: .ref 82 :: .ref 83 :: .ref 84 :: .ref 85 :: fJ (f 32) :: fJ (f 33) :: .ref 86 :: .ref 87 :: fI (f 36) :: .ref 88 :: .ref 89 :: .ref 90 :: .ref 91 :: .ref 92 :: .ref 93 :: []))) := e_276_66
      have g_276_77 : cE h_276 77 (.inl (.int, fA gt'_276)) := e_276_77
      have g_276_78 : cE h_276 78 (.inl (.int, fA gd'_276)) := e_276_78
      have g_276_79 : cE h_276 79 (.inl (.long, fL xs'_276)) := e_276_79
      have g_276_80 : cE h_276 80 (.inl (.long, fL ys'_276)) := e_276_80
      have g_276_81 : cE h_276 81 (.inl (.long, fL r1'_276)) := e_276_81
      have g_276_82 : cE h_276 82 (.inl (.long, fL r2'_276)) := e_276_82
      refine ik_Wk 0 (pc_q := 77) (loc_q := [some (.ref 66), some (fI 1), some (fI what), some (fI nw), some (fI b), some (fI y), some (fI p), x7, x8]) (st_q := [fI (mr_w (mf_cm (fun x => mx_w cn go ch (s ^^^ (1 <<< p.toNat)) x) (pl - 1) ka pa) fa (mf_cm (fun x => mx_w cn go ch (s ^^^ (1 <<< p.toNat)) x) (pl - 1) kb pb) fb 1)]) (h_q := h_276) (cl_q := 0) (sl_q := 0) rfl ?_
      have ka_276 := mr_ok_cm (W := (fun x => mx_w cn go ch (s ^^^ 1 <<< p.toNat) x)) (k := ka) (mx_rw_ok q11 _) (q7 hpl)
      have kb_276 := mr_ok_cm (W := (fun x => mx_w cn go ch (s ^^^ 1 <<< p.toNat) x)) (k := kb) (mx_rw_ok q11 _) (q8 hpl)
      have wb_276 := mr_w_b ka_276 kb_276 (show 0 ≤ fa by omega) (show 0 ≤ fb by omega) 1
      have ev : (mk_vm cn go ch s pl ka pa fa kb pb fb 1) p = mr_w (mf_cm (fun x => mx_w cn go ch (s ^^^ 1 <<< p.toNat) x) (pl - 1) ka pa) fa (mf_cm (fun x => mx_w cn go ch (s ^^^ 1 <<< p.toNat) x) (pl - 1) kb pb) fb 1 - nw := by rw [hnw]; rfl
      refine ik_Wk 1 (pc_q := 78) (loc_q := [some (.ref 66), some (fI 1), some (fI what), some (fI nw), some (fI b), some (fI y), some (fI p), x7, x8]) (st_q := [fI nw, fI (mr_w (mf_cm (fun x => mx_w cn go ch (s ^^^ (1 <<< p.toNat)) x) (pl - 1) ka pa) fa (mf_cm (fun x => mx_w cn go ch (s ^^^ (1 <<< p.toNat)) x) (pl - 1) kb pb) fb 1)]) (h_q := h_276) (cl_q := 0) (sl_q := 0) rfl ?_
      refine fw_sub rfl ?_
      refine ik_Wk 3 (pc_q := 83) (loc_q := [some (.ref 66), some (fI 1), some (fI what), some (fI nw), some (fI b), some (fI y), some (fI p), some (fI ((mr_w (mf_cm (fun x => mx_w cn go ch (s ^^^ (1 <<< p.toNat)) x) (pl - 1) ka pa) fa (mf_cm (fun x => mx_w cn go ch (s ^^^ (1 <<< p.toNat)) x) (pl - 1) kb pb) fb 1) - nw)), x8]) (st_q := [.ref 66, .ref 66]) (h_q := h_276) (cl_q := 0) (sl_q := 0) rfl ?_
      refine fw_gf rfl rfl g_276_66 rfl ?_
      refine ik_Wk 2 (pc_q := 89) (loc_q := [some (.ref 66), some (fI 1), some (fI what), some (fI nw), some (fI b), some (fI y), some (fI p), some (fI ((mr_w (mf_cm (fun x => mx_w cn go ch (s ^^^ (1 <<< p.toNat)) x) (pl - 1) ka pa) fa (mf_cm (fun x => mx_w cn go ch (s ^^^ (1 <<< p.toNat)) x) (pl - 1) kb pb) fb 1) - nw)), x8]) (st_q := [fI p, fI 1, fI (((s ^^^ (1 <<< p.toNat)) : Nat) : Int), .ref 66]) (h_q := h_276) (cl_q := 0) (sl_q := 0) rfl ?_
      refine fx_shl rfl (by omega) (by omega) ?_
      refine fx_xor (m := (s ^^^ (1 <<< p.toNat))) (n := 1 <<< p.toNat) rfl ?_
      refine fx_pf rfl rfl g_276_66 (Nat.le_of_ble_eq_true rfl) rfl rfl ?_
      intro h_277 e_277 f_277 l_277
      have k_277 : cL h_277 := l_277.trans k_276
      have fr_277 := hfr_wb fr_276 f_277 l_277 rfl
      clear l_277
      have g_277_67 := (f_277 67 (Nat.ne_of_beq_eq_false rfl)).trans g_276_67
      have g_277_68 := (f_277 68 (Nat.ne_of_beq_eq_false rfl)).trans g_276_68
      have g_277_69 := (f_277 69 (Nat.ne_of_beq_eq_false rfl)).trans g_276_69
      have g_277_77 := (f_277 77 (Nat.ne_of_beq_eq_false rfl)).trans g_276_77
      have g_277_78 := (f_277 78 (Nat.ne_of_beq_eq_false rfl)).trans g_276_78
      have g_277_79 := (f_277 79 (Nat.ne_of_beq_eq_false rfl)).trans g_276_79
      have g_277_80 := (f_277 80 (Nat.ne_of_beq_eq_false rfl)).trans g_276_80
      have g_277_70 := (f_277 70 (Nat.ne_of_beq_eq_false rfl)).trans g_276_70
      have g_277_81 := (f_277 81 (Nat.ne_of_beq_eq_false rfl)).trans g_276_81
      have g_277_82 := (f_277 82 (Nat.ne_of_beq_eq_false rfl)).trans g_276_82
      have g_277_66 : cE h_277 66 (.inr (10, (fI pl :: .ref 67 :: .ref 68 :: .ref 69 :: (fI (((s ^^^ (1 <<< p.toNat)) ^^^ (1 <<< p.toNat) : Nat) : Int)) :: .ref 70 :: .ref 71 :: fI (f 7) :: fI (f 8) :: .ref 72 :: fI (f 10) :: fI (f 11) :: fI (f 12) :: fJ (f 13) :: fI (f 14) :: fI (f 15) :: fI (f 16) :: fI (f 17) :: .ref 73 :: .ref 74 :: .ref 75 :: .ref 76 :: .ref 77 :: .ref 78 :: fI w'_276 :: .ref 79 :: .ref 80 :: .ref 81 :: .ref 82 :: .ref 83 :: .ref 84 :: .ref 85 :: fJ (f 32) :: fJ (f 33) :: .ref 86 :: .ref 87 :: fI (f 36) :: .ref 88 :: .ref 89 :: .ref 90 :: .ref 91 :: .ref 92 :: .ref 93 :: []))) := e_277
      refine ik_Wk 1 (pc_q := 96) (loc_q := [some (.ref 66), some (fI 1), some (fI what), some (fI nw), some (fI b), some (fI y), some (fI p), some (fI ((mr_w (mf_cm (fun x => mx_w cn go ch (s ^^^ (1 <<< p.toNat)) x) (pl - 1) ka pa) fa (mf_cm (fun x => mx_w cn go ch (s ^^^ (1 <<< p.toNat)) x) (pl - 1) kb pb) fb 1) - nw)), x8]) (st_q := [fI b]) (h_q := h_277) (cl_q := 0) (sl_q := 0) rfl ?_
      simp only [mx_xor2] at g_277_66
      refine fw_if_lt rfl rfl (by omega) (by omega) (fun hc3 => ?_) (fun hc3 => ?_)
      · refine ik_Wk 4 (pc_q := 124) (loc_q := [some (.ref 66), some (fI 1), some (fI what), some (fI nw), some (fI b), some (fI y), some (fI p), some (fI ((mr_w (mf_cm (fun x => mx_w cn go ch (s ^^^ (1 <<< p.toNat)) x) (pl - 1) ka pa) fa (mf_cm (fun x => mx_w cn go ch (s ^^^ (1 <<< p.toNat)) x) (pl - 1) kb pb) fb 1) - nw)), some (fI 1)]) (st_q := [fI 1]) (h_q := h_277) (cl_q := 0) (sl_q := 0) rfl ?_
        refine fw_if_eq rfl rfl (by decide +kernel) (by decide +kernel) (fun hc4 => absurd hc4 (by decide +kernel)) (fun hc4 => ?_)
        refine ik_Wk 4 (pc_q := 138) (loc_q := [some (.ref 66), some (fI 1), some (fI what), some (fI nw), some (fI p), some (fI y), some (fI p), some (fI ((mr_w (mf_cm (fun x => mx_w cn go ch (s ^^^ (1 <<< p.toNat)) x) (pl - 1) ka pa) fa (mf_cm (fun x => mx_w cn go ch (s ^^^ (1 <<< p.toNat)) x) (pl - 1) kb pb) fb 1) - nw)), some (fI 1)]) (st_q := [fI 1]) (h_q := h_277) (cl_q := 0) (sl_q := 0) rfl ?_
        refine fw_if_eq rfl rfl (by decide +kernel) (by decide +kernel) (fun hc5 => absurd hc5 (by decide +kernel)) (fun hc5 => ?_)
        refine ik_Wk 3 (pc_q := 150) (loc_q := [some (.ref 66), some (fI 1), some (fI what), some (fI nw), some (fI p), some (fI ((mr_w (mf_cm (fun x => mx_w cn go ch (s ^^^ (1 <<< p.toNat)) x) (pl - 1) ka pa) fa (mf_cm (fun x => mx_w cn go ch (s ^^^ (1 <<< p.toNat)) x) (pl - 1) kb pb) fb 1) - nw)), some (fI p), some (fI ((mr_w (mf_cm (fun x => mx_w cn go ch (s ^^^ (1 <<< p.toNat)) x) (pl - 1) ka pa) fa (mf_cm (fun x => mx_w cn go ch (s ^^^ (1 <<< p.toNat)) x) (pl - 1) kb pb) fb 1) - nw)), some (fI 1)]) (st_q := []) (h_q := h_277) (cl_q := 0) (sl_q := 0) rfl ?_
        refine fw_inc (a := p) (loc_q := [some (.ref 66), some (fI 1), some (fI what), some (fI nw), some (fI p), some (fI ((mr_w (mf_cm (fun x => mx_w cn go ch (s ^^^ (1 <<< p.toNat)) x) (pl - 1) ka pa) fa (mf_cm (fun x => mx_w cn go ch (s ^^^ (1 <<< p.toNat)) x) (pl - 1) kb pb) fb 1) - nw)), some (fI (p + 1)), some (fI ((mr_w (mf_cm (fun x => mx_w cn go ch (s ^^^ (1 <<< p.toNat)) x) (pl - 1) ka pa) fa (mf_cm (fun x => mx_w cn go ch (s ^^^ (1 <<< p.toNat)) x) (pl - 1) kb pb) fb 1) - nw)), some (fI 1)]) rfl rfl (Nat.le_of_ble_eq_true rfl) rfl ?_
        refine ik_Wk 1 (pc_q := 48) (loc_q := [some (.ref 66), some (fI 1), some (fI what), some (fI nw), some (fI p), some (fI ((mr_w (mf_cm (fun x => mx_w cn go ch (s ^^^ (1 <<< p.toNat)) x) (pl - 1) ka pa) fa (mf_cm (fun x => mx_w cn go ch (s ^^^ (1 <<< p.toNat)) x) (pl - 1) kb pb) fb 1) - nw)), some (fI (p + 1)), some (fI ((mr_w (mf_cm (fun x => mx_w cn go ch (s ^^^ (1 <<< p.toNat)) x) (pl - 1) ka pa) fa (mf_cm (fun x => mx_w cn go ch (s ^^^ (1 <<< p.toNat)) x) (pl - 1) kb pb) fb 1) - nw)), some (fI 1)]) (st_q := []) (h_q := h_277) (cl_q := 0) (sl_q := 0) rfl ?_
        exact ih  (p + 1) p ((mr_w (mf_cm (fun x => mx_w cn go ch (s ^^^ (1 <<< p.toNat)) x) (pl - 1) ka pa) fa (mf_cm (fun x => mx_w cn go ch (s ^^^ (1 <<< p.toNat)) x) (pl - 1) kb pb) fb 1) - nw) w'_276 gt'_276 gd'_276 xs'_276 ys'_276 r1'_276 r2'_276 (some (fI ((mr_w (mf_cm (fun x => mx_w cn go ch (s ^^^ (1 <<< p.toNat)) x) (pl - 1) ka pa) fa (mf_cm (fun x => mx_w cn go ch (s ^^^ (1 <<< p.toNat)) x) (pl - 1) kb pb) fb 1) - nw))) (some (fI 1)) h_277 g_277_66 g_277_67 n67 g_277_68 n68 g_277_69 n69 g_277_77 m_276_77 g_277_78 m_276_78 g_277_79 m_276_79 g_277_80 m_276_80 g_277_70 g_277_81 m_276_81 g_277_82 m_276_82 k_277 fr_277 (by omega) (by omega) (by omega) (by rw [he, show (pl - 1 - p).toNat = (pl - 1 - (p + 1)).toNat + 1 by omega]; show (if p = 0 ∨ mk_ab y < mk_ab ((mk_vm cn go ch s pl ka pa fa kb pb fb 1) p) then _ else _) = _; rw [ev, if_pos (by omega)]) rfl rfl (by omega)
      · refine ik_Wk 1 (pc_q := 101) (loc_q := [some (.ref 66), some (fI 1), some (fI what), some (fI nw), some (fI b), some (fI y), some (fI p), some (fI ((mr_w (mf_cm (fun x => mx_w cn go ch (s ^^^ (1 <<< p.toNat)) x) (pl - 1) ka pa) fa (mf_cm (fun x => mx_w cn go ch (s ^^^ (1 <<< p.toNat)) x) (pl - 1) kb pb) fb 1) - nw)), x8]) (st_q := [fI ((mr_w (mf_cm (fun x => mx_w cn go ch (s ^^^ (1 <<< p.toNat)) x) (pl - 1) ka pa) fa (mf_cm (fun x => mx_w cn go ch (s ^^^ (1 <<< p.toNat)) x) (pl - 1) kb pb) fb 1) - nw)]) (h_q := h_277) (cl_q := 0) (sl_q := 0) rfl ?_
        refine fw_i2l rfl (by omega) (by omega) ?_
        refine ik_Wc 163 1 3 [fJ ((mr_w (mf_cm (fun x => mx_w cn go ch (s ^^^ (1 <<< p.toNat)) x) (pl - 1) ka pa) fa (mf_cm (fun x => mx_w cn go ch (s ^^^ (1 <<< p.toNat)) x) (pl - 1) kb pb) fb 1) - nw)] [] rfl rfl rfl (by decide +kernel) rfl rfl (fw_sta k_277 (fw_ftx rfl wv_n (wl_c rfl (wl_c rfl (wl_c rfl (wl_c rfl (wl_c rfl (wl_c rfl (wl_c rfl (wl_c rfl (wl_c w8 wl_n)))))))))) (by decide +kernel)) ?_
        refine ik_Wk 0 (pc_q := 0) (loc_q := [some (fJ ((mr_w (mf_cm (fun x => mx_w cn go ch (s ^^^ (1 <<< p.toNat)) x) (pl - 1) ka pa) fa (mf_cm (fun x => mx_w cn go ch (s ^^^ (1 <<< p.toNat)) x) (pl - 1) kb pb) fb 1) - nw)), none]) (st_q := []) (h_q := h_277) (cl_q := 0) (sl_q := 0) rfl ?_
        refine ik_Wk 1 (pc_q := 1) (loc_q := [some (fJ ((mr_w (mf_cm (fun x => mx_w cn go ch (s ^^^ (1 <<< p.toNat)) x) (pl - 1) ka pa) fa (mf_cm (fun x => mx_w cn go ch (s ^^^ (1 <<< p.toNat)) x) (pl - 1) kb pb) fb 1) - nw)), none]) (st_q := [fJ ((mr_w (mf_cm (fun x => mx_w cn go ch (s ^^^ (1 <<< p.toNat)) x) (pl - 1) ka pa) fa (mf_cm (fun x => mx_w cn go ch (s ^^^ (1 <<< p.toNat)) x) (pl - 1) kb pb) fb 1) - nw)]) (h_q := h_277) (cl_q := 0) (sl_q := 0) rfl ?_
        refine fw_lc (z := 0) rfl (by decide +kernel) ?_
        refine fw_lcmp_ge rfl rfl rfl (by omega) (by omega) (by omega) (by omega) (fun hc6 => ?_) (fun hc6 => ?_)
        · refine ik_Wk 1 (pc_q := 12) (loc_q := [some (fJ ((mr_w (mf_cm (fun x => mx_w cn go ch (s ^^^ (1 <<< p.toNat)) x) (pl - 1) ka pa) fa (mf_cm (fun x => mx_w cn go ch (s ^^^ (1 <<< p.toNat)) x) (pl - 1) kb pb) fb 1) - nw)), none]) (st_q := [fJ ((mr_w (mf_cm (fun x => mx_w cn go ch (s ^^^ (1 <<< p.toNat)) x) (pl - 1) ka pa) fa (mf_cm (fun x => mx_w cn go ch (s ^^^ (1 <<< p.toNat)) x) (pl - 1) kb pb) fb 1) - nw)]) (h_q := h_277) (cl_q := 0) (sl_q := 0) rfl ?_
          refine ik_Wret rfl rfl ⟨_, _, rfl, rfl, ?_⟩
          refine ik_Wk 0 (pc_q := 105) (loc_q := [some (.ref 66), some (fI 1), some (fI what), some (fI nw), some (fI b), some (fI y), some (fI p), some (fI ((mr_w (mf_cm (fun x => mx_w cn go ch (s ^^^ (1 <<< p.toNat)) x) (pl - 1) ka pa) fa (mf_cm (fun x => mx_w cn go ch (s ^^^ (1 <<< p.toNat)) x) (pl - 1) kb pb) fb 1) - nw)), x8]) (st_q := [fJ ((mr_w (mf_cm (fun x => mx_w cn go ch (s ^^^ (1 <<< p.toNat)) x) (pl - 1) ka pa) fa (mf_cm (fun x => mx_w cn go ch (s ^^^ (1 <<< p.toNat)) x) (pl - 1) kb pb) fb 1) - nw)]) (h_q := h_277) (cl_q := 0) (sl_q := 0) rfl ?_
          refine ik_Wk 1 (pc_q := 107) (loc_q := [some (.ref 66), some (fI 1), some (fI what), some (fI nw), some (fI b), some (fI y), some (fI p), some (fI ((mr_w (mf_cm (fun x => mx_w cn go ch (s ^^^ (1 <<< p.toNat)) x) (pl - 1) ka pa) fa (mf_cm (fun x => mx_w cn go ch (s ^^^ (1 <<< p.toNat)) x) (pl - 1) kb pb) fb 1) - nw)), x8]) (st_q := [fI y, fJ ((mr_w (mf_cm (fun x => mx_w cn go ch (s ^^^ (1 <<< p.toNat)) x) (pl - 1) ka pa) fa (mf_cm (fun x => mx_w cn go ch (s ^^^ (1 <<< p.toNat)) x) (pl - 1) kb pb) fb 1) - nw)]) (h_q := h_277) (cl_q := 0) (sl_q := 0) rfl ?_
          refine fw_i2l rfl (by omega) (by omega) ?_
          refine ik_Wc 163 1 3 [fJ y] [fJ ((mr_w (mf_cm (fun x => mx_w cn go ch (s ^^^ (1 <<< p.toNat)) x) (pl - 1) ka pa) fa (mf_cm (fun x => mx_w cn go ch (s ^^^ (1 <<< p.toNat)) x) (pl - 1) kb pb) fb 1) - nw)] rfl rfl rfl (by decide +kernel) rfl rfl (fw_sta k_277 (fw_ftx rfl (wv_c rfl wv_n) (wl_c rfl (wl_c rfl (wl_c rfl (wl_c rfl (wl_c rfl (wl_c rfl (wl_c rfl (wl_c rfl (wl_c w8 wl_n)))))))))) (by decide +kernel)) ?_
          refine ik_Wk 0 (pc_q := 0) (loc_q := [some (fJ y), none]) (st_q := []) (h_q := h_277) (cl_q := 0) (sl_q := 0) rfl ?_
          refine ik_Wk 1 (pc_q := 1) (loc_q := [some (fJ y), none]) (st_q := [fJ y]) (h_q := h_277) (cl_q := 0) (sl_q := 0) rfl ?_
          refine fw_lc (z := 0) rfl (by decide +kernel) ?_
          refine fw_lcmp_ge rfl rfl rfl (by omega) (by omega) (by omega) (by omega) (fun hc7 => ?_) (fun hc7 => ?_)
          · refine ik_Wk 1 (pc_q := 12) (loc_q := [some (fJ y), none]) (st_q := [fJ y]) (h_q := h_277) (cl_q := 0) (sl_q := 0) rfl ?_
            refine ik_Wret rfl rfl ⟨_, _, rfl, rfl, ?_⟩
            refine ik_Wk 0 (pc_q := 111) (loc_q := [some (.ref 66), some (fI 1), some (fI what), some (fI nw), some (fI b), some (fI y), some (fI p), some (fI ((mr_w (mf_cm (fun x => mx_w cn go ch (s ^^^ (1 <<< p.toNat)) x) (pl - 1) ka pa) fa (mf_cm (fun x => mx_w cn go ch (s ^^^ (1 <<< p.toNat)) x) (pl - 1) kb pb) fb 1) - nw)), x8]) (st_q := [fJ y, fJ ((mr_w (mf_cm (fun x => mx_w cn go ch (s ^^^ (1 <<< p.toNat)) x) (pl - 1) ka pa) fa (mf_cm (fun x => mx_w cn go ch (s ^^^ (1 <<< p.toNat)) x) (pl - 1) kb pb) fb 1) - nw)]) (h_q := h_277) (cl_q := 0) (sl_q := 0) rfl ?_
            have ab0 : mk_ab y = y := by unfold mk_ab; split <;> omega
            have ab1 : mk_ab (mr_w (mf_cm (fun x => mx_w cn go ch (s ^^^ 1 <<< p.toNat) x) (pl - 1) ka pa) fa (mf_cm (fun x => mx_w cn go ch (s ^^^ 1 <<< p.toNat) x) (pl - 1) kb pb) fb 1 - nw) = (mr_w (mf_cm (fun x => mx_w cn go ch (s ^^^ (1 <<< p.toNat)) x) (pl - 1) ka pa) fa (mf_cm (fun x => mx_w cn go ch (s ^^^ (1 <<< p.toNat)) x) (pl - 1) kb pb) fb 1) - nw := by unfold mk_ab; split <;> omega
            refine fw_lcmp_le rfl rfl rfl (by omega) (by omega) (by omega) (by omega) (fun hc8 => ?_) (fun hc8 => ?_)
            · refine ik_Wk 3 (pc_q := 124) (loc_q := [some (.ref 66), some (fI 1), some (fI what), some (fI nw), some (fI b), some (fI y), some (fI p), some (fI ((mr_w (mf_cm (fun x => mx_w cn go ch (s ^^^ (1 <<< p.toNat)) x) (pl - 1) ka pa) fa (mf_cm (fun x => mx_w cn go ch (s ^^^ (1 <<< p.toNat)) x) (pl - 1) kb pb) fb 1) - nw)), some (fI 0)]) (st_q := [fI 0]) (h_q := h_277) (cl_q := 0) (sl_q := 0) rfl ?_
              refine fw_if_eq rfl rfl (by decide +kernel) (by decide +kernel) (fun hc9 => ?_) (fun hc9 => absurd hc9 (by decide +kernel))
              refine ik_Wk 3 (pc_q := 138) (loc_q := [some (.ref 66), some (fI 1), some (fI what), some (fI nw), some (fI b), some (fI y), some (fI p), some (fI ((mr_w (mf_cm (fun x => mx_w cn go ch (s ^^^ (1 <<< p.toNat)) x) (pl - 1) ka pa) fa (mf_cm (fun x => mx_w cn go ch (s ^^^ (1 <<< p.toNat)) x) (pl - 1) kb pb) fb 1) - nw)), some (fI 0)]) (st_q := [fI 0]) (h_q := h_277) (cl_q := 0) (sl_q := 0) rfl ?_
              refine fw_if_eq rfl rfl (by decide +kernel) (by decide +kernel) (fun hc10 => ?_) (fun hc10 => absurd hc10 (by decide +kernel))
              refine ik_Wk 2 (pc_q := 150) (loc_q := [some (.ref 66), some (fI 1), some (fI what), some (fI nw), some (fI b), some (fI y), some (fI p), some (fI ((mr_w (mf_cm (fun x => mx_w cn go ch (s ^^^ (1 <<< p.toNat)) x) (pl - 1) ka pa) fa (mf_cm (fun x => mx_w cn go ch (s ^^^ (1 <<< p.toNat)) x) (pl - 1) kb pb) fb 1) - nw)), some (fI 0)]) (st_q := []) (h_q := h_277) (cl_q := 0) (sl_q := 0) rfl ?_
              refine fw_inc (a := p) (loc_q := [some (.ref 66), some (fI 1), some (fI what), some (fI nw), some (fI b), some (fI y), some (fI (p + 1)), some (fI ((mr_w (mf_cm (fun x => mx_w cn go ch (s ^^^ (1 <<< p.toNat)) x) (pl - 1) ka pa) fa (mf_cm (fun x => mx_w cn go ch (s ^^^ (1 <<< p.toNat)) x) (pl - 1) kb pb) fb 1) - nw)), some (fI 0)]) rfl rfl (Nat.le_of_ble_eq_true rfl) rfl ?_
              refine ik_Wk 1 (pc_q := 48) (loc_q := [some (.ref 66), some (fI 1), some (fI what), some (fI nw), some (fI b), some (fI y), some (fI (p + 1)), some (fI ((mr_w (mf_cm (fun x => mx_w cn go ch (s ^^^ (1 <<< p.toNat)) x) (pl - 1) ka pa) fa (mf_cm (fun x => mx_w cn go ch (s ^^^ (1 <<< p.toNat)) x) (pl - 1) kb pb) fb 1) - nw)), some (fI 0)]) (st_q := []) (h_q := h_277) (cl_q := 0) (sl_q := 0) rfl ?_
              exact ih  (p + 1) b y w'_276 gt'_276 gd'_276 xs'_276 ys'_276 r1'_276 r2'_276 (some (fI ((mr_w (mf_cm (fun x => mx_w cn go ch (s ^^^ (1 <<< p.toNat)) x) (pl - 1) ka pa) fa (mf_cm (fun x => mx_w cn go ch (s ^^^ (1 <<< p.toNat)) x) (pl - 1) kb pb) fb 1) - nw))) (some (fI 0)) h_277 g_277_66 g_277_67 n67 g_277_68 n68 g_277_69 n69 g_277_77 m_276_77 g_277_78 m_276_78 g_277_79 m_276_79 g_277_80 m_276_80 g_277_70 g_277_81 m_276_81 g_277_82 m_276_82 k_277 fr_277 (by omega) (by omega) (by omega) (by rw [he, show (pl - 1 - p).toNat = (pl - 1 - (p + 1)).toNat + 1 by omega]; show (if p = 0 ∨ mk_ab y < mk_ab ((mk_vm cn go ch s pl ka pa fa kb pb fb 1) p) then _ else _) = _; rw [ev, if_neg (by rw [ab0, ab1]; omega)]) rfl rfl (by omega)
            · refine ik_Wk 4 (pc_q := 124) (loc_q := [some (.ref 66), some (fI 1), some (fI what), some (fI nw), some (fI b), some (fI y), some (fI p), some (fI ((mr_w (mf_cm (fun x => mx_w cn go ch (s ^^^ (1 <<< p.toNat)) x) (pl - 1) ka pa) fa (mf_cm (fun x => mx_w cn go ch (s ^^^ (1 <<< p.toNat)) x) (pl - 1) kb pb) fb 1) - nw)), some (fI 1)]) (st_q := [fI 1]) (h_q := h_277) (cl_q := 0) (sl_q := 0) rfl ?_
              refine fw_if_eq rfl rfl (by decide +kernel) (by decide +kernel) (fun hc11 => absurd hc11 (by decide +kernel)) (fun hc11 => ?_)
              refine ik_Wk 4 (pc_q := 138) (loc_q := [some (.ref 66), some (fI 1), some (fI what), some (fI nw), some (fI p), some (fI y), some (fI p), some (fI ((mr_w (mf_cm (fun x => mx_w cn go ch (s ^^^ (1 <<< p.toNat)) x) (pl - 1) ka pa) fa (mf_cm (fun x => mx_w cn go ch (s ^^^ (1 <<< p.toNat)) x) (pl - 1) kb pb) fb 1) - nw)), some (fI 1)]) (st_q := [fI 1]) (h_q := h_277) (cl_q := 0) (sl_q := 0) rfl ?_
              refine fw_if_eq rfl rfl (by decide +kernel) (by decide +kernel) (fun hc12 => absurd hc12 (by decide +kernel)) (fun hc12 => ?_)
              refine ik_Wk 3 (pc_q := 150) (loc_q := [some (.ref 66), some (fI 1), some (fI what), some (fI nw), some (fI p), some (fI ((mr_w (mf_cm (fun x => mx_w cn go ch (s ^^^ (1 <<< p.toNat)) x) (pl - 1) ka pa) fa (mf_cm (fun x => mx_w cn go ch (s ^^^ (1 <<< p.toNat)) x) (pl - 1) kb pb) fb 1) - nw)), some (fI p), some (fI ((mr_w (mf_cm (fun x => mx_w cn go ch (s ^^^ (1 <<< p.toNat)) x) (pl - 1) ka pa) fa (mf_cm (fun x => mx_w cn go ch (s ^^^ (1 <<< p.toNat)) x) (pl - 1) kb pb) fb 1) - nw)), some (fI 1)]) (st_q := []) (h_q := h_277) (cl_q := 0) (sl_q := 0) rfl ?_
              refine fw_inc (a := p) (loc_q := [some (.ref 66), some (fI 1), some (fI what), some (fI nw), some (fI p), some (fI ((mr_w (mf_cm (fun x => mx_w cn go ch (s ^^^ (1 <<< p.toNat)) x) (pl - 1) ka pa) fa (mf_cm (fun x => mx_w cn go ch (s ^^^ (1 <<< p.toNat)) x) (pl - 1) kb pb) fb 1) - nw)), some (fI (p + 1)), some (fI ((mr_w (mf_cm (fun x => mx_w cn go ch (s ^^^ (1 <<< p.toNat)) x) (pl - 1) ka pa) fa (mf_cm (fun x => mx_w cn go ch (s ^^^ (1 <<< p.toNat)) x) (pl - 1) kb pb) fb 1) - nw)), some (fI 1)]) rfl rfl (Nat.le_of_ble_eq_true rfl) rfl ?_
              refine ik_Wk 1 (pc_q := 48) (loc_q := [some (.ref 66), some (fI 1), some (fI what), some (fI nw), some (fI p), some (fI ((mr_w (mf_cm (fun x => mx_w cn go ch (s ^^^ (1 <<< p.toNat)) x) (pl - 1) ka pa) fa (mf_cm (fun x => mx_w cn go ch (s ^^^ (1 <<< p.toNat)) x) (pl - 1) kb pb) fb 1) - nw)), some (fI (p + 1)), some (fI ((mr_w (mf_cm (fun x => mx_w cn go ch (s ^^^ (1 <<< p.toNat)) x) (pl - 1) ka pa) fa (mf_cm (fun x => mx_w cn go ch (s ^^^ (1 <<< p.toNat)) x) (pl - 1) kb pb) fb 1) - nw)), some (fI 1)]) (st_q := []) (h_q := h_277) (cl_q := 0) (sl_q := 0) rfl ?_
              exact ih  (p + 1) p ((mr_w (mf_cm (fun x => mx_w cn go ch (s ^^^ (1 <<< p.toNat)) x) (pl - 1) ka pa) fa (mf_cm (fun x => mx_w cn go ch (s ^^^ (1 <<< p.toNat)) x) (pl - 1) kb pb) fb 1) - nw) w'_276 gt'_276 gd'_276 xs'_276 ys'_276 r1'_276 r2'_276 (some (fI ((mr_w (mf_cm (fun x => mx_w cn go ch (s ^^^ (1 <<< p.toNat)) x) (pl - 1) ka pa) fa (mf_cm (fun x => mx_w cn go ch (s ^^^ (1 <<< p.toNat)) x) (pl - 1) kb pb) fb 1) - nw))) (some (fI 1)) h_277 g_277_66 g_277_67 n67 g_277_68 n68 g_277_69 n69 g_277_77 m_276_77 g_277_78 m_276_78 g_277_79 m_276_79 g_277_80 m_276_80 g_277_70 g_277_81 m_276_81 g_277_82 m_276_82 k_277 fr_277 (by omega) (by omega) (by omega) (by rw [he, show (pl - 1 - p).toNat = (pl - 1 - (p + 1)).toNat + 1 by omega]; show (if p = 0 ∨ mk_ab y < mk_ab ((mk_vm cn go ch s pl ka pa fa kb pb fb 1) p) then _ else _) = _; rw [ev, if_pos (by rw [ab0, ab1]; omega)]) rfl rfl (by omega)
          · refine ik_Wk 1 (pc_q := 7) (loc_q := [some (fJ y), none]) (st_q := [fJ y]) (h_q := h_277) (cl_q := 0) (sl_q := 0) rfl ?_
            refine fx_lneg rfl ?_
            refine ik_Wk 1 (pc_q := 12) (loc_q := [some (fJ y), none]) (st_q := [fJ (-y)]) (h_q := h_277) (cl_q := 0) (sl_q := 0) rfl ?_
            refine ik_Wret rfl rfl ⟨_, _, rfl, rfl, ?_⟩
            refine ik_Wk 0 (pc_q := 111) (loc_q := [some (.ref 66), some (fI 1), some (fI what), some (fI nw), some (fI b), some (fI y), some (fI p), some (fI ((mr_w (mf_cm (fun x => mx_w cn go ch (s ^^^ (1 <<< p.toNat)) x) (pl - 1) ka pa) fa (mf_cm (fun x => mx_w cn go ch (s ^^^ (1 <<< p.toNat)) x) (pl - 1) kb pb) fb 1) - nw)), x8]) (st_q := [fJ (-y), fJ ((mr_w (mf_cm (fun x => mx_w cn go ch (s ^^^ (1 <<< p.toNat)) x) (pl - 1) ka pa) fa (mf_cm (fun x => mx_w cn go ch (s ^^^ (1 <<< p.toNat)) x) (pl - 1) kb pb) fb 1) - nw)]) (h_q := h_277) (cl_q := 0) (sl_q := 0) rfl ?_
            have ab0 : mk_ab y = -y := by unfold mk_ab; split <;> omega
            have ab1 : mk_ab (mr_w (mf_cm (fun x => mx_w cn go ch (s ^^^ 1 <<< p.toNat) x) (pl - 1) ka pa) fa (mf_cm (fun x => mx_w cn go ch (s ^^^ 1 <<< p.toNat) x) (pl - 1) kb pb) fb 1 - nw) = (mr_w (mf_cm (fun x => mx_w cn go ch (s ^^^ (1 <<< p.toNat)) x) (pl - 1) ka pa) fa (mf_cm (fun x => mx_w cn go ch (s ^^^ (1 <<< p.toNat)) x) (pl - 1) kb pb) fb 1) - nw := by unfold mk_ab; split <;> omega
            refine fw_lcmp_le rfl rfl rfl (by omega) (by omega) (by omega) (by omega) (fun hc13 => ?_) (fun hc13 => ?_)
            · refine ik_Wk 3 (pc_q := 124) (loc_q := [some (.ref 66), some (fI 1), some (fI what), some (fI nw), some (fI b), some (fI y), some (fI p), some (fI ((mr_w (mf_cm (fun x => mx_w cn go ch (s ^^^ (1 <<< p.toNat)) x) (pl - 1) ka pa) fa (mf_cm (fun x => mx_w cn go ch (s ^^^ (1 <<< p.toNat)) x) (pl - 1) kb pb) fb 1) - nw)), some (fI 0)]) (st_q := [fI 0]) (h_q := h_277) (cl_q := 0) (sl_q := 0) rfl ?_
              refine fw_if_eq rfl rfl (by decide +kernel) (by decide +kernel) (fun hc14 => ?_) (fun hc14 => absurd hc14 (by decide +kernel))
              refine ik_Wk 3 (pc_q := 138) (loc_q := [some (.ref 66), some (fI 1), some (fI what), some (fI nw), some (fI b), some (fI y), some (fI p), some (fI ((mr_w (mf_cm (fun x => mx_w cn go ch (s ^^^ (1 <<< p.toNat)) x) (pl - 1) ka pa) fa (mf_cm (fun x => mx_w cn go ch (s ^^^ (1 <<< p.toNat)) x) (pl - 1) kb pb) fb 1) - nw)), some (fI 0)]) (st_q := [fI 0]) (h_q := h_277) (cl_q := 0) (sl_q := 0) rfl ?_
              refine fw_if_eq rfl rfl (by decide +kernel) (by decide +kernel) (fun hc15 => ?_) (fun hc15 => absurd hc15 (by decide +kernel))
              refine ik_Wk 2 (pc_q := 150) (loc_q := [some (.ref 66), some (fI 1), some (fI what), some (fI nw), some (fI b), some (fI y), some (fI p), some (fI ((mr_w (mf_cm (fun x => mx_w cn go ch (s ^^^ (1 <<< p.toNat)) x) (pl - 1) ka pa) fa (mf_cm (fun x => mx_w cn go ch (s ^^^ (1 <<< p.toNat)) x) (pl - 1) kb pb) fb 1) - nw)), some (fI 0)]) (st_q := []) (h_q := h_277) (cl_q := 0) (sl_q := 0) rfl ?_
              refine fw_inc (a := p) (loc_q := [some (.ref 66), some (fI 1), some (fI what), some (fI nw), some (fI b), some (fI y), some (fI (p + 1)), some (fI ((mr_w (mf_cm (fun x => mx_w cn go ch (s ^^^ (1 <<< p.toNat)) x) (pl - 1) ka pa) fa (mf_cm (fun x => mx_w cn go ch (s ^^^ (1 <<< p.toNat)) x) (pl - 1) kb pb) fb 1) - nw)), some (fI 0)]) rfl rfl (Nat.le_of_ble_eq_true rfl) rfl ?_
              refine ik_Wk 1 (pc_q := 48) (loc_q := [some (.ref 66), some (fI 1), some (fI what), some (fI nw), some (fI b), some (fI y), some (fI (p + 1)), some (fI ((mr_w (mf_cm (fun x => mx_w cn go ch (s ^^^ (1 <<< p.toNat)) x) (pl - 1) ka pa) fa (mf_cm (fun x => mx_w cn go ch (s ^^^ (1 <<< p.toNat)) x) (pl - 1) kb pb) fb 1) - nw)), some (fI 0)]) (st_q := []) (h_q := h_277) (cl_q := 0) (sl_q := 0) rfl ?_
              exact ih  (p + 1) b y w'_276 gt'_276 gd'_276 xs'_276 ys'_276 r1'_276 r2'_276 (some (fI ((mr_w (mf_cm (fun x => mx_w cn go ch (s ^^^ (1 <<< p.toNat)) x) (pl - 1) ka pa) fa (mf_cm (fun x => mx_w cn go ch (s ^^^ (1 <<< p.toNat)) x) (pl - 1) kb pb) fb 1) - nw))) (some (fI 0)) h_277 g_277_66 g_277_67 n67 g_277_68 n68 g_277_69 n69 g_277_77 m_276_77 g_277_78 m_276_78 g_277_79 m_276_79 g_277_80 m_276_80 g_277_70 g_277_81 m_276_81 g_277_82 m_276_82 k_277 fr_277 (by omega) (by omega) (by omega) (by rw [he, show (pl - 1 - p).toNat = (pl - 1 - (p + 1)).toNat + 1 by omega]; show (if p = 0 ∨ mk_ab y < mk_ab ((mk_vm cn go ch s pl ka pa fa kb pb fb 1) p) then _ else _) = _; rw [ev, if_neg (by rw [ab0, ab1]; omega)]) rfl rfl (by omega)
            · refine ik_Wk 4 (pc_q := 124) (loc_q := [some (.ref 66), some (fI 1), some (fI what), some (fI nw), some (fI b), some (fI y), some (fI p), some (fI ((mr_w (mf_cm (fun x => mx_w cn go ch (s ^^^ (1 <<< p.toNat)) x) (pl - 1) ka pa) fa (mf_cm (fun x => mx_w cn go ch (s ^^^ (1 <<< p.toNat)) x) (pl - 1) kb pb) fb 1) - nw)), some (fI 1)]) (st_q := [fI 1]) (h_q := h_277) (cl_q := 0) (sl_q := 0) rfl ?_
              refine fw_if_eq rfl rfl (by decide +kernel) (by decide +kernel) (fun hc16 => absurd hc16 (by decide +kernel)) (fun hc16 => ?_)
              refine ik_Wk 4 (pc_q := 138) (loc_q := [some (.ref 66), some (fI 1), some (fI what), some (fI nw), some (fI p), some (fI y), some (fI p), some (fI ((mr_w (mf_cm (fun x => mx_w cn go ch (s ^^^ (1 <<< p.toNat)) x) (pl - 1) ka pa) fa (mf_cm (fun x => mx_w cn go ch (s ^^^ (1 <<< p.toNat)) x) (pl - 1) kb pb) fb 1) - nw)), some (fI 1)]) (st_q := [fI 1]) (h_q := h_277) (cl_q := 0) (sl_q := 0) rfl ?_
              refine fw_if_eq rfl rfl (by decide +kernel) (by decide +kernel) (fun hc17 => absurd hc17 (by decide +kernel)) (fun hc17 => ?_)
              refine ik_Wk 3 (pc_q := 150) (loc_q := [some (.ref 66), some (fI 1), some (fI what), some (fI nw), some (fI p), some (fI ((mr_w (mf_cm (fun x => mx_w cn go ch (s ^^^ (1 <<< p.toNat)) x) (pl - 1) ka pa) fa (mf_cm (fun x => mx_w cn go ch (s ^^^ (1 <<< p.toNat)) x) (pl - 1) kb pb) fb 1) - nw)), some (fI p), some (fI ((mr_w (mf_cm (fun x => mx_w cn go ch (s ^^^ (1 <<< p.toNat)) x) (pl - 1) ka pa) fa (mf_cm (fun x => mx_w cn go ch (s ^^^ (1 <<< p.toNat)) x) (pl - 1) kb pb) fb 1) - nw)), some (fI 1)]) (st_q := []) (h_q := h_277) (cl_q := 0) (sl_q := 0) rfl ?_
              refine fw_inc (a := p) (loc_q := [some (.ref 66), some (fI 1), some (fI what), some (fI nw), some (fI p), some (fI ((mr_w (mf_cm (fun x => mx_w cn go ch (s ^^^ (1 <<< p.toNat)) x) (pl - 1) ka pa) fa (mf_cm (fun x => mx_w cn go ch (s ^^^ (1 <<< p.toNat)) x) (pl - 1) kb pb) fb 1) - nw)), some (fI (p + 1)), some (fI ((mr_w (mf_cm (fun x => mx_w cn go ch (s ^^^ (1 <<< p.toNat)) x) (pl - 1) ka pa) fa (mf_cm (fun x => mx_w cn go ch (s ^^^ (1 <<< p.toNat)) x) (pl - 1) kb pb) fb 1) - nw)), some (fI 1)]) rfl rfl (Nat.le_of_ble_eq_true rfl) rfl ?_
              refine ik_Wk 1 (pc_q := 48) (loc_q := [some (.ref 66), some (fI 1), some (fI what), some (fI nw), some (fI p), some (fI ((mr_w (mf_cm (fun x => mx_w cn go ch (s ^^^ (1 <<< p.toNat)) x) (pl - 1) ka pa) fa (mf_cm (fun x => mx_w cn go ch (s ^^^ (1 <<< p.toNat)) x) (pl - 1) kb pb) fb 1) - nw)), some (fI (p + 1)), some (fI ((mr_w (mf_cm (fun x => mx_w cn go ch (s ^^^ (1 <<< p.toNat)) x) (pl - 1) ka pa) fa (mf_cm (fun x => mx_w cn go ch (s ^^^ (1 <<< p.toNat)) x) (pl - 1) kb pb) fb 1) - nw)), some (fI 1)]) (st_q := []) (h_q := h_277) (cl_q := 0) (sl_q := 0) rfl ?_
              exact ih  (p + 1) p ((mr_w (mf_cm (fun x => mx_w cn go ch (s ^^^ (1 <<< p.toNat)) x) (pl - 1) ka pa) fa (mf_cm (fun x => mx_w cn go ch (s ^^^ (1 <<< p.toNat)) x) (pl - 1) kb pb) fb 1) - nw) w'_276 gt'_276 gd'_276 xs'_276 ys'_276 r1'_276 r2'_276 (some (fI ((mr_w (mf_cm (fun x => mx_w cn go ch (s ^^^ (1 <<< p.toNat)) x) (pl - 1) ka pa) fa (mf_cm (fun x => mx_w cn go ch (s ^^^ (1 <<< p.toNat)) x) (pl - 1) kb pb) fb 1) - nw))) (some (fI 1)) h_277 g_277_66 g_277_67 n67 g_277_68 n68 g_277_69 n69 g_277_77 m_276_77 g_277_78 m_276_78 g_277_79 m_276_79 g_277_80 m_276_80 g_277_70 g_277_81 m_276_81 g_277_82 m_276_82 k_277 fr_277 (by omega) (by omega) (by omega) (by rw [he, show (pl - 1 - p).toNat = (pl - 1 - (p + 1)).toNat + 1 by omega]; show (if p = 0 ∨ mk_ab y < mk_ab ((mk_vm cn go ch s pl ka pa fa kb pb fb 1) p) then _ else _) = _; rw [ev, if_pos (by rw [ab0, ab1]; omega)]) rfl rfl (by omega)
        · refine ik_Wk 1 (pc_q := 7) (loc_q := [some (fJ ((mr_w (mf_cm (fun x => mx_w cn go ch (s ^^^ (1 <<< p.toNat)) x) (pl - 1) ka pa) fa (mf_cm (fun x => mx_w cn go ch (s ^^^ (1 <<< p.toNat)) x) (pl - 1) kb pb) fb 1) - nw)), none]) (st_q := [fJ ((mr_w (mf_cm (fun x => mx_w cn go ch (s ^^^ (1 <<< p.toNat)) x) (pl - 1) ka pa) fa (mf_cm (fun x => mx_w cn go ch (s ^^^ (1 <<< p.toNat)) x) (pl - 1) kb pb) fb 1) - nw)]) (h_q := h_277) (cl_q := 0) (sl_q := 0) rfl ?_
          refine fx_lneg rfl ?_
          refine ik_Wk 1 (pc_q := 12) (loc_q := [some (fJ ((mr_w (mf_cm (fun x => mx_w cn go ch (s ^^^ (1 <<< p.toNat)) x) (pl - 1) ka pa) fa (mf_cm (fun x => mx_w cn go ch (s ^^^ (1 <<< p.toNat)) x) (pl - 1) kb pb) fb 1) - nw)), none]) (st_q := [fJ (-((mr_w (mf_cm (fun x => mx_w cn go ch (s ^^^ (1 <<< p.toNat)) x) (pl - 1) ka pa) fa (mf_cm (fun x => mx_w cn go ch (s ^^^ (1 <<< p.toNat)) x) (pl - 1) kb pb) fb 1) - nw))]) (h_q := h_277) (cl_q := 0) (sl_q := 0) rfl ?_
          refine ik_Wret rfl rfl ⟨_, _, rfl, rfl, ?_⟩
          refine ik_Wk 0 (pc_q := 105) (loc_q := [some (.ref 66), some (fI 1), some (fI what), some (fI nw), some (fI b), some (fI y), some (fI p), some (fI ((mr_w (mf_cm (fun x => mx_w cn go ch (s ^^^ (1 <<< p.toNat)) x) (pl - 1) ka pa) fa (mf_cm (fun x => mx_w cn go ch (s ^^^ (1 <<< p.toNat)) x) (pl - 1) kb pb) fb 1) - nw)), x8]) (st_q := [fJ (-((mr_w (mf_cm (fun x => mx_w cn go ch (s ^^^ (1 <<< p.toNat)) x) (pl - 1) ka pa) fa (mf_cm (fun x => mx_w cn go ch (s ^^^ (1 <<< p.toNat)) x) (pl - 1) kb pb) fb 1) - nw))]) (h_q := h_277) (cl_q := 0) (sl_q := 0) rfl ?_
          refine ik_Wk 1 (pc_q := 107) (loc_q := [some (.ref 66), some (fI 1), some (fI what), some (fI nw), some (fI b), some (fI y), some (fI p), some (fI ((mr_w (mf_cm (fun x => mx_w cn go ch (s ^^^ (1 <<< p.toNat)) x) (pl - 1) ka pa) fa (mf_cm (fun x => mx_w cn go ch (s ^^^ (1 <<< p.toNat)) x) (pl - 1) kb pb) fb 1) - nw)), x8]) (st_q := [fI y, fJ (-((mr_w (mf_cm (fun x => mx_w cn go ch (s ^^^ (1 <<< p.toNat)) x) (pl - 1) ka pa) fa (mf_cm (fun x => mx_w cn go ch (s ^^^ (1 <<< p.toNat)) x) (pl - 1) kb pb) fb 1) - nw))]) (h_q := h_277) (cl_q := 0) (sl_q := 0) rfl ?_
          refine fw_i2l rfl (by omega) (by omega) ?_
          refine ik_Wc 163 1 3 [fJ y] [fJ (-((mr_w (mf_cm (fun x => mx_w cn go ch (s ^^^ (1 <<< p.toNat)) x) (pl - 1) ka pa) fa (mf_cm (fun x => mx_w cn go ch (s ^^^ (1 <<< p.toNat)) x) (pl - 1) kb pb) fb 1) - nw))] rfl rfl rfl (by decide +kernel) rfl rfl (fw_sta k_277 (fw_ftx rfl (wv_c rfl wv_n) (wl_c rfl (wl_c rfl (wl_c rfl (wl_c rfl (wl_c rfl (wl_c rfl (wl_c rfl (wl_c rfl (wl_c w8 wl_n)))))))))) (by decide +kernel)) ?_
          refine ik_Wk 0 (pc_q := 0) (loc_q := [some (fJ y), none]) (st_q := []) (h_q := h_277) (cl_q := 0) (sl_q := 0) rfl ?_
          refine ik_Wk 1 (pc_q := 1) (loc_q := [some (fJ y), none]) (st_q := [fJ y]) (h_q := h_277) (cl_q := 0) (sl_q := 0) rfl ?_
          refine fw_lc (z := 0) rfl (by decide +kernel) ?_
          refine fw_lcmp_ge rfl rfl rfl (by omega) (by omega) (by omega) (by omega) (fun hc18 => ?_) (fun hc18 => ?_)
          · refine ik_Wk 1 (pc_q := 12) (loc_q := [some (fJ y), none]) (st_q := [fJ y]) (h_q := h_277) (cl_q := 0) (sl_q := 0) rfl ?_
            refine ik_Wret rfl rfl ⟨_, _, rfl, rfl, ?_⟩
            refine ik_Wk 0 (pc_q := 111) (loc_q := [some (.ref 66), some (fI 1), some (fI what), some (fI nw), some (fI b), some (fI y), some (fI p), some (fI ((mr_w (mf_cm (fun x => mx_w cn go ch (s ^^^ (1 <<< p.toNat)) x) (pl - 1) ka pa) fa (mf_cm (fun x => mx_w cn go ch (s ^^^ (1 <<< p.toNat)) x) (pl - 1) kb pb) fb 1) - nw)), x8]) (st_q := [fJ y, fJ (-((mr_w (mf_cm (fun x => mx_w cn go ch (s ^^^ (1 <<< p.toNat)) x) (pl - 1) ka pa) fa (mf_cm (fun x => mx_w cn go ch (s ^^^ (1 <<< p.toNat)) x) (pl - 1) kb pb) fb 1) - nw))]) (h_q := h_277) (cl_q := 0) (sl_q := 0) rfl ?_
            have ab0 : mk_ab y = y := by unfold mk_ab; split <;> omega
            have ab1 : mk_ab (mr_w (mf_cm (fun x => mx_w cn go ch (s ^^^ 1 <<< p.toNat) x) (pl - 1) ka pa) fa (mf_cm (fun x => mx_w cn go ch (s ^^^ 1 <<< p.toNat) x) (pl - 1) kb pb) fb 1 - nw) = -((mr_w (mf_cm (fun x => mx_w cn go ch (s ^^^ (1 <<< p.toNat)) x) (pl - 1) ka pa) fa (mf_cm (fun x => mx_w cn go ch (s ^^^ (1 <<< p.toNat)) x) (pl - 1) kb pb) fb 1) - nw) := by unfold mk_ab; split <;> omega
            refine fw_lcmp_le rfl rfl rfl (by omega) (by omega) (by omega) (by omega) (fun hc19 => ?_) (fun hc19 => ?_)
            · refine ik_Wk 3 (pc_q := 124) (loc_q := [some (.ref 66), some (fI 1), some (fI what), some (fI nw), some (fI b), some (fI y), some (fI p), some (fI ((mr_w (mf_cm (fun x => mx_w cn go ch (s ^^^ (1 <<< p.toNat)) x) (pl - 1) ka pa) fa (mf_cm (fun x => mx_w cn go ch (s ^^^ (1 <<< p.toNat)) x) (pl - 1) kb pb) fb 1) - nw)), some (fI 0)]) (st_q := [fI 0]) (h_q := h_277) (cl_q := 0) (sl_q := 0) rfl ?_
              refine fw_if_eq rfl rfl (by decide +kernel) (by decide +kernel) (fun hc20 => ?_) (fun hc20 => absurd hc20 (by decide +kernel))
              refine ik_Wk 3 (pc_q := 138) (loc_q := [some (.ref 66), some (fI 1), some (fI what), some (fI nw), some (fI b), some (fI y), some (fI p), some (fI ((mr_w (mf_cm (fun x => mx_w cn go ch (s ^^^ (1 <<< p.toNat)) x) (pl - 1) ka pa) fa (mf_cm (fun x => mx_w cn go ch (s ^^^ (1 <<< p.toNat)) x) (pl - 1) kb pb) fb 1) - nw)), some (fI 0)]) (st_q := [fI 0]) (h_q := h_277) (cl_q := 0) (sl_q := 0) rfl ?_
              refine fw_if_eq rfl rfl (by decide +kernel) (by decide +kernel) (fun hc21 => ?_) (fun hc21 => absurd hc21 (by decide +kernel))
              refine ik_Wk 2 (pc_q := 150) (loc_q := [some (.ref 66), some (fI 1), some (fI what), some (fI nw), some (fI b), some (fI y), some (fI p), some (fI ((mr_w (mf_cm (fun x => mx_w cn go ch (s ^^^ (1 <<< p.toNat)) x) (pl - 1) ka pa) fa (mf_cm (fun x => mx_w cn go ch (s ^^^ (1 <<< p.toNat)) x) (pl - 1) kb pb) fb 1) - nw)), some (fI 0)]) (st_q := []) (h_q := h_277) (cl_q := 0) (sl_q := 0) rfl ?_
              refine fw_inc (a := p) (loc_q := [some (.ref 66), some (fI 1), some (fI what), some (fI nw), some (fI b), some (fI y), some (fI (p + 1)), some (fI ((mr_w (mf_cm (fun x => mx_w cn go ch (s ^^^ (1 <<< p.toNat)) x) (pl - 1) ka pa) fa (mf_cm (fun x => mx_w cn go ch (s ^^^ (1 <<< p.toNat)) x) (pl - 1) kb pb) fb 1) - nw)), some (fI 0)]) rfl rfl (Nat.le_of_ble_eq_true rfl) rfl ?_
              refine ik_Wk 1 (pc_q := 48) (loc_q := [some (.ref 66), some (fI 1), some (fI what), some (fI nw), some (fI b), some (fI y), some (fI (p + 1)), some (fI ((mr_w (mf_cm (fun x => mx_w cn go ch (s ^^^ (1 <<< p.toNat)) x) (pl - 1) ka pa) fa (mf_cm (fun x => mx_w cn go ch (s ^^^ (1 <<< p.toNat)) x) (pl - 1) kb pb) fb 1) - nw)), some (fI 0)]) (st_q := []) (h_q := h_277) (cl_q := 0) (sl_q := 0) rfl ?_
              exact ih  (p + 1) b y w'_276 gt'_276 gd'_276 xs'_276 ys'_276 r1'_276 r2'_276 (some (fI ((mr_w (mf_cm (fun x => mx_w cn go ch (s ^^^ (1 <<< p.toNat)) x) (pl - 1) ka pa) fa (mf_cm (fun x => mx_w cn go ch (s ^^^ (1 <<< p.toNat)) x) (pl - 1) kb pb) fb 1) - nw))) (some (fI 0)) h_277 g_277_66 g_277_67 n67 g_277_68 n68 g_277_69 n69 g_277_77 m_276_77 g_277_78 m_276_78 g_277_79 m_276_79 g_277_80 m_276_80 g_277_70 g_277_81 m_276_81 g_277_82 m_276_82 k_277 fr_277 (by omega) (by omega) (by omega) (by rw [he, show (pl - 1 - p).toNat = (pl - 1 - (p + 1)).toNat + 1 by omega]; show (if p = 0 ∨ mk_ab y < mk_ab ((mk_vm cn go ch s pl ka pa fa kb pb fb 1) p) then _ else _) = _; rw [ev, if_neg (by rw [ab0, ab1]; omega)]) rfl rfl (by omega)
            · refine ik_Wk 4 (pc_q := 124) (loc_q := [some (.ref 66), some (fI 1), some (fI what), some (fI nw), some (fI b), some (fI y), some (fI p), some (fI ((mr_w (mf_cm (fun x => mx_w cn go ch (s ^^^ (1 <<< p.toNat)) x) (pl - 1) ka pa) fa (mf_cm (fun x => mx_w cn go ch (s ^^^ (1 <<< p.toNat)) x) (pl - 1) kb pb) fb 1) - nw)), some (fI 1)]) (st_q := [fI 1]) (h_q := h_277) (cl_q := 0) (sl_q := 0) rfl ?_
              refine fw_if_eq rfl rfl (by decide +kernel) (by decide +kernel) (fun hc22 => absurd hc22 (by decide +kernel)) (fun hc22 => ?_)
              refine ik_Wk 4 (pc_q := 138) (loc_q := [some (.ref 66), some (fI 1), some (fI what), some (fI nw), some (fI p), some (fI y), some (fI p), some (fI ((mr_w (mf_cm (fun x => mx_w cn go ch (s ^^^ (1 <<< p.toNat)) x) (pl - 1) ka pa) fa (mf_cm (fun x => mx_w cn go ch (s ^^^ (1 <<< p.toNat)) x) (pl - 1) kb pb) fb 1) - nw)), some (fI 1)]) (st_q := [fI 1]) (h_q := h_277) (cl_q := 0) (sl_q := 0) rfl ?_
              refine fw_if_eq rfl rfl (by decide +kernel) (by decide +kernel) (fun hc23 => absurd hc23 (by decide +kernel)) (fun hc23 => ?_)
              refine ik_Wk 3 (pc_q := 150) (loc_q := [some (.ref 66), some (fI 1), some (fI what), some (fI nw), some (fI p), some (fI ((mr_w (mf_cm (fun x => mx_w cn go ch (s ^^^ (1 <<< p.toNat)) x) (pl - 1) ka pa) fa (mf_cm (fun x => mx_w cn go ch (s ^^^ (1 <<< p.toNat)) x) (pl - 1) kb pb) fb 1) - nw)), some (fI p), some (fI ((mr_w (mf_cm (fun x => mx_w cn go ch (s ^^^ (1 <<< p.toNat)) x) (pl - 1) ka pa) fa (mf_cm (fun x => mx_w cn go ch (s ^^^ (1 <<< p.toNat)) x) (pl - 1) kb pb) fb 1) - nw)), some (fI 1)]) (st_q := []) (h_q := h_277) (cl_q := 0) (sl_q := 0) rfl ?_
              refine fw_inc (a := p) (loc_q := [some (.ref 66), some (fI 1), some (fI what), some (fI nw), some (fI p), some (fI ((mr_w (mf_cm (fun x => mx_w cn go ch (s ^^^ (1 <<< p.toNat)) x) (pl - 1) ka pa) fa (mf_cm (fun x => mx_w cn go ch (s ^^^ (1 <<< p.toNat)) x) (pl - 1) kb pb) fb 1) - nw)), some (fI (p + 1)), some (fI ((mr_w (mf_cm (fun x => mx_w cn go ch (s ^^^ (1 <<< p.toNat)) x) (pl - 1) ka pa) fa (mf_cm (fun x => mx_w cn go ch (s ^^^ (1 <<< p.toNat)) x) (pl - 1) kb pb) fb 1) - nw)), some (fI 1)]) rfl rfl (Nat.le_of_ble_eq_true rfl) rfl ?_
              refine ik_Wk 1 (pc_q := 48) (loc_q := [some (.ref 66), some (fI 1), some (fI what), some (fI nw), some (fI p), some (fI ((mr_w (mf_cm (fun x => mx_w cn go ch (s ^^^ (1 <<< p.toNat)) x) (pl - 1) ka pa) fa (mf_cm (fun x => mx_w cn go ch (s ^^^ (1 <<< p.toNat)) x) (pl - 1) kb pb) fb 1) - nw)), some (fI (p + 1)), some (fI ((mr_w (mf_cm (fun x => mx_w cn go ch (s ^^^ (1 <<< p.toNat)) x) (pl - 1) ka pa) fa (mf_cm (fun x => mx_w cn go ch (s ^^^ (1 <<< p.toNat)) x) (pl - 1) kb pb) fb 1) - nw)), some (fI 1)]) (st_q := []) (h_q := h_277) (cl_q := 0) (sl_q := 0) rfl ?_
              exact ih  (p + 1) p ((mr_w (mf_cm (fun x => mx_w cn go ch (s ^^^ (1 <<< p.toNat)) x) (pl - 1) ka pa) fa (mf_cm (fun x => mx_w cn go ch (s ^^^ (1 <<< p.toNat)) x) (pl - 1) kb pb) fb 1) - nw) w'_276 gt'_276 gd'_276 xs'_276 ys'_276 r1'_276 r2'_276 (some (fI ((mr_w (mf_cm (fun x => mx_w cn go ch (s ^^^ (1 <<< p.toNat)) x) (pl - 1) ka pa) fa (mf_cm (fun x => mx_w cn go ch (s ^^^ (1 <<< p.toNat)) x) (pl - 1) kb pb) fb 1) - nw))) (some (fI 1)) h_277 g_277_66 g_277_67 n67 g_277_68 n68 g_277_69 n69 g_277_77 m_276_77 g_277_78 m_276_78 g_277_79 m_276_79 g_277_80 m_276_80 g_277_70 g_277_81 m_276_81 g_277_82 m_276_82 k_277 fr_277 (by omega) (by omega) (by omega) (by rw [he, show (pl - 1 - p).toNat = (pl - 1 - (p + 1)).toNat + 1 by omega]; show (if p = 0 ∨ mk_ab y < mk_ab ((mk_vm cn go ch s pl ka pa fa kb pb fb 1) p) then _ else _) = _; rw [ev, if_pos (by rw [ab0, ab1]; omega)]) rfl rfl (by omega)
          · refine ik_Wk 1 (pc_q := 7) (loc_q := [some (fJ y), none]) (st_q := [fJ y]) (h_q := h_277) (cl_q := 0) (sl_q := 0) rfl ?_
            refine fx_lneg rfl ?_
            refine ik_Wk 1 (pc_q := 12) (loc_q := [some (fJ y), none]) (st_q := [fJ (-y)]) (h_q := h_277) (cl_q := 0) (sl_q := 0) rfl ?_
            refine ik_Wret rfl rfl ⟨_, _, rfl, rfl, ?_⟩
            refine ik_Wk 0 (pc_q := 111) (loc_q := [some (.ref 66), some (fI 1), some (fI what), some (fI nw), some (fI b), some (fI y), some (fI p), some (fI ((mr_w (mf_cm (fun x => mx_w cn go ch (s ^^^ (1 <<< p.toNat)) x) (pl - 1) ka pa) fa (mf_cm (fun x => mx_w cn go ch (s ^^^ (1 <<< p.toNat)) x) (pl - 1) kb pb) fb 1) - nw)), x8]) (st_q := [fJ (-y), fJ (-((mr_w (mf_cm (fun x => mx_w cn go ch (s ^^^ (1 <<< p.toNat)) x) (pl - 1) ka pa) fa (mf_cm (fun x => mx_w cn go ch (s ^^^ (1 <<< p.toNat)) x) (pl - 1) kb pb) fb 1) - nw))]) (h_q := h_277) (cl_q := 0) (sl_q := 0) rfl ?_
            have ab0 : mk_ab y = -y := by unfold mk_ab; split <;> omega
            have ab1 : mk_ab (mr_w (mf_cm (fun x => mx_w cn go ch (s ^^^ 1 <<< p.toNat) x) (pl - 1) ka pa) fa (mf_cm (fun x => mx_w cn go ch (s ^^^ 1 <<< p.toNat) x) (pl - 1) kb pb) fb 1 - nw) = -((mr_w (mf_cm (fun x => mx_w cn go ch (s ^^^ (1 <<< p.toNat)) x) (pl - 1) ka pa) fa (mf_cm (fun x => mx_w cn go ch (s ^^^ (1 <<< p.toNat)) x) (pl - 1) kb pb) fb 1) - nw) := by unfold mk_ab; split <;> omega
            refine fw_lcmp_le rfl rfl rfl (by omega) (by omega) (by omega) (by omega) (fun hc24 => ?_) (fun hc24 => ?_)
            · refine ik_Wk 3 (pc_q := 124) (loc_q := [some (.ref 66), some (fI 1), some (fI what), some (fI nw), some (fI b), some (fI y), some (fI p), some (fI ((mr_w (mf_cm (fun x => mx_w cn go ch (s ^^^ (1 <<< p.toNat)) x) (pl - 1) ka pa) fa (mf_cm (fun x => mx_w cn go ch (s ^^^ (1 <<< p.toNat)) x) (pl - 1) kb pb) fb 1) - nw)), some (fI 0)]) (st_q := [fI 0]) (h_q := h_277) (cl_q := 0) (sl_q := 0) rfl ?_
              refine fw_if_eq rfl rfl (by decide +kernel) (by decide +kernel) (fun hc25 => ?_) (fun hc25 => absurd hc25 (by decide +kernel))
              refine ik_Wk 3 (pc_q := 138) (loc_q := [some (.ref 66), some (fI 1), some (fI what), some (fI nw), some (fI b), some (fI y), some (fI p), some (fI ((mr_w (mf_cm (fun x => mx_w cn go ch (s ^^^ (1 <<< p.toNat)) x) (pl - 1) ka pa) fa (mf_cm (fun x => mx_w cn go ch (s ^^^ (1 <<< p.toNat)) x) (pl - 1) kb pb) fb 1) - nw)), some (fI 0)]) (st_q := [fI 0]) (h_q := h_277) (cl_q := 0) (sl_q := 0) rfl ?_
              refine fw_if_eq rfl rfl (by decide +kernel) (by decide +kernel) (fun hc26 => ?_) (fun hc26 => absurd hc26 (by decide +kernel))
              refine ik_Wk 2 (pc_q := 150) (loc_q := [some (.ref 66), some (fI 1), some (fI what), some (fI nw), some (fI b), some (fI y), some (fI p), some (fI ((mr_w (mf_cm (fun x => mx_w cn go ch (s ^^^ (1 <<< p.toNat)) x) (pl - 1) ka pa) fa (mf_cm (fun x => mx_w cn go ch (s ^^^ (1 <<< p.toNat)) x) (pl - 1) kb pb) fb 1) - nw)), some (fI 0)]) (st_q := []) (h_q := h_277) (cl_q := 0) (sl_q := 0) rfl ?_
              refine fw_inc (a := p) (loc_q := [some (.ref 66), some (fI 1), some (fI what), some (fI nw), some (fI b), some (fI y), some (fI (p + 1)), some (fI ((mr_w (mf_cm (fun x => mx_w cn go ch (s ^^^ (1 <<< p.toNat)) x) (pl - 1) ka pa) fa (mf_cm (fun x => mx_w cn go ch (s ^^^ (1 <<< p.toNat)) x) (pl - 1) kb pb) fb 1) - nw)), some (fI 0)]) rfl rfl (Nat.le_of_ble_eq_true rfl) rfl ?_
              refine ik_Wk 1 (pc_q := 48) (loc_q := [some (.ref 66), some (fI 1), some (fI what), some (fI nw), some (fI b), some (fI y), some (fI (p + 1)), some (fI ((mr_w (mf_cm (fun x => mx_w cn go ch (s ^^^ (1 <<< p.toNat)) x) (pl - 1) ka pa) fa (mf_cm (fun x => mx_w cn go ch (s ^^^ (1 <<< p.toNat)) x) (pl - 1) kb pb) fb 1) - nw)), some (fI 0)]) (st_q := []) (h_q := h_277) (cl_q := 0) (sl_q := 0) rfl ?_
              exact ih  (p + 1) b y w'_276 gt'_276 gd'_276 xs'_276 ys'_276 r1'_276 r2'_276 (some (fI ((mr_w (mf_cm (fun x => mx_w cn go ch (s ^^^ (1 <<< p.toNat)) x) (pl - 1) ka pa) fa (mf_cm (fun x => mx_w cn go ch (s ^^^ (1 <<< p.toNat)) x) (pl - 1) kb pb) fb 1) - nw))) (some (fI 0)) h_277 g_277_66 g_277_67 n67 g_277_68 n68 g_277_69 n69 g_277_77 m_276_77 g_277_78 m_276_78 g_277_79 m_276_79 g_277_80 m_276_80 g_277_70 g_277_81 m_276_81 g_277_82 m_276_82 k_277 fr_277 (by omega) (by omega) (by omega) (by rw [he, show (pl - 1 - p).toNat = (pl - 1 - (p + 1)).toNat + 1 by omega]; show (if p = 0 ∨ mk_ab y < mk_ab ((mk_vm cn go ch s pl ka pa fa kb pb fb 1) p) then _ else _) = _; rw [ev, if_neg (by rw [ab0, ab1]; omega)]) rfl rfl (by omega)
            · refine ik_Wk 4 (pc_q := 124) (loc_q := [some (.ref 66), some (fI 1), some (fI what), some (fI nw), some (fI b), some (fI y), some (fI p), some (fI ((mr_w (mf_cm (fun x => mx_w cn go ch (s ^^^ (1 <<< p.toNat)) x) (pl - 1) ka pa) fa (mf_cm (fun x => mx_w cn go ch (s ^^^ (1 <<< p.toNat)) x) (pl - 1) kb pb) fb 1) - nw)), some (fI 1)]) (st_q := [fI 1]) (h_q := h_277) (cl_q := 0) (sl_q := 0) rfl ?_
              refine fw_if_eq rfl rfl (by decide +kernel) (by decide +kernel) (fun hc27 => absurd hc27 (by decide +kernel)) (fun hc27 => ?_)
              refine ik_Wk 4 (pc_q := 138) (loc_q := [some (.ref 66), some (fI 1), some (fI what), some (fI nw), some (fI p), some (fI y), some (fI p), some (fI ((mr_w (mf_cm (fun x => mx_w cn go ch (s ^^^ (1 <<< p.toNat)) x) (pl - 1) ka pa) fa (mf_cm (fun x => mx_w cn go ch (s ^^^ (1 <<< p.toNat)) x) (pl - 1) kb pb) fb 1) - nw)), some (fI 1)]) (st_q := [fI 1]) (h_q := h_277) (cl_q := 0) (sl_q := 0) rfl ?_
              refine fw_if_eq rfl rfl (by decide +kernel) (by decide +kernel) (fun hc28 => absurd hc28 (by decide +kernel)) (fun hc28 => ?_)
              refine ik_Wk 3 (pc_q := 150) (loc_q := [some (.ref 66), some (fI 1), some (fI what), some (fI nw), some (fI p), some (fI ((mr_w (mf_cm (fun x => mx_w cn go ch (s ^^^ (1 <<< p.toNat)) x) (pl - 1) ka pa) fa (mf_cm (fun x => mx_w cn go ch (s ^^^ (1 <<< p.toNat)) x) (pl - 1) kb pb) fb 1) - nw)), some (fI p), some (fI ((mr_w (mf_cm (fun x => mx_w cn go ch (s ^^^ (1 <<< p.toNat)) x) (pl - 1) ka pa) fa (mf_cm (fun x => mx_w cn go ch (s ^^^ (1 <<< p.toNat)) x) (pl - 1) kb pb) fb 1) - nw)), some (fI 1)]) (st_q := []) (h_q := h_277) (cl_q := 0) (sl_q := 0) rfl ?_
              refine fw_inc (a := p) (loc_q := [some (.ref 66), some (fI 1), some (fI what), some (fI nw), some (fI p), some (fI ((mr_w (mf_cm (fun x => mx_w cn go ch (s ^^^ (1 <<< p.toNat)) x) (pl - 1) ka pa) fa (mf_cm (fun x => mx_w cn go ch (s ^^^ (1 <<< p.toNat)) x) (pl - 1) kb pb) fb 1) - nw)), some (fI (p + 1)), some (fI ((mr_w (mf_cm (fun x => mx_w cn go ch (s ^^^ (1 <<< p.toNat)) x) (pl - 1) ka pa) fa (mf_cm (fun x => mx_w cn go ch (s ^^^ (1 <<< p.toNat)) x) (pl - 1) kb pb) fb 1) - nw)), some (fI 1)]) rfl rfl (Nat.le_of_ble_eq_true rfl) rfl ?_
              refine ik_Wk 1 (pc_q := 48) (loc_q := [some (.ref 66), some (fI 1), some (fI what), some (fI nw), some (fI p), some (fI ((mr_w (mf_cm (fun x => mx_w cn go ch (s ^^^ (1 <<< p.toNat)) x) (pl - 1) ka pa) fa (mf_cm (fun x => mx_w cn go ch (s ^^^ (1 <<< p.toNat)) x) (pl - 1) kb pb) fb 1) - nw)), some (fI (p + 1)), some (fI ((mr_w (mf_cm (fun x => mx_w cn go ch (s ^^^ (1 <<< p.toNat)) x) (pl - 1) ka pa) fa (mf_cm (fun x => mx_w cn go ch (s ^^^ (1 <<< p.toNat)) x) (pl - 1) kb pb) fb 1) - nw)), some (fI 1)]) (st_q := []) (h_q := h_277) (cl_q := 0) (sl_q := 0) rfl ?_
              exact ih  (p + 1) p ((mr_w (mf_cm (fun x => mx_w cn go ch (s ^^^ (1 <<< p.toNat)) x) (pl - 1) ka pa) fa (mf_cm (fun x => mx_w cn go ch (s ^^^ (1 <<< p.toNat)) x) (pl - 1) kb pb) fb 1) - nw) w'_276 gt'_276 gd'_276 xs'_276 ys'_276 r1'_276 r2'_276 (some (fI ((mr_w (mf_cm (fun x => mx_w cn go ch (s ^^^ (1 <<< p.toNat)) x) (pl - 1) ka pa) fa (mf_cm (fun x => mx_w cn go ch (s ^^^ (1 <<< p.toNat)) x) (pl - 1) kb pb) fb 1) - nw))) (some (fI 1)) h_277 g_277_66 g_277_67 n67 g_277_68 n68 g_277_69 n69 g_277_77 m_276_77 g_277_78 m_276_78 g_277_79 m_276_79 g_277_80 m_276_80 g_277_70 g_277_81 m_276_81 g_277_82 m_276_82 k_277 fr_277 (by omega) (by omega) (by omega) (by rw [he, show (pl - 1 - p).toNat = (pl - 1 - (p + 1)).toNat + 1 by omega]; show (if p = 0 ∨ mk_ab y < mk_ab ((mk_vm cn go ch s pl ka pa fa kb pb fb 1) p) then _ else _) = _; rw [ev, if_pos (by rw [ab0, ab1]; omega)]) rfl rfl (by omega)

theorem rp_most1 {h : List ik_E} {pl : Int} {f : Nat → Int} {s : Nat} {cn : List Int} {go : List Int} {ch : List Int} {gt : List Int} {gd : List Int} {xs : List Int} {ys : List Int} {ka : Int} {pa : Int} {fa : Int} {kb : Int} {pb : Int} {fb : Int} {r1 : List Int} {r2 : List Int} {what : Int} (q0 : 0 ≤ pl ∧ pl ≤ 12) (q1 : s < 4096) (q2 : ∀ x : Int, (0 : Int) ≤ x → x < pl - 1 → 0 ≤ cn.getD x.toNat 0 ∧ cn.getD x.toNat 0 ≤ 4) (q3 : ∀ x : Int, (0 : Int) ≤ x → x < pl - 1 → 1 ≤ cn.getD x.toNat 0 ∧ ∀ j : Int, 4 * x ≤ j → j < 4 * x + cn.getD x.toNat 0 → 0 ≤ ch.getD j.toNat 0 ∧ ch.getD j.toNat 0 ≤ 100) (q4 : ∀ x : Int, (0 : Int) ≤ x → x < pl - 1 → mx_ok pl (mx_w cn go ch s x)) (q5 : (0 : Int) ≤ ka ∧ ka ≤ (2 : Int)) (q6 : (0 : Int) ≤ kb ∧ kb ≤ (2 : Int)) (q7 : (1 : Int) < pl → (0 : Int) ≤ pa ∧ pa < pl - 1) (q8 : (1 : Int) < pl → (0 : Int) ≤ pb ∧ pb < pl - 1) (q9 : (0 : Int) ≤ fa ∧ fa ≤ (30 : Int)) (q10 : (0 : Int) ≤ fb ∧ fb ≤ (30 : Int)) (q11 : mx_rw pl cn go ch) (q12 : (-2147483648 : Int) ≤ what ∧ what < (2147483648 : Int)) (h66 : cE h 66 (.inr (10, (fI pl :: .ref 67 :: .ref 68 :: .ref 69 :: fI ((s : Nat) : Int) :: .ref 70 :: .ref 71 :: fI (f 7) :: fI (f 8) :: .ref 72 :: fI (f 10) :: fI (f 11) :: fI (f 12) :: fJ (f 13) :: fI (f 14) :: fI (f 15) :: fI (f 16) :: fI (f 17) :: .ref 73 :: .ref 74 :: .ref 75 :: .ref 76 :: .ref 77 :: .ref 78 :: fI (f 24) :: .ref 79 :: .ref 80 :: .ref 81 :: .ref 82 :: .ref 83 :: .ref 84 :: .ref 85 :: fJ (f 32) :: fJ (f 33) :: .ref 86 :: .ref 87 :: fI (f 36) :: .ref 88 :: .ref 89 :: .ref 90 :: .ref 91 :: .ref 92 :: .ref 93 :: [])))) (h67 : cE h 67 (.inl (.int, fA cn))) (n67 : cn.length = (12 : Nat)) (h68 : cE h 68 (.inl (.int, fA go))) (n68 : go.length = (48 : Nat)) (h69 : cE h 69 (.inl (.int, fA ch))) (n69 : ch.length = (48 : Nat)) (h77 : cE h 77 (.inl (.int, fA gt))) (n77 : gt.length = (5 : Nat)) (h78 : cE h 78 (.inl (.int, fA gd))) (n78 : gd.length = (5 : Nat)) (h79 : cE h 79 (.inl (.long, fL xs))) (n79 : xs.length = (12 : Nat)) (h80 : cE h 80 (.inl (.long, fL ys))) (n80 : ys.length = (12 : Nat)) (h70 : cE h 70 (.inl (.int, fA [ka, pa, fa, kb, pb, fb]))) (h81 : cE h 81 (.inl (.long, fL r1))) (n81 : r1.length = (201 : Nat)) (h82 : cE h 82 (.inl (.long, fL r2))) (n82 : r2.length = (201 : Nat)) (hl : h.length = (94 : Nat)) : ik_F 182 [.ref 66, fI 1, fI what] h (fun rv h_q => ∃ (w' : Int) (gt' : List Int) (gd' : List Int) (xs' : List Int) (ys' : List Int) (r1' : List Int) (r2' : List Int), rv = [fI (an_mo what pl (if what = 0 then (mk_mo (mk_vm cn go ch s pl ka pa fa kb pb fb 1) (pl - 1).toNat 0 (-1) 0).1 else (mk_mo (mk_vm cn go ch s pl ka pa fa kb pb fb 1) (pl - 1).toNat 0 (-1) 0).2))] ∧ cE h_q 66 (.inr (10, (fI pl :: .ref 67 :: .ref 68 :: .ref 69 :: fI ((s : Nat) : Int) :: .ref 70 :: .ref 71 :: fI (f 7) :: fI (f 8) :: .ref 72 :: fI (f 10) :: fI (f 11) :: fI (f 12) :: fJ (f 13) :: fI (f 14) :: fI (f 15) :: fI (f 16) :: fI (f 17) :: .ref 73 :: .ref 74 :: .ref 75 :: .ref 76 :: .ref 77 :: .ref 78 :: fI w' :: .ref 79 :: .ref 80 :: .ref 81 :: .ref 82 :: .ref 83 :: .ref 84 :: .ref 85 :: fJ (f 32) :: fJ (f 33) :: .ref 86 :: .ref 87 :: fI (f 36) :: .ref 88 :: .ref 89 :: .ref 90 :: .ref 91 :: .ref 92 :: .ref 93 :: []))) ∧ cE h_q 77 (.inl (.int, fA gt')) ∧ gt'.length = (5 : Nat) ∧ cE h_q 78 (.inl (.int, fA gd')) ∧ gd'.length = (5 : Nat) ∧ cE h_q 79 (.inl (.long, fL xs')) ∧ xs'.length = (12 : Nat) ∧ cE h_q 80 (.inl (.long, fL ys')) ∧ ys'.length = (12 : Nat) ∧ cE h_q 81 (.inl (.long, fL r1')) ∧ r1'.length = (201 : Nat) ∧ cE h_q 82 (.inl (.long, fL r2')) ∧ r2'.length = (201 : Nat) ∧ hfr [66, 77, 78, 79, 80, 81, 82] h h_q) := by
  refine ik_Wk 1 (pc_q := 1) (loc_q := [some (.ref 66), some (fI 1), some (fI what), none, none, none, none, none, none]) (st_q := [fI 1]) (h_q := h) (cl_q := 0) (sl_q := 0) rfl ?_
  refine ik_Wc 132 1 3 [fI 1] [] rfl rfl rfl (by decide +kernel) rfl rfl (fw_sta hl rfl (by decide +kernel)) ?_
  refine ik_Wk 0 (pc_q := 0) (loc_q := [some (fI 1)]) (st_q := []) (h_q := h) (cl_q := 0) (sl_q := 0) rfl ?_
  refine ik_Wk 1 (pc_q := 1) (loc_q := [some (fI 1)]) (st_q := [fI 1]) (h_q := h) (cl_q := 0) (sl_q := 0) rfl ?_
  refine fw_i2l rfl (by omega) (by omega) ?_
  refine fw_lc (z := 0) rfl (by decide +kernel) ?_
  refine fw_lc (z := 1) rfl (by decide +kernel) ?_
  refine fw_call 127 3 3 [fJ 1, fJ 0, fJ 1] [] rfl rfl rfl (Nat.le_of_ble_eq_true rfl) rfl rfl (fw_sta hl rfl (by decide +kernel)) (cr_in (v := 1) (a := 0) (b := 1) (by omega) (by omega) (by omega)  hl) ?_
  rintro _ h_278 (⟨rfl, p_278_0, F_278⟩ | ⟨rfl, p_278_0, F_278⟩)
  · have k_278 : cL h_278 := F_278.1.trans hl
    have fr_278 := hfr_cb (hfr_refl [66, 77, 78, 79, 80, 81, 82] h) F_278 rfl
    have g_278_66 := (hfr_g F_278 66 rfl).trans h66
    have g_278_67 := (hfr_g F_278 67 rfl).trans h67
    have g_278_68 := (hfr_g F_278 68 rfl).trans h68
    have g_278_69 := (hfr_g F_278 69 rfl).trans h69
    have g_278_77 := (hfr_g F_278 77 rfl).trans h77
    have g_278_78 := (hfr_g F_278 78 rfl).trans h78
    have g_278_79 := (hfr_g F_278 79 rfl).trans h79
    have g_278_80 := (hfr_g F_278 80 rfl).trans h80
    have g_278_70 := (hfr_g F_278 70 rfl).trans h70
    have g_278_81 := (hfr_g F_278 81 rfl).trans h81
    have g_278_82 := (hfr_g F_278 82 rfl).trans h82
    refine ik_Wk 0 (pc_q := 7) (loc_q := [some (fI 1)]) (st_q := [fI 1]) (h_q := h_278) (cl_q := 0) (sl_q := 0) rfl ?_
    refine ik_Wret rfl rfl ⟨_, _, rfl, rfl, ?_⟩
    refine ik_Wk 0 (pc_q := 4) (loc_q := [some (.ref 66), some (fI 1), some (fI what), none, none, none, none, none, none]) (st_q := [fI 1]) (h_q := h_278) (cl_q := 0) (sl_q := 0) rfl ?_
    refine fw_if_ne rfl rfl (by decide +kernel) (by decide +kernel) (fun hc1 => absurd hc1 (by decide +kernel)) (fun hc1 => ?_)
    refine ik_Wk 1 (pc_q := 11) (loc_q := [some (.ref 66), some (fI 1), some (fI what), none, none, none, none, none, none]) (st_q := [fI what]) (h_q := h_278) (cl_q := 0) (sl_q := 0) rfl ?_
    refine fw_i2l rfl (by omega) (by omega) ?_
    refine fw_lc (z := 0) rfl (by decide +kernel) ?_
    refine fw_lc (z := 1) rfl (by decide +kernel) ?_
    refine fw_call 127 3 3 [fJ what, fJ 0, fJ 1] [] rfl rfl rfl (Nat.le_of_ble_eq_true rfl) rfl rfl (fw_sta k_278 rfl (by decide +kernel)) (cr_in (v := what) (a := 0) (b := 1) (by omega) (by omega) (by omega)  k_278) ?_
    rintro _ h_279 (⟨rfl, p_279_0, F_279⟩ | ⟨rfl, p_279_0, F_279⟩)
    · have k_279 : cL h_279 := F_279.1.trans k_278
      have fr_279 := hfr_cb fr_278 F_279 rfl
      have g_279_66 := (hfr_g F_279 66 rfl).trans g_278_66
      have g_279_67 := (hfr_g F_279 67 rfl).trans g_278_67
      have g_279_68 := (hfr_g F_279 68 rfl).trans g_278_68
      have g_279_69 := (hfr_g F_279 69 rfl).trans g_278_69
      have g_279_77 := (hfr_g F_279 77 rfl).trans g_278_77
      have g_279_78 := (hfr_g F_279 78 rfl).trans g_278_78
      have g_279_79 := (hfr_g F_279 79 rfl).trans g_278_79
      have g_279_80 := (hfr_g F_279 80 rfl).trans g_278_80
      have g_279_70 := (hfr_g F_279 70 rfl).trans g_278_70
      have g_279_81 := (hfr_g F_279 81 rfl).trans g_278_81
      have g_279_82 := (hfr_g F_279 82 rfl).trans g_278_82
      refine ik_Wk 0 (pc_q := 17) (loc_q := [some (.ref 66), some (fI 1), some (fI what), none, none, none, none, none, none]) (st_q := [fI 1]) (h_q := h_279) (cl_q := 0) (sl_q := 0) rfl ?_
      refine fw_if_ne rfl rfl (by decide +kernel) (by decide +kernel) (fun hc2 => absurd hc2 (by decide +kernel)) (fun hc2 => ?_)
      refine ik_Wk 1 (pc_q := 24) (loc_q := [some (.ref 66), some (fI 1), some (fI what), none, none, none, none, none, none]) (st_q := [.ref 66]) (h_q := h_279) (cl_q := 0) (sl_q := 0) rfl ?_
      refine ik_Wc 134 1 0 [.ref 66] [] rfl rfl rfl (by decide +kernel) rfl rfl (fw_rec k_279 rfl g_279_66 rfl (Nat.le_of_ble_eq_true rfl)) ?_
      refine ik_Wk 0 (pc_q := 0) (loc_q := [some (.ref 66)]) (st_q := []) (h_q := h_279) (cl_q := 0) (sl_q := 0) rfl ?_
      refine ik_Wk 1 (pc_q := 1) (loc_q := [some (.ref 66)]) (st_q := [.ref 66]) (h_q := h_279) (cl_q := 0) (sl_q := 0) rfl ?_
      refine fw_gf rfl rfl g_279_66 rfl ?_
      refine ik_Wk 1 (pc_q := 5) (loc_q := [some (.ref 66)]) (st_q := [fI 1, fI pl]) (h_q := h_279) (cl_q := 0) (sl_q := 0) rfl ?_
      refine fw_ic_le rfl rfl (by omega) (by omega) (by omega) (by omega) (fun hc3 => ?_) (fun hc3 => ?_)
      · refine ik_Wk 1 (pc_q := 13) (loc_q := [some (.ref 66)]) (st_q := [fI 0]) (h_q := h_279) (cl_q := 0) (sl_q := 0) rfl ?_
        refine ik_Wret rfl rfl ⟨_, _, rfl, rfl, ?_⟩
        refine ik_Wk 0 (pc_q := 27) (loc_q := [some (.ref 66), some (fI 1), some (fI what), none, none, none, none, none, none]) (st_q := [fI 0]) (h_q := h_279) (cl_q := 0) (sl_q := 0) rfl ?_
        refine fw_if_ne rfl rfl (by decide +kernel) (by decide +kernel) (fun hc4 => ?_) (fun hc4 => absurd hc4 (by decide +kernel))
        refine fw_ld (-1000000003) rfl rfl (by decide +kernel) ?_
        exact ik_Wret rfl rfl ⟨_, _, rfl, rfl, rfl, rfl, ⟨(f 24), gt, gd, xs, ys, r1, r2, (congrArg (fun z => [fI z]) (by unfold an_mo; (repeat' split) <;> first | rfl | omega)), g_279_66, g_279_77, n77, g_279_78, n78, g_279_79, n79, g_279_80, n80, g_279_81, n81, g_279_82, n82, fr_279⟩⟩
      · refine ik_Wk 2 (pc_q := 13) (loc_q := [some (.ref 66)]) (st_q := [fI 1]) (h_q := h_279) (cl_q := 0) (sl_q := 0) rfl ?_
        refine ik_Wret rfl rfl ⟨_, _, rfl, rfl, ?_⟩
        refine ik_Wk 0 (pc_q := 27) (loc_q := [some (.ref 66), some (fI 1), some (fI what), none, none, none, none, none, none]) (st_q := [fI 1]) (h_q := h_279) (cl_q := 0) (sl_q := 0) rfl ?_
        refine fw_if_ne rfl rfl (by decide +kernel) (by decide +kernel) (fun hc5 => absurd hc5 (by decide +kernel)) (fun hc5 => ?_)
        refine ik_Wk 2 (pc_q := 35) (loc_q := [some (.ref 66), some (fI 1), some (fI what), none, none, none, none, none, none]) (st_q := [fI 1, .ref 66]) (h_q := h_279) (cl_q := 0) (sl_q := 0) rfl ?_
        refine fw_call 169 2 0 [.ref 66, fI 1] [] rfl rfl rfl (Nat.le_of_ble_eq_true rfl) rfl rfl (fw_rec k_279 rfl g_279_66 rfl (Nat.le_of_ble_eq_true rfl)) (cr_laterOf (pl := pl) (f := fun j => ((0 :: 0 :: 0 :: 0 :: 0 :: 0 :: 0 :: f 7 :: f 8 :: 0 :: f 10 :: f 11 :: f 12 :: f 13 :: f 14 :: f 15 :: f 16 :: f 17 :: 0 :: 0 :: 0 :: 0 :: 0 :: 0 :: f 24 :: 0 :: 0 :: 0 :: 0 :: 0 :: 0 :: 0 :: f 32 :: f 33 :: 0 :: 0 :: f 36 :: 0 :: 0 :: 0 :: 0 :: 0 :: 0 :: []) : List Int).getD j 0) (s := s) (cn := cn) (go := go) (ch := ch) (gt := gt) (gd := gd) (xs := xs) (ys := ys) (ka := ka) (pa := pa) (fa := fa) (kb := kb) (pb := pb) (fb := fb) (r1 := r1) (r2 := r2) (wh := 1) (by omega) (by omega) q2 q3 q4 q5 q6 (q7 (by omega)) (q8 (by omega)) q9 q10 (by omega) g_279_66 g_279_67 n67 g_279_68 n68 g_279_69 n69 g_279_77 n77 g_279_78 n78 g_279_79 n79 g_279_80 n80 g_279_70 g_279_81 n81 g_279_82 n82 k_279) ?_
        rintro _ h_280 ⟨w'_280, gt'_280, gd'_280, xs'_280, ys'_280, r1'_280, r2'_280, rfl, e_280_66, e_280_77, m_280_77, e_280_78, m_280_78, e_280_79, m_280_79, e_280_80, m_280_80, e_280_81, m_280_81, e_280_82, m_280_82, F_280⟩
        have k_280 : cL h_280 := F_280.1.trans k_279
        have fr_280 := hfr_cb fr_279 F_280 rfl
        have g_280_67 := (hfr_g F_280 67 rfl).trans g_279_67
        have g_280_68 := (hfr_g F_280 68 rfl).trans g_279_68
        have g_280_69 := (hfr_g F_280 69 rfl).trans g_279_69
        have g_280_70 := (hfr_g F_280 70 rfl).trans g_279_70
        have g_280_66 : cE h_280 66 (.inr (10, (fI pl :: .ref 67 :: .ref 68 :: .ref 69 :: fI ((s : Nat) : Int) :: .ref 70 :: .ref 71 :: fI (f 7) :: fI (f 8) :: .ref 72 :: fI (f 10) :: fI (f 11) :: fI (f 12) :: fJ (f 13) :: fI (f 14) :: fI (f 15) :: fI (f 16) :: fI (f 17) :: .ref 73 :: .ref 74 :: .ref 75 :: .ref 76 :: .ref 77 :: .ref 78 :: fI w'_280 :: .ref 79 :: .ref 80 :: .ref 81 :: .ref 82 :: .ref 83 :: .ref 84 :: .ref 85 :: fJ (f 32) :: fJ (f 33) :: .ref 86 :: .ref 87 :: fI (f 36) :: .ref 88 :: .ref 89 :: .ref 90 :: .ref 91 :: .ref 92 :: .ref 93 :: []))) := e_280_66
        have g_280_77 : cE h_280 77 (.inl (.int, fA gt'_280)) := e_280_77
        have g_280_78 : cE h_280 78 (.inl (.int, fA gd'_280)) := e_280_78
        have g_280_79 : cE h_280 79 (.inl (.long, fL xs'_280)) := e_280_79
        have g_280_80 : cE h_280 80 (.inl (.long, fL ys'_280)) := e_280_80
        have g_280_81 : cE h_280 81 (.inl (.long, fL r1'_280)) := e_280_81
        have g_280_82 : cE h_280 82 (.inl (.long, fL r2'_280)) := e_280_82
        refine ik_Wk 0 (pc_q := 38) (loc_q := [some (.ref 66), some (fI 1), some (fI what), none, none, none, none, none, none]) (st_q := [fI (mr_w (mf_cm (fun x => mx_w cn go ch s x) (pl - 1) ka pa) fa (mf_cm (fun x => mx_w cn go ch s x) (pl - 1) kb pb) fb 1)]) (h_q := h_280) (cl_q := 0) (sl_q := 0) rfl ?_
        have ka_280 := mr_ok_cm (W := (fun x => mx_w cn go ch s x)) (k := ka) q4 (q7 (by omega))
        have kb_280 := mr_ok_cm (W := (fun x => mx_w cn go ch s x)) (k := kb) q4 (q8 (by omega))
        have wb_280 := mr_w_b ka_280 kb_280 (show 0 ≤ fa by omega) (show 0 ≤ fb by omega) 1
        refine ik_Wk 7 (pc_q := 48) (loc_q := [some (.ref 66), some (fI 1), some (fI what), some (fI (mr_w (mf_cm (fun x => mx_w cn go ch s x) (pl - 1) ka pa) fa (mf_cm (fun x => mx_w cn go ch s x) (pl - 1) kb pb) fb 1)), some (fI (-1)), some (fI 0), some (fI 0), none, none]) (st_q := []) (h_q := h_280) (cl_q := 0) (sl_q := 0) rfl ?_
        exact rp_most1L (pl := pl) (f := f) (s := s) (cn := cn) (go := go) (ch := ch) (gt := gt) (gd := gd) (xs := xs) (ys := ys) (ka := ka) (pa := pa) (fa := fa) (kb := kb) (pb := pb) (fb := fb) (r1 := r1) (r2 := r2) (what := what) q0 q1 q2 q3 q4 q5 q6 q7 q8 q9 q10 q11 q12 (nw := mr_w (mf_cm (fun x => mx_w cn go ch s x) (pl - 1) ka pa) fa (mf_cm (fun x => mx_w cn go ch s x) (pl - 1) kb pb) fb 1) (by omega) (by omega) rfl wb_280 (pl.toNat + 1) 0 (-1) 0 w'_280 gt'_280 gd'_280 xs'_280 ys'_280 r1'_280 r2'_280 none none h_280 g_280_66 g_280_67 n67 g_280_68 n68 g_280_69 n69 g_280_77 m_280_77 g_280_78 m_280_78 g_280_79 m_280_79 g_280_80 m_280_80 g_280_70 g_280_81 m_280_81 g_280_82 m_280_82 k_280 fr_280 (by omega) (by omega) (by omega) (by rw [Int.sub_zero]) rfl rfl (by omega)
    · have k_279 : cL h_279 := F_279.1.trans k_278
      have fr_279 := hfr_cb fr_278 F_279 rfl
      have g_279_66 := (hfr_g F_279 66 rfl).trans g_278_66
      have g_279_67 := (hfr_g F_279 67 rfl).trans g_278_67
      have g_279_68 := (hfr_g F_279 68 rfl).trans g_278_68
      have g_279_69 := (hfr_g F_279 69 rfl).trans g_278_69
      have g_279_77 := (hfr_g F_279 77 rfl).trans g_278_77
      have g_279_78 := (hfr_g F_279 78 rfl).trans g_278_78
      have g_279_79 := (hfr_g F_279 79 rfl).trans g_278_79
      have g_279_80 := (hfr_g F_279 80 rfl).trans g_278_80
      have g_279_70 := (hfr_g F_279 70 rfl).trans g_278_70
      have g_279_81 := (hfr_g F_279 81 rfl).trans g_278_81
      have g_279_82 := (hfr_g F_279 82 rfl).trans g_278_82
      refine ik_Wk 0 (pc_q := 17) (loc_q := [some (.ref 66), some (fI 1), some (fI what), none, none, none, none, none, none]) (st_q := [fI 0]) (h_q := h_279) (cl_q := 0) (sl_q := 0) rfl ?_
      refine fw_if_ne rfl rfl (by decide +kernel) (by decide +kernel) (fun hc6 => ?_) (fun hc6 => absurd hc6 (by decide +kernel))
      refine fw_ld (-1000000002) rfl rfl (by decide +kernel) ?_
      exact ik_Wret rfl rfl ⟨_, _, rfl, rfl, rfl, rfl, ⟨(f 24), gt, gd, xs, ys, r1, r2, (congrArg (fun z => [fI z]) (by unfold an_mo; (repeat' split) <;> first | rfl | omega)), g_279_66, g_279_77, n77, g_279_78, n78, g_279_79, n79, g_279_80, n80, g_279_81, n81, g_279_82, n82, fr_279⟩⟩
  · have k_278 : cL h_278 := F_278.1.trans hl
    have fr_278 := hfr_cb (hfr_refl [66, 77, 78, 79, 80, 81, 82] h) F_278 rfl
    have g_278_66 := (hfr_g F_278 66 rfl).trans h66
    have g_278_67 := (hfr_g F_278 67 rfl).trans h67
    have g_278_68 := (hfr_g F_278 68 rfl).trans h68
    have g_278_69 := (hfr_g F_278 69 rfl).trans h69
    have g_278_77 := (hfr_g F_278 77 rfl).trans h77
    have g_278_78 := (hfr_g F_278 78 rfl).trans h78
    have g_278_79 := (hfr_g F_278 79 rfl).trans h79
    have g_278_80 := (hfr_g F_278 80 rfl).trans h80
    have g_278_70 := (hfr_g F_278 70 rfl).trans h70
    have g_278_81 := (hfr_g F_278 81 rfl).trans h81
    have g_278_82 := (hfr_g F_278 82 rfl).trans h82
    refine ik_Wk 0 (pc_q := 7) (loc_q := [some (fI 1)]) (st_q := [fI 0]) (h_q := h_278) (cl_q := 0) (sl_q := 0) rfl ?_
    refine ik_Wret rfl rfl ⟨_, _, rfl, rfl, ?_⟩
    refine ik_Wk 0 (pc_q := 4) (loc_q := [some (.ref 66), some (fI 1), some (fI what), none, none, none, none, none, none]) (st_q := [fI 0]) (h_q := h_278) (cl_q := 0) (sl_q := 0) rfl ?_
    refine fw_if_ne rfl rfl (by decide +kernel) (by decide +kernel) (fun hc7 => ?_) (fun hc7 => absurd hc7 (by decide +kernel))
    refine fw_ld (-1000000001) rfl rfl (by decide +kernel) ?_
    exact ik_Wret rfl rfl ⟨_, _, rfl, rfl, rfl, rfl, ⟨(f 24), gt, gd, xs, ys, r1, r2, (congrArg (fun z => [fI z]) (by unfold an_mo; (repeat' split) <;> first | rfl | omega)), g_278_66, g_278_77, n77, g_278_78, n78, g_278_79, n79, g_278_80, n80, g_278_81, n81, g_278_82, n82, fr_278⟩⟩

end

/-! 38zn.rbest -/
noncomputable section
/-! the reference: where to set in, runs, digging (written by wip/fx/u15.py) -/
theorem rp_best0I {h : List ik_E} {pl : Int} {f : Nat → Int} {s : Nat} {cn : List Int} {go : List Int} {ch : List Int} {gt : List Int} {gd : List Int} {xs : List Int} {ys : List Int} {ka : Int} {pa : Int} {fa : Int} {kb : Int} {pb : Int} {fb : Int} {r1 : List Int} {r2 : List Int} {m : Int} {what : Int} (q0 : 0 ≤ pl ∧ pl ≤ 12) (q1 : s < 4096) (q2 : ∀ x : Int, (0 : Int) ≤ x → x < pl - 1 → 0 ≤ cn.getD x.toNat 0 ∧ cn.getD x.toNat 0 ≤ 4) (q3 : ∀ x : Int, (0 : Int) ≤ x → x < pl - 1 → 1 ≤ cn.getD x.toNat 0 ∧ ∀ j : Int, 4 * x ≤ j → j < 4 * x + cn.getD x.toNat 0 → 0 ≤ ch.getD j.toNat 0 ∧ ch.getD j.toNat 0 ≤ 100) (q4 : ∀ x : Int, (0 : Int) ≤ x → x < pl - 1 → mx_ok pl (mx_w cn go ch s x)) (q5 : (0 : Int) ≤ ka ∧ ka ≤ (2 : Int)) (q6 : (0 : Int) ≤ kb ∧ kb ≤ (2 : Int)) (q7 : (1 : Int) < pl → (0 : Int) ≤ pa ∧ pa < pl - 1) (q8 : (1 : Int) < pl → (0 : Int) ≤ pb ∧ pb < pl - 1) (q9 : (0 : Int) ≤ fa ∧ fa ≤ (30 : Int)) (q10 : (0 : Int) ≤ fb ∧ fb ≤ (30 : Int)) (q11 : (-2147483648 : Int) ≤ m ∧ m < (2147483648 : Int)) (q12 : (-2147483648 : Int) ≤ what ∧ what < (2147483648 : Int)) (hm : (0 : Int) ≤ m ∧ m ≤ (10 : Int)) (p : Int) (hp : (0 : Int) ≤ p ∧ p < pl - 1) (X : Int × Int × Int) (w1 : Int) (g1 : List Int) (d1 : List Int) (x1 : List Int) (y1 : List Int) (s1 : List Int) (s2 : List Int) (hr1 : ∀ j : Nat, j ≤ 200 → s1.getD j 0 = (mf_cm (fun x => mx_w cn go ch s x) (pl - 1) ka p) j) (hr2 : ∀ j : Nat, j ≤ 200 → s2.getD j 0 = (mf_cm (fun x => mx_w cn go ch s x) (pl - 1) kb pb) j) {R : List Value → List ik_E → Prop} (K : ∀ (w : List ik_E) (i2 : Int) (mm : Int) (x : Int) (y : Int) (z : Int) (b : Int) (l : Int) (x10 : Option Value) (x11 : Option Value) (w66 : cE w 66 (.inr (10, (fI pl :: .ref 67 :: .ref 68 :: .ref 69 :: fI ((s : Nat) : Int) :: .ref 70 :: .ref 71 :: fI (f 7) :: fI (f 8) :: .ref 72 :: fI (f 10) :: fI (f 11) :: fI (f 12) :: fJ (f 13) :: fI (f 14) :: fI (f 15) :: fI (f 16) :: fI (f 17) :: .ref 73 :: .ref 74 :: .ref 75 :: .ref 76 :: .ref 77 :: .ref 78 :: fI w1 :: .ref 79 :: .ref 80 :: .ref 81 :: .ref 82 :: .ref 83 :: .ref 84 :: .ref 85 :: fJ (f 32) :: fJ (f 33) :: .ref 86 :: .ref 87 :: fI (f 36) :: .ref 88 :: .ref 89 :: .ref 90 :: .ref 91 :: .ref 92 :: .ref 93 :: [])))) (w67 : cE w 67 (.inl (.int, fA cn))) (nw_67 : cn.length = (12 : Nat)) (w68 : cE w 68 (.inl (.int, fA go))) (nw_68 : go.length = (48 : Nat)) (w69 : cE w 69 (.inl (.int, fA ch))) (nw_69 : ch.length = (48 : Nat)) (w77 : cE w 77 (.inl (.int, fA g1))) (nw_77 : g1.length = (5 : Nat)) (w78 : cE w 78 (.inl (.int, fA d1))) (nw_78 : d1.length = (5 : Nat)) (w79 : cE w 79 (.inl (.long, fL x1))) (nw_79 : x1.length = (12 : Nat)) (w80 : cE w 80 (.inl (.long, fL y1))) (nw_80 : y1.length = (12 : Nat)) (w70 : cE w 70 (.inl (.int, fA [ka, p, mm, kb, pb, fb]))) (w81 : cE w 81 (.inl (.long, fL s1))) (nw_81 : s1.length = (201 : Nat)) (w82 : cE w 82 (.inl (.long, fL s2))) (nw_82 : s2.length = (201 : Nat)) (wl : w.length = (94 : Nat)) (F : hfr [66, 77, 78, 79, 80, 81, 82, 70] h w) (hr : b = 100 * x + y ∧ l = z ∧ (0 : Int) ≤ x ∧ x < (12 : Int) ∧ (0 : Int) ≤ y ∧ y ≤ (10 : Int) ∧ (0 : Int) ≤ z ∧ z ≤ (1000000 : Int)) (hX : X = (x, y, z)) (v10 : ik_wl 94 x10 = true) (v11 : ik_wl 94 x11 = true), ik_G 171 194 [some (.ref 66), some (fI 0), some (fI m), some (fI what), some (fI pa), some (fI fa), some (fI b), some (fI l), some (fI p), some (fI i2), x10, x11] [] w R) : ∀ (k : Nat) (i : Int) (mm : Int) (x : Int) (y : Int) (z : Int) (b : Int) (l : Int) (x10 : Option Value) (x11 : Option Value) (u : List ik_E) (u66 : cE u 66 (.inr (10, (fI pl :: .ref 67 :: .ref 68 :: .ref 69 :: fI ((s : Nat) : Int) :: .ref 70 :: .ref 71 :: fI (f 7) :: fI (f 8) :: .ref 72 :: fI (f 10) :: fI (f 11) :: fI (f 12) :: fJ (f 13) :: fI (f 14) :: fI (f 15) :: fI (f 16) :: fI (f 17) :: .ref 73 :: .ref 74 :: .ref 75 :: .ref 76 :: .ref 77 :: .ref 78 :: fI w1 :: .ref 79 :: .ref 80 :: .ref 81 :: .ref 82 :: .ref 83 :: .ref 84 :: .ref 85 :: fJ (f 32) :: fJ (f 33) :: .ref 86 :: .ref 87 :: fI (f 36) :: .ref 88 :: .ref 89 :: .ref 90 :: .ref 91 :: .ref 92 :: .ref 93 :: [])))) (u67 : cE u 67 (.inl (.int, fA cn))) (n67 : cn.length = (12 : Nat)) (u68 : cE u 68 (.inl (.int, fA go))) (n68 : go.length = (48 : Nat)) (u69 : cE u 69 (.inl (.int, fA ch))) (n69 : ch.length = (48 : Nat)) (u77 : cE u 77 (.inl (.int, fA g1))) (n77 : g1.length = (5 : Nat)) (u78 : cE u 78 (.inl (.int, fA d1))) (n78 : d1.length = (5 : Nat)) (u79 : cE u 79 (.inl (.long, fL x1))) (n79 : x1.length = (12 : Nat)) (u80 : cE u 80 (.inl (.long, fL y1))) (n80 : y1.length = (12 : Nat)) (u70 : cE u 70 (.inl (.int, fA [ka, p, mm, kb, pb, fb]))) (u81 : cE u 81 (.inl (.long, fL s1))) (n81 : s1.length = (201 : Nat)) (u82 : cE u 82 (.inl (.long, fL s2))) (n82 : s2.length = (201 : Nat)) (ul : u.length = (94 : Nat)) (F : hfr [66, 77, 78, 79, 80, 81, 82, 70] h u) (hi : (0 : Int) ≤ i ∧ i ≤ m + 1) (hr : (((-1 : Int) ≤ b ∧ b < (0 : Int)) ∧ p = 0 ∧ i = 0 ∧ x = 0 ∧ y = 0 ∧ z = 1000001) ∨ (b = 100 * x + y ∧ l = z ∧ (0 : Int) ≤ x ∧ x < (12 : Int) ∧ (0 : Int) ≤ y ∧ y ≤ (10 : Int) ∧ (0 : Int) ≤ z ∧ z ≤ (1000000 : Int))) (he : X = (mk_bk (mk_vb (fun x => mx_w cn go ch s x) pl ka pa fa kb pb fb 0) p (m + 1 - i).toNat i x y z)) (v10 : ik_wl 94 x10 = true) (v11 : ik_wl 94 x11 = true) (hk : m + 1 - i < (k : Int)), ik_G 171 110 [some (.ref 66), some (fI 0), some (fI m), some (fI what), some (fI pa), some (fI fa), some (fI b), some (fI l), some (fI p), some (fI i), x10, x11] [] u R := by
  intro k
  induction k with
  | zero => intro i mm x y z b l x10 x11 u u66 u67 n67 u68 n68 u69 n69 u77 n77 u78 n78 u79 n79 u80 n80 u70 u81 n81 u82 n82 ul F hi hr he v10 v11 hk; omega
  | succ k ih =>
    intro i mm x y z b l x10 x11 u u66 u67 n67 u68 n68 u69 n69 u77 n77 u78 n78 u79 n79 u80 n80 u70 u81 n81 u82 n82 ul F hi hr he v10 v11 hk
    have k0 := mr_ok_cm (W := (fun x => mx_w cn go ch s x)) (k := ka) q4 hp
    have k1 := mr_ok_cm (W := (fun x => mx_w cn go ch s x)) (k := kb) q4 (q8 (by omega))
    refine ik_Wk 2 (pc_q := 113) (loc_q := [some (.ref 66), some (fI 0), some (fI m), some (fI what), some (fI pa), some (fI fa), some (fI b), some (fI l), some (fI p), some (fI i), x10, x11]) (st_q := [fI m, fI i]) (h_q := u) (cl_q := 0) (sl_q := 0) rfl ?_
    refine fw_ic_gt rfl rfl (by omega) (by omega) (by omega) (by omega) (fun hc1 => ?_) (fun hc1 => ?_)
    · rw [show (m + 1 - i).toNat = 0 by omega] at he
      exact K u i mm x y z b l x10 x11 u66 u67 n67 u68 n68 u69 n69 u77 n77 u78 n78 u79 n79 u80 n80 u70 u81 n81 u82 n82 ul F (by omega) he v10 v11
    · refine ik_Wk 1 (pc_q := 117) (loc_q := [some (.ref 66), some (fI 0), some (fI m), some (fI what), some (fI pa), some (fI fa), some (fI b), some (fI l), some (fI p), some (fI i), x10, x11]) (st_q := [.ref 66]) (h_q := u) (cl_q := 0) (sl_q := 0) rfl ?_
      refine fw_gf rfl rfl u66 rfl ?_
      refine ik_Wk 2 (pc_q := 122) (loc_q := [some (.ref 66), some (fI 0), some (fI m), some (fI what), some (fI pa), some (fI fa), some (fI b), some (fI l), some (fI p), some (fI i), x10, x11]) (st_q := [fI 0, fI 3, .ref 70]) (h_q := u) (cl_q := 0) (sl_q := 0) rfl ?_
      refine fw_mul rfl ?_
      refine ik_Wk 1 (pc_q := 124) (loc_q := [some (.ref 66), some (fI 0), some (fI m), some (fI what), some (fI pa), some (fI fa), some (fI b), some (fI l), some (fI p), some (fI i), x10, x11]) (st_q := [fI 2, fI 0, .ref 70]) (h_q := u) (cl_q := 0) (sl_q := 0) rfl ?_
      refine fw_add rfl ?_
      refine ik_Wk 1 (pc_q := 127) (loc_q := [some (.ref 66), some (fI 0), some (fI m), some (fI what), some (fI pa), some (fI fa), some (fI b), some (fI l), some (fI p), some (fI i), x10, x11]) (st_q := [fI i, fI 2, .ref 70]) (h_q := u) (cl_q := 0) (sl_q := 0) rfl ?_
      refine fx_ias (z := 2) rfl u70 (by decide +kernel) (Nat.le_of_ble_eq_true rfl) (by decide +kernel) ?_
      intro h_281 e_281 f_281 l_281
      have k_281 : cL h_281 := l_281.trans ul
      have fr_281 := hfr_wb F f_281 l_281 rfl
      clear l_281
      have g_281_66 := (f_281 66 (Nat.ne_of_beq_eq_false rfl)).trans u66
      have g_281_67 := (f_281 67 (Nat.ne_of_beq_eq_false rfl)).trans u67
      have g_281_68 := (f_281 68 (Nat.ne_of_beq_eq_false rfl)).trans u68
      have g_281_69 := (f_281 69 (Nat.ne_of_beq_eq_false rfl)).trans u69
      have g_281_77 := (f_281 77 (Nat.ne_of_beq_eq_false rfl)).trans u77
      have g_281_78 := (f_281 78 (Nat.ne_of_beq_eq_false rfl)).trans u78
      have g_281_79 := (f_281 79 (Nat.ne_of_beq_eq_false rfl)).trans u79
      have g_281_80 := (f_281 80 (Nat.ne_of_beq_eq_false rfl)).trans u80
      have g_281_81 := (f_281 81 (Nat.ne_of_beq_eq_false rfl)).trans u81
      have g_281_82 := (f_281 82 (Nat.ne_of_beq_eq_false rfl)).trans u82
      have g_281_70 : cE h_281 70 (.inl (.int, fA [ka, p, i, kb, pb, fb])) := e_281
      refine ik_Wk 2 (pc_q := 130) (loc_q := [some (.ref 66), some (fI 0), some (fI m), some (fI what), some (fI pa), some (fI fa), some (fI b), some (fI l), some (fI p), some (fI i), x10, x11]) (st_q := [fI 0, .ref 66]) (h_q := h_281) (cl_q := 0) (sl_q := 0) rfl ?_
      refine fw_call 168 2 0 [.ref 66, fI 0] [] rfl rfl rfl (Nat.le_of_ble_eq_true rfl) rfl rfl (fw_rec k_281 (fw_ftx rfl wv_n (wl_c rfl (wl_c rfl (wl_c rfl (wl_c rfl (wl_c rfl (wl_c rfl (wl_c rfl (wl_c rfl (wl_c rfl (wl_c rfl (wl_c v10 (wl_c v11 wl_n))))))))))))) g_281_66 rfl (by decide +kernel)) (cr_laterBy (f := fun j => ((pl :: 0 :: 0 :: 0 :: (((s : Nat) : Int)) :: 0 :: 0 :: f 7 :: f 8 :: 0 :: f 10 :: f 11 :: f 12 :: f 13 :: f 14 :: f 15 :: f 16 :: f 17 :: 0 :: 0 :: 0 :: 0 :: 0 :: 0 :: w1 :: 0 :: 0 :: 0 :: 0 :: 0 :: 0 :: 0 :: f 32 :: f 33 :: 0 :: 0 :: f 36 :: 0 :: 0 :: 0 :: 0 :: 0 :: 0 :: []) : List Int).getD j 0) (wh := 0) (ka := ka) (pa := p) (fa := i) (kb := kb) (pb := pb) (fb := fb) (r1 := s1) (r2 := s2) (c0 := (mf_cm (fun x => mx_w cn go ch s x) (pl - 1) ka p)) (c1 := (mf_cm (fun x => mx_w cn go ch s x) (pl - 1) kb pb)) (by omega) (by omega) (by omega) hr1 hr2 k0 k1 g_281_66 g_281_70 g_281_81 n81 g_281_82 n82 k_281) ?_
      rintro _ h_282 ⟨rfl, F_282⟩
      have k_282 : cL h_282 := F_282.1.trans k_281
      have fr_282 := hfr_cb fr_281 F_282 rfl
      have g_282_66 := (hfr_g F_282 66 rfl).trans g_281_66
      have g_282_67 := (hfr_g F_282 67 rfl).trans g_281_67
      have g_282_68 := (hfr_g F_282 68 rfl).trans g_281_68
      have g_282_69 := (hfr_g F_282 69 rfl).trans g_281_69
      have g_282_77 := (hfr_g F_282 77 rfl).trans g_281_77
      have g_282_78 := (hfr_g F_282 78 rfl).trans g_281_78
      have g_282_79 := (hfr_g F_282 79 rfl).trans g_281_79
      have g_282_80 := (hfr_g F_282 80 rfl).trans g_281_80
      have g_282_70 := (hfr_g F_282 70 rfl).trans g_281_70
      have g_282_81 := (hfr_g F_282 81 rfl).trans g_281_81
      have g_282_82 := (hfr_g F_282 82 rfl).trans g_281_82
      refine ik_Wk 0 (pc_q := 133) (loc_q := [some (.ref 66), some (fI 0), some (fI m), some (fI what), some (fI pa), some (fI fa), some (fI b), some (fI l), some (fI p), some (fI i), x10, x11]) (st_q := [fI (mr_w (mf_cm (fun x => mx_w cn go ch s x) (pl - 1) ka p) i (mf_cm (fun x => mx_w cn go ch s x) (pl - 1) kb pb) fb 0)]) (h_q := h_282) (cl_q := 0) (sl_q := 0) rfl ?_
      have wb_282 := mr_w_b k0 k1 (show 0 ≤ i by omega) (show 0 ≤ fb by omega) 0
      have ev : (mk_vb (fun x => mx_w cn go ch s x) pl ka pa fa kb pb fb 0) p i = mr_w (mf_cm (fun x => mx_w cn go ch s x) (pl - 1) ka p) i (mf_cm (fun x => mx_w cn go ch s x) (pl - 1) kb pb) fb 0 := if_pos rfl
      refine ik_Wk 2 (pc_q := 137) (loc_q := [some (.ref 66), some (fI 0), some (fI m), some (fI what), some (fI pa), some (fI fa), some (fI b), some (fI l), some (fI p), some (fI i), some (fI (mr_w (mf_cm (fun x => mx_w cn go ch s x) (pl - 1) ka p) i (mf_cm (fun x => mx_w cn go ch s x) (pl - 1) kb pb) fb 0)), x11]) (st_q := [fI b]) (h_q := h_282) (cl_q := 0) (sl_q := 0) rfl ?_
      refine fw_if_lt rfl rfl (by omega) (by omega) (fun hc2 => ?_) (fun hc2 => ?_)
      · refine ik_Wk 4 (pc_q := 156) (loc_q := [some (.ref 66), some (fI 0), some (fI m), some (fI what), some (fI pa), some (fI fa), some (fI b), some (fI l), some (fI p), some (fI i), some (fI (mr_w (mf_cm (fun x => mx_w cn go ch s x) (pl - 1) ka p) i (mf_cm (fun x => mx_w cn go ch s x) (pl - 1) kb pb) fb 0)), some (fI 1)]) (st_q := [fI 1]) (h_q := h_282) (cl_q := 0) (sl_q := 0) rfl ?_
        refine fw_if_eq rfl rfl (by decide +kernel) (by decide +kernel) (fun hc3 => absurd hc3 (by decide +kernel)) (fun hc3 => ?_)
        refine fw_bi rfl (by decide +kernel) ?_
        refine ik_Wk 1 (pc_q := 163) (loc_q := [some (.ref 66), some (fI 0), some (fI m), some (fI what), some (fI pa), some (fI fa), some (fI b), some (fI l), some (fI p), some (fI i), some (fI (mr_w (mf_cm (fun x => mx_w cn go ch s x) (pl - 1) ka p) i (mf_cm (fun x => mx_w cn go ch s x) (pl - 1) kb pb) fb 0)), some (fI 1)]) (st_q := [fI p, fI 100]) (h_q := h_282) (cl_q := 0) (sl_q := 0) rfl ?_
        refine fw_mul rfl ?_
        refine ik_Wk 1 (pc_q := 166) (loc_q := [some (.ref 66), some (fI 0), some (fI m), some (fI what), some (fI pa), some (fI fa), some (fI b), some (fI l), some (fI p), some (fI i), some (fI (mr_w (mf_cm (fun x => mx_w cn go ch s x) (pl - 1) ka p) i (mf_cm (fun x => mx_w cn go ch s x) (pl - 1) kb pb) fb 0)), some (fI 1)]) (st_q := [fI i, fI (100 * p)]) (h_q := h_282) (cl_q := 0) (sl_q := 0) rfl ?_
        refine fw_add rfl ?_
        refine ik_Wk 3 (pc_q := 176) (loc_q := [some (.ref 66), some (fI 0), some (fI m), some (fI what), some (fI pa), some (fI fa), some (fI ((100 * p) + i)), some (fI l), some (fI p), some (fI i), some (fI (mr_w (mf_cm (fun x => mx_w cn go ch s x) (pl - 1) ka p) i (mf_cm (fun x => mx_w cn go ch s x) (pl - 1) kb pb) fb 0)), some (fI 1)]) (st_q := [fI 1]) (h_q := h_282) (cl_q := 0) (sl_q := 0) rfl ?_
        refine fw_if_eq rfl rfl (by decide +kernel) (by decide +kernel) (fun hc4 => absurd hc4 (by decide +kernel)) (fun hc4 => ?_)
        refine ik_Wk 3 (pc_q := 188) (loc_q := [some (.ref 66), some (fI 0), some (fI m), some (fI what), some (fI pa), some (fI fa), some (fI ((100 * p) + i)), some (fI (mr_w (mf_cm (fun x => mx_w cn go ch s x) (pl - 1) ka p) i (mf_cm (fun x => mx_w cn go ch s x) (pl - 1) kb pb) fb 0)), some (fI p), some (fI i), some (fI (mr_w (mf_cm (fun x => mx_w cn go ch s x) (pl - 1) ka p) i (mf_cm (fun x => mx_w cn go ch s x) (pl - 1) kb pb) fb 0)), some (fI 1)]) (st_q := []) (h_q := h_282) (cl_q := 0) (sl_q := 0) rfl ?_
        refine fw_inc (a := i) (loc_q := [some (.ref 66), some (fI 0), some (fI m), some (fI what), some (fI pa), some (fI fa), some (fI ((100 * p) + i)), some (fI (mr_w (mf_cm (fun x => mx_w cn go ch s x) (pl - 1) ka p) i (mf_cm (fun x => mx_w cn go ch s x) (pl - 1) kb pb) fb 0)), some (fI p), some (fI (i + 1)), some (fI (mr_w (mf_cm (fun x => mx_w cn go ch s x) (pl - 1) ka p) i (mf_cm (fun x => mx_w cn go ch s x) (pl - 1) kb pb) fb 0)), some (fI 1)]) rfl rfl (Nat.le_of_ble_eq_true rfl) rfl ?_
        refine ik_Wk 1 (pc_q := 110) (loc_q := [some (.ref 66), some (fI 0), some (fI m), some (fI what), some (fI pa), some (fI fa), some (fI ((100 * p) + i)), some (fI (mr_w (mf_cm (fun x => mx_w cn go ch s x) (pl - 1) ka p) i (mf_cm (fun x => mx_w cn go ch s x) (pl - 1) kb pb) fb 0)), some (fI p), some (fI (i + 1)), some (fI (mr_w (mf_cm (fun x => mx_w cn go ch s x) (pl - 1) ka p) i (mf_cm (fun x => mx_w cn go ch s x) (pl - 1) kb pb) fb 0)), some (fI 1)]) (st_q := []) (h_q := h_282) (cl_q := 0) (sl_q := 0) rfl ?_
        have e1 : (m + 1 - i).toNat = (m + 1 - (i + 1)).toNat + 1 := by omega
        have he2 : X = (mk_bk (mk_vb (fun x => mx_w cn go ch s x) pl ka pa fa kb pb fb 0) p (m + 1 - (i + 1)).toNat (i + 1) p i (mr_w (mf_cm (fun x => mx_w cn go ch s x) (pl - 1) ka p) i (mf_cm (fun x => mx_w cn go ch s x) (pl - 1) kb pb) fb 0)) := by
          rw [he, e1]
          show (if (mk_vb (fun x => mx_w cn go ch s x) pl ka pa fa kb pb fb 0) p i < z then _ else _) = _
          rw [ev, if_pos (by omega)]
        exact ih (i + 1) i p i (mr_w (mf_cm (fun x => mx_w cn go ch s x) (pl - 1) ka p) i (mf_cm (fun x => mx_w cn go ch s x) (pl - 1) kb pb) fb 0) ((100 * p) + i) (mr_w (mf_cm (fun x => mx_w cn go ch s x) (pl - 1) ka p) i (mf_cm (fun x => mx_w cn go ch s x) (pl - 1) kb pb) fb 0) (some (fI (mr_w (mf_cm (fun x => mx_w cn go ch s x) (pl - 1) ka p) i (mf_cm (fun x => mx_w cn go ch s x) (pl - 1) kb pb) fb 0))) (some (fI 1)) h_282 g_282_66 g_282_67 n67 g_282_68 n68 g_282_69 n69 g_282_77 n77 g_282_78 n78 g_282_79 n79 g_282_80 n80 g_282_70 g_282_81 n81 g_282_82 n82 k_282 fr_282 (by omega) (by omega) he2 rfl rfl (by omega)
      · refine ik_Wk 2 (pc_q := 144) (loc_q := [some (.ref 66), some (fI 0), some (fI m), some (fI what), some (fI pa), some (fI fa), some (fI b), some (fI l), some (fI p), some (fI i), some (fI (mr_w (mf_cm (fun x => mx_w cn go ch s x) (pl - 1) ka p) i (mf_cm (fun x => mx_w cn go ch s x) (pl - 1) kb pb) fb 0)), x11]) (st_q := [fI l, fI (mr_w (mf_cm (fun x => mx_w cn go ch s x) (pl - 1) ka p) i (mf_cm (fun x => mx_w cn go ch s x) (pl - 1) kb pb) fb 0)]) (h_q := h_282) (cl_q := 0) (sl_q := 0) rfl ?_
        refine fw_ic_ge rfl rfl (by omega) (by omega) (by omega) (by omega) (fun hc5 => ?_) (fun hc5 => ?_)
        · refine ik_Wk 3 (pc_q := 156) (loc_q := [some (.ref 66), some (fI 0), some (fI m), some (fI what), some (fI pa), some (fI fa), some (fI b), some (fI l), some (fI p), some (fI i), some (fI (mr_w (mf_cm (fun x => mx_w cn go ch s x) (pl - 1) ka p) i (mf_cm (fun x => mx_w cn go ch s x) (pl - 1) kb pb) fb 0)), some (fI 0)]) (st_q := [fI 0]) (h_q := h_282) (cl_q := 0) (sl_q := 0) rfl ?_
          refine fw_if_eq rfl rfl (by decide +kernel) (by decide +kernel) (fun hc6 => ?_) (fun hc6 => absurd hc6 (by decide +kernel))
          refine ik_Wk 3 (pc_q := 176) (loc_q := [some (.ref 66), some (fI 0), some (fI m), some (fI what), some (fI pa), some (fI fa), some (fI b), some (fI l), some (fI p), some (fI i), some (fI (mr_w (mf_cm (fun x => mx_w cn go ch s x) (pl - 1) ka p) i (mf_cm (fun x => mx_w cn go ch s x) (pl - 1) kb pb) fb 0)), some (fI 0)]) (st_q := [fI 0]) (h_q := h_282) (cl_q := 0) (sl_q := 0) rfl ?_
          refine fw_if_eq rfl rfl (by decide +kernel) (by decide +kernel) (fun hc7 => ?_) (fun hc7 => absurd hc7 (by decide +kernel))
          refine ik_Wk 2 (pc_q := 188) (loc_q := [some (.ref 66), some (fI 0), some (fI m), some (fI what), some (fI pa), some (fI fa), some (fI b), some (fI l), some (fI p), some (fI i), some (fI (mr_w (mf_cm (fun x => mx_w cn go ch s x) (pl - 1) ka p) i (mf_cm (fun x => mx_w cn go ch s x) (pl - 1) kb pb) fb 0)), some (fI 0)]) (st_q := []) (h_q := h_282) (cl_q := 0) (sl_q := 0) rfl ?_
          refine fw_inc (a := i) (loc_q := [some (.ref 66), some (fI 0), some (fI m), some (fI what), some (fI pa), some (fI fa), some (fI b), some (fI l), some (fI p), some (fI (i + 1)), some (fI (mr_w (mf_cm (fun x => mx_w cn go ch s x) (pl - 1) ka p) i (mf_cm (fun x => mx_w cn go ch s x) (pl - 1) kb pb) fb 0)), some (fI 0)]) rfl rfl (Nat.le_of_ble_eq_true rfl) rfl ?_
          refine ik_Wk 1 (pc_q := 110) (loc_q := [some (.ref 66), some (fI 0), some (fI m), some (fI what), some (fI pa), some (fI fa), some (fI b), some (fI l), some (fI p), some (fI (i + 1)), some (fI (mr_w (mf_cm (fun x => mx_w cn go ch s x) (pl - 1) ka p) i (mf_cm (fun x => mx_w cn go ch s x) (pl - 1) kb pb) fb 0)), some (fI 0)]) (st_q := []) (h_q := h_282) (cl_q := 0) (sl_q := 0) rfl ?_
          have e1 : (m + 1 - i).toNat = (m + 1 - (i + 1)).toNat + 1 := by omega
          have he2 : X = (mk_bk (mk_vb (fun x => mx_w cn go ch s x) pl ka pa fa kb pb fb 0) p (m + 1 - (i + 1)).toNat (i + 1) x y z) := by
            rw [he, e1]
            show (if (mk_vb (fun x => mx_w cn go ch s x) pl ka pa fa kb pb fb 0) p i < z then _ else _) = _
            rw [ev, if_neg (by omega)]
          exact ih (i + 1) i x y z b l (some (fI (mr_w (mf_cm (fun x => mx_w cn go ch s x) (pl - 1) ka p) i (mf_cm (fun x => mx_w cn go ch s x) (pl - 1) kb pb) fb 0))) (some (fI 0)) h_282 g_282_66 g_282_67 n67 g_282_68 n68 g_282_69 n69 g_282_77 n77 g_282_78 n78 g_282_79 n79 g_282_80 n80 g_282_70 g_282_81 n81 g_282_82 n82 k_282 fr_282 (by omega) (by omega) he2 rfl rfl (by omega)
        · refine ik_Wk 4 (pc_q := 156) (loc_q := [some (.ref 66), some (fI 0), some (fI m), some (fI what), some (fI pa), some (fI fa), some (fI b), some (fI l), some (fI p), some (fI i), some (fI (mr_w (mf_cm (fun x => mx_w cn go ch s x) (pl - 1) ka p) i (mf_cm (fun x => mx_w cn go ch s x) (pl - 1) kb pb) fb 0)), some (fI 1)]) (st_q := [fI 1]) (h_q := h_282) (cl_q := 0) (sl_q := 0) rfl ?_
          refine fw_if_eq rfl rfl (by decide +kernel) (by decide +kernel) (fun hc8 => absurd hc8 (by decide +kernel)) (fun hc8 => ?_)
          refine fw_bi rfl (by decide +kernel) ?_
          refine ik_Wk 1 (pc_q := 163) (loc_q := [some (.ref 66), some (fI 0), some (fI m), some (fI what), some (fI pa), some (fI fa), some (fI b), some (fI l), some (fI p), some (fI i), some (fI (mr_w (mf_cm (fun x => mx_w cn go ch s x) (pl - 1) ka p) i (mf_cm (fun x => mx_w cn go ch s x) (pl - 1) kb pb) fb 0)), some (fI 1)]) (st_q := [fI p, fI 100]) (h_q := h_282) (cl_q := 0) (sl_q := 0) rfl ?_
          refine fw_mul rfl ?_
          refine ik_Wk 1 (pc_q := 166) (loc_q := [some (.ref 66), some (fI 0), some (fI m), some (fI what), some (fI pa), some (fI fa), some (fI b), some (fI l), some (fI p), some (fI i), some (fI (mr_w (mf_cm (fun x => mx_w cn go ch s x) (pl - 1) ka p) i (mf_cm (fun x => mx_w cn go ch s x) (pl - 1) kb pb) fb 0)), some (fI 1)]) (st_q := [fI i, fI (100 * p)]) (h_q := h_282) (cl_q := 0) (sl_q := 0) rfl ?_
          refine fw_add rfl ?_
          refine ik_Wk 3 (pc_q := 176) (loc_q := [some (.ref 66), some (fI 0), some (fI m), some (fI what), some (fI pa), some (fI fa), some (fI ((100 * p) + i)), some (fI l), some (fI p), some (fI i), some (fI (mr_w (mf_cm (fun x => mx_w cn go ch s x) (pl - 1) ka p) i (mf_cm (fun x => mx_w cn go ch s x) (pl - 1) kb pb) fb 0)), some (fI 1)]) (st_q := [fI 1]) (h_q := h_282) (cl_q := 0) (sl_q := 0) rfl ?_
          refine fw_if_eq rfl rfl (by decide +kernel) (by decide +kernel) (fun hc9 => absurd hc9 (by decide +kernel)) (fun hc9 => ?_)
          refine ik_Wk 3 (pc_q := 188) (loc_q := [some (.ref 66), some (fI 0), some (fI m), some (fI what), some (fI pa), some (fI fa), some (fI ((100 * p) + i)), some (fI (mr_w (mf_cm (fun x => mx_w cn go ch s x) (pl - 1) ka p) i (mf_cm (fun x => mx_w cn go ch s x) (pl - 1) kb pb) fb 0)), some (fI p), some (fI i), some (fI (mr_w (mf_cm (fun x => mx_w cn go ch s x) (pl - 1) ka p) i (mf_cm (fun x => mx_w cn go ch s x) (pl - 1) kb pb) fb 0)), some (fI 1)]) (st_q := []) (h_q := h_282) (cl_q := 0) (sl_q := 0) rfl ?_
          refine fw_inc (a := i) (loc_q := [some (.ref 66), some (fI 0), some (fI m), some (fI what), some (fI pa), some (fI fa), some (fI ((100 * p) + i)), some (fI (mr_w (mf_cm (fun x => mx_w cn go ch s x) (pl - 1) ka p) i (mf_cm (fun x => mx_w cn go ch s x) (pl - 1) kb pb) fb 0)), some (fI p), some (fI (i + 1)), some (fI (mr_w (mf_cm (fun x => mx_w cn go ch s x) (pl - 1) ka p) i (mf_cm (fun x => mx_w cn go ch s x) (pl - 1) kb pb) fb 0)), some (fI 1)]) rfl rfl (Nat.le_of_ble_eq_true rfl) rfl ?_
          refine ik_Wk 1 (pc_q := 110) (loc_q := [some (.ref 66), some (fI 0), some (fI m), some (fI what), some (fI pa), some (fI fa), some (fI ((100 * p) + i)), some (fI (mr_w (mf_cm (fun x => mx_w cn go ch s x) (pl - 1) ka p) i (mf_cm (fun x => mx_w cn go ch s x) (pl - 1) kb pb) fb 0)), some (fI p), some (fI (i + 1)), some (fI (mr_w (mf_cm (fun x => mx_w cn go ch s x) (pl - 1) ka p) i (mf_cm (fun x => mx_w cn go ch s x) (pl - 1) kb pb) fb 0)), some (fI 1)]) (st_q := []) (h_q := h_282) (cl_q := 0) (sl_q := 0) rfl ?_
          have e1 : (m + 1 - i).toNat = (m + 1 - (i + 1)).toNat + 1 := by omega
          have he2 : X = (mk_bk (mk_vb (fun x => mx_w cn go ch s x) pl ka pa fa kb pb fb 0) p (m + 1 - (i + 1)).toNat (i + 1) p i (mr_w (mf_cm (fun x => mx_w cn go ch s x) (pl - 1) ka p) i (mf_cm (fun x => mx_w cn go ch s x) (pl - 1) kb pb) fb 0)) := by
            rw [he, e1]
            show (if (mk_vb (fun x => mx_w cn go ch s x) pl ka pa fa kb pb fb 0) p i < z then _ else _) = _
            rw [ev, if_pos (by omega)]
          exact ih (i + 1) i p i (mr_w (mf_cm (fun x => mx_w cn go ch s x) (pl - 1) ka p) i (mf_cm (fun x => mx_w cn go ch s x) (pl - 1) kb pb) fb 0) ((100 * p) + i) (mr_w (mf_cm (fun x => mx_w cn go ch s x) (pl - 1) ka p) i (mf_cm (fun x => mx_w cn go ch s x) (pl - 1) kb pb) fb 0) (some (fI (mr_w (mf_cm (fun x => mx_w cn go ch s x) (pl - 1) ka p) i (mf_cm (fun x => mx_w cn go ch s x) (pl - 1) kb pb) fb 0))) (some (fI 1)) h_282 g_282_66 g_282_67 n67 g_282_68 n68 g_282_69 n69 g_282_77 n77 g_282_78 n78 g_282_79 n79 g_282_80 n80 g_282_70 g_282_81 n81 g_282_82 n82 k_282 fr_282 (by omega) (by omega) he2 rfl rfl (by omega)

theorem rp_best0L {h : List ik_E} {pl : Int} {f : Nat → Int} {s : Nat} {cn : List Int} {go : List Int} {ch : List Int} {gt : List Int} {gd : List Int} {xs : List Int} {ys : List Int} {ka : Int} {pa : Int} {fa : Int} {kb : Int} {pb : Int} {fb : Int} {r1 : List Int} {r2 : List Int} {m : Int} {what : Int} (q0 : 0 ≤ pl ∧ pl ≤ 12) (q1 : s < 4096) (q2 : ∀ x : Int, (0 : Int) ≤ x → x < pl - 1 → 0 ≤ cn.getD x.toNat 0 ∧ cn.getD x.toNat 0 ≤ 4) (q3 : ∀ x : Int, (0 : Int) ≤ x → x < pl - 1 → 1 ≤ cn.getD x.toNat 0 ∧ ∀ j : Int, 4 * x ≤ j → j < 4 * x + cn.getD x.toNat 0 → 0 ≤ ch.getD j.toNat 0 ∧ ch.getD j.toNat 0 ≤ 100) (q4 : ∀ x : Int, (0 : Int) ≤ x → x < pl - 1 → mx_ok pl (mx_w cn go ch s x)) (q5 : (0 : Int) ≤ ka ∧ ka ≤ (2 : Int)) (q6 : (0 : Int) ≤ kb ∧ kb ≤ (2 : Int)) (q7 : (1 : Int) < pl → (0 : Int) ≤ pa ∧ pa < pl - 1) (q8 : (1 : Int) < pl → (0 : Int) ≤ pb ∧ pb < pl - 1) (q9 : (0 : Int) ≤ fa ∧ fa ≤ (30 : Int)) (q10 : (0 : Int) ≤ fb ∧ fb ≤ (30 : Int)) (q11 : (-2147483648 : Int) ≤ m ∧ m < (2147483648 : Int)) (q12 : (-2147483648 : Int) ≤ what ∧ what < (2147483648 : Int)) (hpl : (1 : Int) < pl) (hm : (0 : Int) ≤ m ∧ m ≤ (10 : Int)) (hw : (0 : Int) ≤ what ∧ what ≤ (2 : Int)) : ∀ (k : Nat) (p : Int) (pm : Int) (mm : Int) (x : Int) (y : Int) (z : Int) (b : Int) (l : Int) (w1 : Int) (g1 : List Int) (d1 : List Int) (x1 : List Int) (y1 : List Int) (s1 : List Int) (s2 : List Int) (x9 : Option Value) (x10 : Option Value) (x11 : Option Value) (u : List ik_E) (u66 : cE u 66 (.inr (10, (fI pl :: .ref 67 :: .ref 68 :: .ref 69 :: fI ((s : Nat) : Int) :: .ref 70 :: .ref 71 :: fI (f 7) :: fI (f 8) :: .ref 72 :: fI (f 10) :: fI (f 11) :: fI (f 12) :: fJ (f 13) :: fI (f 14) :: fI (f 15) :: fI (f 16) :: fI (f 17) :: .ref 73 :: .ref 74 :: .ref 75 :: .ref 76 :: .ref 77 :: .ref 78 :: fI w1 :: .ref 79 :: .ref 80 :: .ref 81 :: .ref 82 :: .ref 83 :: .ref 84 :: .ref 85 :: fJ (f 32) :: fJ (f 33) :: .ref 86 :: .ref 87 :: fI (f 36) :: .ref 88 :: .ref 89 :: .ref 90 :: .ref 91 :: .ref 92 :: .ref 93 :: [])))) (u67 : cE u 67 (.inl (.int, fA cn))) (n67 : cn.length = (12 : Nat)) (u68 : cE u 68 (.inl (.int, fA go))) (n68 : go.length = (48 : Nat)) (u69 : cE u 69 (.inl (.int, fA ch))) (n69 : ch.length = (48 : Nat)) (u77 : cE u 77 (.inl (.int, fA g1))) (n77 : g1.length = (5 : Nat)) (u78 : cE u 78 (.inl (.int, fA d1))) (n78 : d1.length = (5 : Nat)) (u79 : cE u 79 (.inl (.long, fL x1))) (n79 : x1.length = (12 : Nat)) (u80 : cE u 80 (.inl (.long, fL y1))) (n80 : y1.length = (12 : Nat)) (u70 : cE u 70 (.inl (.int, fA [ka, pm, mm, kb, pb, fb]))) (u81 : cE u 81 (.inl (.long, fL s1))) (n81 : s1.length = (201 : Nat)) (u82 : cE u 82 (.inl (.long, fL s2))) (n82 : s2.length = (201 : Nat)) (ul : u.length = (94 : Nat)) (F : hfr [66, 77, 78, 79, 80, 81, 82, 70] h u) (hp : (0 : Int) ≤ p ∧ p ≤ pl - 1) (hr : (((-1 : Int) ≤ b ∧ b < (0 : Int)) ∧ p = 0 ∧ x = 0 ∧ y = 0 ∧ z = 1000001) ∨ (b = 100 * x + y ∧ l = z ∧ (0 : Int) ≤ x ∧ x < (12 : Int) ∧ (0 : Int) ≤ y ∧ y ≤ (10 : Int) ∧ (0 : Int) ≤ z ∧ z ≤ (1000000 : Int))) (he : (mk_bp (mk_vb (fun x => mx_w cn go ch s x) pl ka pa fa kb pb fb 0) (m.toNat + 1) (pl - 1).toNat 0 0 0 1000001) = mk_bp (mk_vb (fun x => mx_w cn go ch s x) pl ka pa fa kb pb fb 0) (m.toNat + 1) (pl - 1 - p).toNat p x y z) (v9 : ik_wl 94 x9 = true) (v10 : ik_wl 94 x10 = true) (v11 : ik_wl 94 x11 = true) (hk : pl - p < (k : Int)), ik_G 171 80 [some (.ref 66), some (fI 0), some (fI m), some (fI what), some (fI pa), some (fI fa), some (fI b), some (fI l), some (fI p), x9, x10, x11] [] u (fun rv h_q => ∃ (w' : Int) (gt' : List Int) (gd' : List Int) (xs' : List Int) (ys' : List Int) (r1' : List Int) (r2' : List Int), rv = [fI (an_be m what pl (if what = 0 then (mk_bp (mk_vb (fun x => mx_w cn go ch s x) pl ka pa fa kb pb fb 0) (m.toNat + 1) (pl - 1).toNat 0 0 0 1000001).1 else if what = 1 then (mk_bp (mk_vb (fun x => mx_w cn go ch s x) pl ka pa fa kb pb fb 0) (m.toNat + 1) (pl - 1).toNat 0 0 0 1000001).2.1 else (mk_bp (mk_vb (fun x => mx_w cn go ch s x) pl ka pa fa kb pb fb 0) (m.toNat + 1) (pl - 1).toNat 0 0 0 1000001).2.2))] ∧ cE h_q 66 (.inr (10, (fI pl :: .ref 67 :: .ref 68 :: .ref 69 :: fI ((s : Nat) : Int) :: .ref 70 :: .ref 71 :: fI (f 7) :: fI (f 8) :: .ref 72 :: fI (f 10) :: fI (f 11) :: fI (f 12) :: fJ (f 13) :: fI (f 14) :: fI (f 15) :: fI (f 16) :: fI (f 17) :: .ref 73 :: .ref 74 :: .ref 75 :: .ref 76 :: .ref 77 :: .ref 78 :: fI w' :: .ref 79 :: .ref 80 :: .ref 81 :: .ref 82 :: .ref 83 :: .ref 84 :: .ref 85 :: fJ (f 32) :: fJ (f 33) :: .ref 86 :: .ref 87 :: fI (f 36) :: .ref 88 :: .ref 89 :: .ref 90 :: .ref 91 :: .ref 92 :: .ref 93 :: []))) ∧ cE h_q 77 (.inl (.int, fA gt')) ∧ gt'.length = (5 : Nat) ∧ cE h_q 78 (.inl (.int, fA gd')) ∧ gd'.length = (5 : Nat) ∧ cE h_q 79 (.inl (.long, fL xs')) ∧ xs'.length = (12 : Nat) ∧ cE h_q 80 (.inl (.long, fL ys')) ∧ ys'.length = (12 : Nat) ∧ cE h_q 81 (.inl (.long, fL r1')) ∧ r1'.length = (201 : Nat) ∧ cE h_q 82 (.inl (.long, fL r2')) ∧ r2'.length = (201 : Nat) ∧ cE h_q 70 (.inl (.int, fA [ka, pa, fa, kb, pb, fb])) ∧ hfr [66, 77, 78, 79, 80, 81, 82, 70] h h_q) := by
  intro k
  induction k with
  | zero => intro p pm mm x y z b l w1 g1 d1 x1 y1 s1 s2 x9 x10 x11 u u66 u67 n67 u68 n68 u69 n69 u77 n77 u78 n78 u79 n79 u80 n80 u70 u81 n81 u82 n82 ul F hp hr he v9 v10 v11 hk; omega
  | succ k ih =>
    intro p pm mm x y z b l w1 g1 d1 x1 y1 s1 s2 x9 x10 x11 u u66 u67 n67 u68 n68 u69 n69 u77 n77 u78 n78 u79 n79 u80 n80 u70 u81 n81 u82 n82 ul F hp hr he v9 v10 v11 hk
    refine ik_Wk 2 (pc_q := 83) (loc_q := [some (.ref 66), some (fI 0), some (fI m), some (fI what), some (fI pa), some (fI fa), some (fI b), some (fI l), some (fI p), x9, x10, x11]) (st_q := [.ref 66, fI p]) (h_q := u) (cl_q := 0) (sl_q := 0) rfl ?_
    refine fw_gf rfl rfl u66 rfl ?_
    refine ik_Wk 1 (pc_q := 87) (loc_q := [some (.ref 66), some (fI 0), some (fI m), some (fI what), some (fI pa), some (fI fa), some (fI b), some (fI l), some (fI p), x9, x10, x11]) (st_q := [fI 1, fI pl, fI p]) (h_q := u) (cl_q := 0) (sl_q := 0) rfl ?_
    refine fw_sub rfl ?_
    refine fw_ic_ge rfl rfl (by omega) (by omega) (by omega) (by omega) (fun hc1 => ?_) (fun hc1 => ?_)
    · refine ik_Wk 1 (pc_q := 201) (loc_q := [some (.ref 66), some (fI 0), some (fI m), some (fI what), some (fI pa), some (fI fa), some (fI b), some (fI l), some (fI p), x9, x10, x11]) (st_q := [.ref 66]) (h_q := u) (cl_q := 0) (sl_q := 0) rfl ?_
      refine fw_gf rfl rfl u66 rfl ?_
      refine ik_Wk 2 (pc_q := 206) (loc_q := [some (.ref 66), some (fI 0), some (fI m), some (fI what), some (fI pa), some (fI fa), some (fI b), some (fI l), some (fI p), x9, x10, x11]) (st_q := [fI 0, fI 3, .ref 70]) (h_q := u) (cl_q := 0) (sl_q := 0) rfl ?_
      refine fw_mul rfl ?_
      refine ik_Wk 1 (pc_q := 208) (loc_q := [some (.ref 66), some (fI 0), some (fI m), some (fI what), some (fI pa), some (fI fa), some (fI b), some (fI l), some (fI p), x9, x10, x11]) (st_q := [fI 1, fI 0, .ref 70]) (h_q := u) (cl_q := 0) (sl_q := 0) rfl ?_
      refine fw_add rfl ?_
      refine ik_Wk 1 (pc_q := 211) (loc_q := [some (.ref 66), some (fI 0), some (fI m), some (fI what), some (fI pa), some (fI fa), some (fI b), some (fI l), some (fI p), x9, x10, x11]) (st_q := [fI pa, fI 1, .ref 70]) (h_q := u) (cl_q := 0) (sl_q := 0) rfl ?_
      refine fx_ias (z := 1) rfl u70 (by decide +kernel) (Nat.le_of_ble_eq_true rfl) (by decide +kernel) ?_
      intro h_283 e_283 f_283 l_283
      have k_283 : cL h_283 := l_283.trans ul
      have fr_283 := hfr_wb F f_283 l_283 rfl
      clear l_283
      have g_283_66 := (f_283 66 (Nat.ne_of_beq_eq_false rfl)).trans u66
      have g_283_67 := (f_283 67 (Nat.ne_of_beq_eq_false rfl)).trans u67
      have g_283_68 := (f_283 68 (Nat.ne_of_beq_eq_false rfl)).trans u68
      have g_283_69 := (f_283 69 (Nat.ne_of_beq_eq_false rfl)).trans u69
      have g_283_77 := (f_283 77 (Nat.ne_of_beq_eq_false rfl)).trans u77
      have g_283_78 := (f_283 78 (Nat.ne_of_beq_eq_false rfl)).trans u78
      have g_283_79 := (f_283 79 (Nat.ne_of_beq_eq_false rfl)).trans u79
      have g_283_80 := (f_283 80 (Nat.ne_of_beq_eq_false rfl)).trans u80
      have g_283_81 := (f_283 81 (Nat.ne_of_beq_eq_false rfl)).trans u81
      have g_283_82 := (f_283 82 (Nat.ne_of_beq_eq_false rfl)).trans u82
      have g_283_70 : cE h_283 70 (.inl (.int, fA [ka, pa, mm, kb, pb, fb])) := e_283
      refine ik_Wk 1 (pc_q := 213) (loc_q := [some (.ref 66), some (fI 0), some (fI m), some (fI what), some (fI pa), some (fI fa), some (fI b), some (fI l), some (fI p), x9, x10, x11]) (st_q := [.ref 66]) (h_q := h_283) (cl_q := 0) (sl_q := 0) rfl ?_
      refine fw_gf rfl rfl g_283_66 rfl ?_
      refine ik_Wk 2 (pc_q := 218) (loc_q := [some (.ref 66), some (fI 0), some (fI m), some (fI what), some (fI pa), some (fI fa), some (fI b), some (fI l), some (fI p), x9, x10, x11]) (st_q := [fI 0, fI 3, .ref 70]) (h_q := h_283) (cl_q := 0) (sl_q := 0) rfl ?_
      refine fw_mul rfl ?_
      refine ik_Wk 1 (pc_q := 220) (loc_q := [some (.ref 66), some (fI 0), some (fI m), some (fI what), some (fI pa), some (fI fa), some (fI b), some (fI l), some (fI p), x9, x10, x11]) (st_q := [fI 2, fI 0, .ref 70]) (h_q := h_283) (cl_q := 0) (sl_q := 0) rfl ?_
      refine fw_add rfl ?_
      refine ik_Wk 1 (pc_q := 223) (loc_q := [some (.ref 66), some (fI 0), some (fI m), some (fI what), some (fI pa), some (fI fa), some (fI b), some (fI l), some (fI p), x9, x10, x11]) (st_q := [fI fa, fI 2, .ref 70]) (h_q := h_283) (cl_q := 0) (sl_q := 0) rfl ?_
      refine fx_ias (z := 2) rfl g_283_70 (by decide +kernel) (Nat.le_of_ble_eq_true rfl) (by decide +kernel) ?_
      intro h_284 e_284 f_284 l_284
      have k_284 : cL h_284 := l_284.trans k_283
      have fr_284 := hfr_wb fr_283 f_284 l_284 rfl
      clear l_284
      have g_284_66 := (f_284 66 (Nat.ne_of_beq_eq_false rfl)).trans g_283_66
      have g_284_67 := (f_284 67 (Nat.ne_of_beq_eq_false rfl)).trans g_283_67
      have g_284_68 := (f_284 68 (Nat.ne_of_beq_eq_false rfl)).trans g_283_68
      have g_284_69 := (f_284 69 (Nat.ne_of_beq_eq_false rfl)).trans g_283_69
      have g_284_77 := (f_284 77 (Nat.ne_of_beq_eq_false rfl)).trans g_283_77
      have g_284_78 := (f_284 78 (Nat.ne_of_beq_eq_false rfl)).trans g_283_78
      have g_284_79 := (f_284 79 (Nat.ne_of_beq_eq_false rfl)).trans g_283_79
      have g_284_80 := (f_284 80 (Nat.ne_of_beq_eq_false rfl)).trans g_283_80
      have g_284_81 := (f_284 81 (Nat.ne_of_beq_eq_false rfl)).trans g_283_81
      have g_284_82 := (f_284 82 (Nat.ne_of_beq_eq_false rfl)).trans g_283_82
      have g_284_70 : cE h_284 70 (.inl (.int, fA [ka, pa, fa, kb, pb, fb])) := e_284
      refine ik_Wk 1 (pc_q := 225) (loc_q := [some (.ref 66), some (fI 0), some (fI m), some (fI what), some (fI pa), some (fI fa), some (fI b), some (fI l), some (fI p), x9, x10, x11]) (st_q := [fI what]) (h_q := h_284) (cl_q := 0) (sl_q := 0) rfl ?_
      refine fw_if_ne rfl rfl (by omega) (by omega) (fun hc2 => ?_) (fun hc2 => ?_)
      · refine ik_Wk 1 (pc_q := 230) (loc_q := [some (.ref 66), some (fI 0), some (fI m), some (fI what), some (fI pa), some (fI fa), some (fI b), some (fI l), some (fI p), x9, x10, x11]) (st_q := [fI b]) (h_q := h_284) (cl_q := 0) (sl_q := 0) rfl ?_
        refine fw_bi rfl (by decide +kernel) ?_
        refine fx_idiv rfl (by omega) (by omega) (by omega) (by omega) ?_
        refine ik_Wk 1 (pc_q := 251) (loc_q := [some (.ref 66), some (fI 0), some (fI m), some (fI what), some (fI pa), some (fI fa), some (fI b), some (fI l), some (fI p), x9, x10, x11]) (st_q := [fI (b / 100)]) (h_q := h_284) (cl_q := 0) (sl_q := 0) rfl ?_
        rw [show (pl - 1 - p).toNat = 0 by omega] at he
        have e0 : (mk_bp (mk_vb (fun x => mx_w cn go ch s x) pl ka pa fa kb pb fb 0) (m.toNat + 1) (pl - 1).toNat 0 0 0 1000001).1 = x := by rw [he]; rfl
        have e1 : (mk_bp (mk_vb (fun x => mx_w cn go ch s x) pl ka pa fa kb pb fb 0) (m.toNat + 1) (pl - 1).toNat 0 0 0 1000001).2.1 = y := by rw [he]; rfl
        have e2 : (mk_bp (mk_vb (fun x => mx_w cn go ch s x) pl ka pa fa kb pb fb 0) (m.toNat + 1) (pl - 1).toNat 0 0 0 1000001).2.2 = z := by rw [he]; rfl
        exact ik_Wret rfl rfl ⟨_, _, rfl, rfl, rfl, rfl, ⟨w1, g1, d1, x1, y1, s1, s2, (congrArg (fun z => [fI z]) (by rw [e0, e1, e2]; unfold an_be; (repeat' split) <;> omega)), g_284_66, g_284_77, n77, g_284_78, n78, g_284_79, n79, g_284_80, n80, g_284_81, n81, g_284_82, n82, g_284_70, fr_284⟩⟩
      · refine ik_Wk 2 (pc_q := 238) (loc_q := [some (.ref 66), some (fI 0), some (fI m), some (fI what), some (fI pa), some (fI fa), some (fI b), some (fI l), some (fI p), x9, x10, x11]) (st_q := [fI 1, fI what]) (h_q := h_284) (cl_q := 0) (sl_q := 0) rfl ?_
        refine fw_ic_ne rfl rfl (by omega) (by omega) (by omega) (by omega) (fun hc3 => ?_) (fun hc3 => ?_)
        · refine ik_Wk 1 (pc_q := 243) (loc_q := [some (.ref 66), some (fI 0), some (fI m), some (fI what), some (fI pa), some (fI fa), some (fI b), some (fI l), some (fI p), x9, x10, x11]) (st_q := [fI b]) (h_q := h_284) (cl_q := 0) (sl_q := 0) rfl ?_
          refine fw_bi rfl (by decide +kernel) ?_
          refine fx_irem rfl (by omega) (by omega) (by omega) (by omega) ?_
          refine ik_Wk 1 (pc_q := 251) (loc_q := [some (.ref 66), some (fI 0), some (fI m), some (fI what), some (fI pa), some (fI fa), some (fI b), some (fI l), some (fI p), x9, x10, x11]) (st_q := [fI (b % 100)]) (h_q := h_284) (cl_q := 0) (sl_q := 0) rfl ?_
          rw [show (pl - 1 - p).toNat = 0 by omega] at he
          have e0 : (mk_bp (mk_vb (fun x => mx_w cn go ch s x) pl ka pa fa kb pb fb 0) (m.toNat + 1) (pl - 1).toNat 0 0 0 1000001).1 = x := by rw [he]; rfl
          have e1 : (mk_bp (mk_vb (fun x => mx_w cn go ch s x) pl ka pa fa kb pb fb 0) (m.toNat + 1) (pl - 1).toNat 0 0 0 1000001).2.1 = y := by rw [he]; rfl
          have e2 : (mk_bp (mk_vb (fun x => mx_w cn go ch s x) pl ka pa fa kb pb fb 0) (m.toNat + 1) (pl - 1).toNat 0 0 0 1000001).2.2 = z := by rw [he]; rfl
          exact ik_Wret rfl rfl ⟨_, _, rfl, rfl, rfl, rfl, ⟨w1, g1, d1, x1, y1, s1, s2, (congrArg (fun z => [fI z]) (by rw [e0, e1, e2]; unfold an_be; (repeat' split) <;> omega)), g_284_66, g_284_77, n77, g_284_78, n78, g_284_79, n79, g_284_80, n80, g_284_81, n81, g_284_82, n82, g_284_70, fr_284⟩⟩
        · refine ik_Wk 1 (pc_q := 251) (loc_q := [some (.ref 66), some (fI 0), some (fI m), some (fI what), some (fI pa), some (fI fa), some (fI b), some (fI l), some (fI p), x9, x10, x11]) (st_q := [fI l]) (h_q := h_284) (cl_q := 0) (sl_q := 0) rfl ?_
          rw [show (pl - 1 - p).toNat = 0 by omega] at he
          have e0 : (mk_bp (mk_vb (fun x => mx_w cn go ch s x) pl ka pa fa kb pb fb 0) (m.toNat + 1) (pl - 1).toNat 0 0 0 1000001).1 = x := by rw [he]; rfl
          have e1 : (mk_bp (mk_vb (fun x => mx_w cn go ch s x) pl ka pa fa kb pb fb 0) (m.toNat + 1) (pl - 1).toNat 0 0 0 1000001).2.1 = y := by rw [he]; rfl
          have e2 : (mk_bp (mk_vb (fun x => mx_w cn go ch s x) pl ka pa fa kb pb fb 0) (m.toNat + 1) (pl - 1).toNat 0 0 0 1000001).2.2 = z := by rw [he]; rfl
          exact ik_Wret rfl rfl ⟨_, _, rfl, rfl, rfl, rfl, ⟨w1, g1, d1, x1, y1, s1, s2, (congrArg (fun z => [fI z]) (by rw [e0, e1, e2]; unfold an_be; (repeat' split) <;> omega)), g_284_66, g_284_77, n77, g_284_78, n78, g_284_79, n79, g_284_80, n80, g_284_81, n81, g_284_82, n82, g_284_70, fr_284⟩⟩
    · refine ik_Wk 1 (pc_q := 92) (loc_q := [some (.ref 66), some (fI 0), some (fI m), some (fI what), some (fI pa), some (fI fa), some (fI b), some (fI l), some (fI p), x9, x10, x11]) (st_q := [.ref 66]) (h_q := u) (cl_q := 0) (sl_q := 0) rfl ?_
      refine fw_gf rfl rfl u66 rfl ?_
      refine ik_Wk 2 (pc_q := 97) (loc_q := [some (.ref 66), some (fI 0), some (fI m), some (fI what), some (fI pa), some (fI fa), some (fI b), some (fI l), some (fI p), x9, x10, x11]) (st_q := [fI 0, fI 3, .ref 70]) (h_q := u) (cl_q := 0) (sl_q := 0) rfl ?_
      refine fw_mul rfl ?_
      refine ik_Wk 1 (pc_q := 99) (loc_q := [some (.ref 66), some (fI 0), some (fI m), some (fI what), some (fI pa), some (fI fa), some (fI b), some (fI l), some (fI p), x9, x10, x11]) (st_q := [fI 1, fI 0, .ref 70]) (h_q := u) (cl_q := 0) (sl_q := 0) rfl ?_
      refine fw_add rfl ?_
      refine ik_Wk 1 (pc_q := 102) (loc_q := [some (.ref 66), some (fI 0), some (fI m), some (fI what), some (fI pa), some (fI fa), some (fI b), some (fI l), some (fI p), x9, x10, x11]) (st_q := [fI p, fI 1, .ref 70]) (h_q := u) (cl_q := 0) (sl_q := 0) rfl ?_
      refine fx_ias (z := 1) rfl u70 (by decide +kernel) (Nat.le_of_ble_eq_true rfl) (by decide +kernel) ?_
      intro h_285 e_285 f_285 l_285
      have k_285 : cL h_285 := l_285.trans ul
      have fr_285 := hfr_wb F f_285 l_285 rfl
      clear l_285
      have g_285_66 := (f_285 66 (Nat.ne_of_beq_eq_false rfl)).trans u66
      have g_285_67 := (f_285 67 (Nat.ne_of_beq_eq_false rfl)).trans u67
      have g_285_68 := (f_285 68 (Nat.ne_of_beq_eq_false rfl)).trans u68
      have g_285_69 := (f_285 69 (Nat.ne_of_beq_eq_false rfl)).trans u69
      have g_285_77 := (f_285 77 (Nat.ne_of_beq_eq_false rfl)).trans u77
      have g_285_78 := (f_285 78 (Nat.ne_of_beq_eq_false rfl)).trans u78
      have g_285_79 := (f_285 79 (Nat.ne_of_beq_eq_false rfl)).trans u79
      have g_285_80 := (f_285 80 (Nat.ne_of_beq_eq_false rfl)).trans u80
      have g_285_81 := (f_285 81 (Nat.ne_of_beq_eq_false rfl)).trans u81
      have g_285_82 := (f_285 82 (Nat.ne_of_beq_eq_false rfl)).trans u82
      have g_285_70 : cE h_285 70 (.inl (.int, fA [ka, p, mm, kb, pb, fb])) := e_285
      refine ik_Wk 1 (pc_q := 104) (loc_q := [some (.ref 66), some (fI 0), some (fI m), some (fI what), some (fI pa), some (fI fa), some (fI b), some (fI l), some (fI p), x9, x10, x11]) (st_q := [.ref 66]) (h_q := h_285) (cl_q := 0) (sl_q := 0) rfl ?_
      refine fw_call 165 1 0 [.ref 66] [] rfl rfl rfl (Nat.le_of_ble_eq_true rfl) rfl rfl (fw_rec k_285 (fw_ftx rfl wv_n (wl_c rfl (wl_c rfl (wl_c rfl (wl_c rfl (wl_c rfl (wl_c rfl (wl_c rfl (wl_c rfl (wl_c rfl (wl_c v9 (wl_c v10 (wl_c v11 wl_n))))))))))))) g_285_66 rfl (by decide +kernel)) (cr_suitRows (pl := pl) (f := fun j => ((0 :: 0 :: 0 :: 0 :: 0 :: 0 :: 0 :: f 7 :: f 8 :: 0 :: f 10 :: f 11 :: f 12 :: f 13 :: f 14 :: f 15 :: f 16 :: f 17 :: 0 :: 0 :: 0 :: 0 :: 0 :: 0 :: w1 :: 0 :: 0 :: 0 :: 0 :: 0 :: 0 :: 0 :: f 32 :: f 33 :: 0 :: 0 :: f 36 :: 0 :: 0 :: 0 :: 0 :: 0 :: 0 :: []) : List Int).getD j 0) (s := s) (cn := cn) (go := go) (ch := ch) (gt := g1) (gd := d1) (xs := x1) (ys := y1) (ka := ka) (pa := p) (fa := mm) (kb := kb) (pb := pb) (fb := fb) (r1 := s1) (r2 := s2) (by omega) (by omega) q2 q3 q4 (by omega) (by omega) (by omega) (by have := q8 hpl; omega) g_285_66 g_285_67 n67 g_285_68 n68 g_285_69 n69 g_285_77 n77 g_285_78 n78 g_285_79 n79 g_285_80 n80 g_285_70 g_285_81 n81 g_285_82 n82 k_285) ?_
      rintro _ h_286 ⟨w'_286, gt'_286, gd'_286, xs'_286, ys'_286, r1'_286, r2'_286, rfl, e_286_66, e_286_77, m_286_77, e_286_78, m_286_78, e_286_79, m_286_79, e_286_80, m_286_80, e_286_81, m_286_81, e_286_82, m_286_82, p_286_0, p_286_1, F_286⟩
      have k_286 : cL h_286 := F_286.1.trans k_285
      have fr_286 := hfr_cb fr_285 F_286 rfl
      have g_286_67 := (hfr_g F_286 67 rfl).trans g_285_67
      have g_286_68 := (hfr_g F_286 68 rfl).trans g_285_68
      have g_286_69 := (hfr_g F_286 69 rfl).trans g_285_69
      have g_286_70 := (hfr_g F_286 70 rfl).trans g_285_70
      have g_286_66 : cE h_286 66 (.inr (10, (fI pl :: .ref 67 :: .ref 68 :: .ref 69 :: fI ((s : Nat) : Int) :: .ref 70 :: .ref 71 :: fI (f 7) :: fI (f 8) :: .ref 72 :: fI (f 10) :: fI (f 11) :: fI (f 12) :: fJ (f 13) :: fI (f 14) :: fI (f 15) :: fI (f 16) :: fI (f 17) :: .ref 73 :: .ref 74 :: .ref 75 :: .ref 76 :: .ref 77 :: .ref 78 :: fI w'_286 :: .ref 79 :: .ref 80 :: .ref 81 :: .ref 82 :: .ref 83 :: .ref 84 :: .ref 85 :: fJ (f 32) :: fJ (f 33) :: .ref 86 :: .ref 87 :: fI (f 36) :: .ref 88 :: .ref 89 :: .ref 90 :: .ref 91 :: .ref 92 :: .ref 93 :: []))) := e_286_66
      have g_286_77 : cE h_286 77 (.inl (.int, fA gt'_286)) := e_286_77
      have g_286_78 : cE h_286 78 (.inl (.int, fA gd'_286)) := e_286_78
      have g_286_79 : cE h_286 79 (.inl (.long, fL xs'_286)) := e_286_79
      have g_286_80 : cE h_286 80 (.inl (.long, fL ys'_286)) := e_286_80
      have g_286_81 : cE h_286 81 (.inl (.long, fL r1'_286)) := e_286_81
      have g_286_82 : cE h_286 82 (.inl (.long, fL r2'_286)) := e_286_82
      refine ik_Wk 0 (pc_q := 107) (loc_q := [some (.ref 66), some (fI 0), some (fI m), some (fI what), some (fI pa), some (fI fa), some (fI b), some (fI l), some (fI p), x9, x10, x11]) (st_q := []) (h_q := h_286) (cl_q := 0) (sl_q := 0) rfl ?_
      refine ik_Wk 2 (pc_q := 110) (loc_q := [some (.ref 66), some (fI 0), some (fI m), some (fI what), some (fI pa), some (fI fa), some (fI b), some (fI l), some (fI p), some (fI 0), x10, x11]) (st_q := []) (h_q := h_286) (cl_q := 0) (sl_q := 0) rfl ?_
      refine rp_best0I (pl := pl) (f := f) (s := s) (cn := cn) (go := go) (ch := ch) (gt := gt) (gd := gd) (xs := xs) (ys := ys) (ka := ka) (pa := pa) (fa := fa) (kb := kb) (pb := pb) (fb := fb) (r1 := r1) (r2 := r2) (m := m) (what := what) q0 q1 q2 q3 q4 q5 q6 q7 q8 q9 q10 q11 q12 hm p (by omega) (mk_bk (mk_vb (fun x => mx_w cn go ch s x) pl ka pa fa kb pb fb 0) p (m.toNat + 1) 0 x y z) w'_286 gt'_286 gd'_286 xs'_286 ys'_286 r1'_286 r2'_286 p_286_0 p_286_1 (R := (fun rv h_q => ∃ (w' : Int) (gt' : List Int) (gd' : List Int) (xs' : List Int) (ys' : List Int) (r1' : List Int) (r2' : List Int), rv = [fI (an_be m what pl (if what = 0 then (mk_bp (mk_vb (fun x => mx_w cn go ch s x) pl ka pa fa kb pb fb 0) (m.toNat + 1) (pl - 1).toNat 0 0 0 1000001).1 else if what = 1 then (mk_bp (mk_vb (fun x => mx_w cn go ch s x) pl ka pa fa kb pb fb 0) (m.toNat + 1) (pl - 1).toNat 0 0 0 1000001).2.1 else (mk_bp (mk_vb (fun x => mx_w cn go ch s x) pl ka pa fa kb pb fb 0) (m.toNat + 1) (pl - 1).toNat 0 0 0 1000001).2.2))] ∧ cE h_q 66 (.inr (10, (fI pl :: .ref 67 :: .ref 68 :: .ref 69 :: fI ((s : Nat) : Int) :: .ref 70 :: .ref 71 :: fI (f 7) :: fI (f 8) :: .ref 72 :: fI (f 10) :: fI (f 11) :: fI (f 12) :: fJ (f 13) :: fI (f 14) :: fI (f 15) :: fI (f 16) :: fI (f 17) :: .ref 73 :: .ref 74 :: .ref 75 :: .ref 76 :: .ref 77 :: .ref 78 :: fI w' :: .ref 79 :: .ref 80 :: .ref 81 :: .ref 82 :: .ref 83 :: .ref 84 :: .ref 85 :: fJ (f 32) :: fJ (f 33) :: .ref 86 :: .ref 87 :: fI (f 36) :: .ref 88 :: .ref 89 :: .ref 90 :: .ref 91 :: .ref 92 :: .ref 93 :: []))) ∧ cE h_q 77 (.inl (.int, fA gt')) ∧ gt'.length = 5 ∧ cE h_q 78 (.inl (.int, fA gd')) ∧ gd'.length = 5 ∧ cE h_q 79 (.inl (.long, fL xs')) ∧ xs'.length = 12 ∧ cE h_q 80 (.inl (.long, fL ys')) ∧ ys'.length = 12 ∧ cE h_q 81 (.inl (.long, fL r1')) ∧ r1'.length = 201 ∧ cE h_q 82 (.inl (.long, fL r2')) ∧ r2'.length = 201 ∧ cE h_q 70 (.inl (.int, fA [ka, pa, fa, kb, pb, fb])) ∧ hfr [66, 77, 78, 79, 80, 81, 82, 70] h h_q)) (fun h_287 i2_287 mm_287 x_287 y_287 z_287 b_287 l_287 x10_287 x11_287 g_287_66 g_287_67 m_287_67 g_287_68 m_287_68 g_287_69 m_287_69 g_287_77 m_287_77 g_287_78 m_287_78 g_287_79 m_287_79 g_287_80 m_287_80 g_287_70 g_287_81 m_287_81 g_287_82 m_287_82 k_287 fr_287 hr_287 hX_287 v10_287 v11_287 => ?_) (m.toNat + 2) 0 mm x y z b l x10 x11 h_286 g_286_66 g_286_67 n67 g_286_68 n68 g_286_69 n69 g_286_77 m_286_77 g_286_78 m_286_78 g_286_79 m_286_79 g_286_80 m_286_80 g_286_70 g_286_81 m_286_81 g_286_82 m_286_82 k_286 fr_286 (by omega) (by omega) (by rw [show (m + 1 - 0).toNat = m.toNat + 1 by omega]) v10 v11 (by omega)
      refine fw_inc (a := p) (loc_q := [some (.ref 66), some (fI 0), some (fI m), some (fI what), some (fI pa), some (fI fa), some (fI b_287), some (fI l_287), some (fI (p + 1)), some (fI i2_287), x10_287, x11_287]) rfl rfl (Nat.le_of_ble_eq_true rfl) rfl ?_
      refine ik_Wk 1 (pc_q := 80) (loc_q := [some (.ref 66), some (fI 0), some (fI m), some (fI what), some (fI pa), some (fI fa), some (fI b_287), some (fI l_287), some (fI (p + 1)), some (fI i2_287), x10_287, x11_287]) (st_q := []) (h_q := h_287) (cl_q := 0) (sl_q := 0) rfl ?_
      exact ih  (p + 1) p mm_287 x_287 y_287 z_287 b_287 l_287 w'_286 gt'_286 gd'_286 xs'_286 ys'_286 r1'_286 r2'_286 (some (fI i2_287)) x10_287 x11_287 h_287 g_287_66 g_287_67 m_287_67 g_287_68 m_287_68 g_287_69 m_287_69 g_287_77 m_287_77 g_287_78 m_287_78 g_287_79 m_287_79 g_287_80 m_287_80 g_287_70 g_287_81 m_287_81 g_287_82 m_287_82 k_287 fr_287 (by omega) (Or.inr hr_287) (by rw [he, show (pl - 1 - p).toNat = (pl - 1 - (p + 1)).toNat + 1 by omega]; show mk_bp (mk_vb (fun x => mx_w cn go ch s x) pl ka pa fa kb pb fb 0) (m.toNat + 1) _ (p + 1) _ _ _ = _; rw [hX_287]) rfl v10_287 v11_287 (by omega)

theorem rp_best0 {h : List ik_E} {pl : Int} {f : Nat → Int} {s : Nat} {cn : List Int} {go : List Int} {ch : List Int} {gt : List Int} {gd : List Int} {xs : List Int} {ys : List Int} {ka : Int} {pa : Int} {fa : Int} {kb : Int} {pb : Int} {fb : Int} {r1 : List Int} {r2 : List Int} {m : Int} {what : Int} (q0 : 0 ≤ pl ∧ pl ≤ 12) (q1 : s < 4096) (q2 : ∀ x : Int, (0 : Int) ≤ x → x < pl - 1 → 0 ≤ cn.getD x.toNat 0 ∧ cn.getD x.toNat 0 ≤ 4) (q3 : ∀ x : Int, (0 : Int) ≤ x → x < pl - 1 → 1 ≤ cn.getD x.toNat 0 ∧ ∀ j : Int, 4 * x ≤ j → j < 4 * x + cn.getD x.toNat 0 → 0 ≤ ch.getD j.toNat 0 ∧ ch.getD j.toNat 0 ≤ 100) (q4 : ∀ x : Int, (0 : Int) ≤ x → x < pl - 1 → mx_ok pl (mx_w cn go ch s x)) (q5 : (0 : Int) ≤ ka ∧ ka ≤ (2 : Int)) (q6 : (0 : Int) ≤ kb ∧ kb ≤ (2 : Int)) (q7 : (1 : Int) < pl → (0 : Int) ≤ pa ∧ pa < pl - 1) (q8 : (1 : Int) < pl → (0 : Int) ≤ pb ∧ pb < pl - 1) (q9 : (0 : Int) ≤ fa ∧ fa ≤ (30 : Int)) (q10 : (0 : Int) ≤ fb ∧ fb ≤ (30 : Int)) (q11 : (-2147483648 : Int) ≤ m ∧ m < (2147483648 : Int)) (q12 : (-2147483648 : Int) ≤ what ∧ what < (2147483648 : Int)) (h66 : cE h 66 (.inr (10, (fI pl :: .ref 67 :: .ref 68 :: .ref 69 :: fI ((s : Nat) : Int) :: .ref 70 :: .ref 71 :: fI (f 7) :: fI (f 8) :: .ref 72 :: fI (f 10) :: fI (f 11) :: fI (f 12) :: fJ (f 13) :: fI (f 14) :: fI (f 15) :: fI (f 16) :: fI (f 17) :: .ref 73 :: .ref 74 :: .ref 75 :: .ref 76 :: .ref 77 :: .ref 78 :: fI (f 24) :: .ref 79 :: .ref 80 :: .ref 81 :: .ref 82 :: .ref 83 :: .ref 84 :: .ref 85 :: fJ (f 32) :: fJ (f 33) :: .ref 86 :: .ref 87 :: fI (f 36) :: .ref 88 :: .ref 89 :: .ref 90 :: .ref 91 :: .ref 92 :: .ref 93 :: [])))) (h67 : cE h 67 (.inl (.int, fA cn))) (n67 : cn.length = (12 : Nat)) (h68 : cE h 68 (.inl (.int, fA go))) (n68 : go.length = (48 : Nat)) (h69 : cE h 69 (.inl (.int, fA ch))) (n69 : ch.length = (48 : Nat)) (h77 : cE h 77 (.inl (.int, fA gt))) (n77 : gt.length = (5 : Nat)) (h78 : cE h 78 (.inl (.int, fA gd))) (n78 : gd.length = (5 : Nat)) (h79 : cE h 79 (.inl (.long, fL xs))) (n79 : xs.length = (12 : Nat)) (h80 : cE h 80 (.inl (.long, fL ys))) (n80 : ys.length = (12 : Nat)) (h70 : cE h 70 (.inl (.int, fA [ka, pa, fa, kb, pb, fb]))) (h81 : cE h 81 (.inl (.long, fL r1))) (n81 : r1.length = (201 : Nat)) (h82 : cE h 82 (.inl (.long, fL r2))) (n82 : r2.length = (201 : Nat)) (hl : h.length = (94 : Nat)) : ik_F 171 [.ref 66, fI 0, fI m, fI what] h (fun rv h_q => ∃ (w' : Int) (gt' : List Int) (gd' : List Int) (xs' : List Int) (ys' : List Int) (r1' : List Int) (r2' : List Int), rv = [fI (an_be m what pl (if what = 0 then (mk_bp (mk_vb (fun x => mx_w cn go ch s x) pl ka pa fa kb pb fb 0) (m.toNat + 1) (pl - 1).toNat 0 0 0 1000001).1 else if what = 1 then (mk_bp (mk_vb (fun x => mx_w cn go ch s x) pl ka pa fa kb pb fb 0) (m.toNat + 1) (pl - 1).toNat 0 0 0 1000001).2.1 else (mk_bp (mk_vb (fun x => mx_w cn go ch s x) pl ka pa fa kb pb fb 0) (m.toNat + 1) (pl - 1).toNat 0 0 0 1000001).2.2))] ∧ cE h_q 66 (.inr (10, (fI pl :: .ref 67 :: .ref 68 :: .ref 69 :: fI ((s : Nat) : Int) :: .ref 70 :: .ref 71 :: fI (f 7) :: fI (f 8) :: .ref 72 :: fI (f 10) :: fI (f 11) :: fI (f 12) :: fJ (f 13) :: fI (f 14) :: fI (f 15) :: fI (f 16) :: fI (f 17) :: .ref 73 :: .ref 74 :: .ref 75 :: .ref 76 :: .ref 77 :: .ref 78 :: fI w' :: .ref 79 :: .ref 80 :: .ref 81 :: .ref 82 :: .ref 83 :: .ref 84 :: .ref 85 :: fJ (f 32) :: fJ (f 33) :: .ref 86 :: .ref 87 :: fI (f 36) :: .ref 88 :: .ref 89 :: .ref 90 :: .ref 91 :: .ref 92 :: .ref 93 :: []))) ∧ cE h_q 77 (.inl (.int, fA gt')) ∧ gt'.length = (5 : Nat) ∧ cE h_q 78 (.inl (.int, fA gd')) ∧ gd'.length = (5 : Nat) ∧ cE h_q 79 (.inl (.long, fL xs')) ∧ xs'.length = (12 : Nat) ∧ cE h_q 80 (.inl (.long, fL ys')) ∧ ys'.length = (12 : Nat) ∧ cE h_q 81 (.inl (.long, fL r1')) ∧ r1'.length = (201 : Nat) ∧ cE h_q 82 (.inl (.long, fL r2')) ∧ r2'.length = (201 : Nat) ∧ cE h_q 70 (.inl (.int, fA [ka, pa, fa, kb, pb, fb])) ∧ hfr [66, 77, 78, 79, 80, 81, 82, 70] h h_q) := by
  refine ik_Wk 1 (pc_q := 1) (loc_q := [some (.ref 66), some (fI 0), some (fI m), some (fI what), none, none, none, none, none, none, none, none]) (st_q := [fI 0]) (h_q := h) (cl_q := 0) (sl_q := 0) rfl ?_
  refine ik_Wc 132 1 3 [fI 0] [] rfl rfl rfl (by decide +kernel) rfl rfl (fw_sta hl rfl (by decide +kernel)) ?_
  refine ik_Wk 0 (pc_q := 0) (loc_q := [some (fI 0)]) (st_q := []) (h_q := h) (cl_q := 0) (sl_q := 0) rfl ?_
  refine ik_Wk 1 (pc_q := 1) (loc_q := [some (fI 0)]) (st_q := [fI 0]) (h_q := h) (cl_q := 0) (sl_q := 0) rfl ?_
  refine fw_i2l rfl (by omega) (by omega) ?_
  refine fw_lc (z := 0) rfl (by decide +kernel) ?_
  refine fw_lc (z := 1) rfl (by decide +kernel) ?_
  refine fw_call 127 3 3 [fJ 0, fJ 0, fJ 1] [] rfl rfl rfl (Nat.le_of_ble_eq_true rfl) rfl rfl (fw_sta hl rfl (by decide +kernel)) (cr_in (v := 0) (a := 0) (b := 1) (by omega) (by omega) (by omega)  hl) ?_
  rintro _ h_288 (⟨rfl, p_288_0, F_288⟩ | ⟨rfl, p_288_0, F_288⟩)
  · have k_288 : cL h_288 := F_288.1.trans hl
    have fr_288 := hfr_cb (hfr_refl [66, 77, 78, 79, 80, 81, 82, 70] h) F_288 rfl
    have g_288_66 := (hfr_g F_288 66 rfl).trans h66
    have g_288_67 := (hfr_g F_288 67 rfl).trans h67
    have g_288_68 := (hfr_g F_288 68 rfl).trans h68
    have g_288_69 := (hfr_g F_288 69 rfl).trans h69
    have g_288_77 := (hfr_g F_288 77 rfl).trans h77
    have g_288_78 := (hfr_g F_288 78 rfl).trans h78
    have g_288_79 := (hfr_g F_288 79 rfl).trans h79
    have g_288_80 := (hfr_g F_288 80 rfl).trans h80
    have g_288_70 := (hfr_g F_288 70 rfl).trans h70
    have g_288_81 := (hfr_g F_288 81 rfl).trans h81
    have g_288_82 := (hfr_g F_288 82 rfl).trans h82
    refine ik_Wk 0 (pc_q := 7) (loc_q := [some (fI 0)]) (st_q := [fI 1]) (h_q := h_288) (cl_q := 0) (sl_q := 0) rfl ?_
    refine ik_Wret rfl rfl ⟨_, _, rfl, rfl, ?_⟩
    refine ik_Wk 0 (pc_q := 4) (loc_q := [some (.ref 66), some (fI 0), some (fI m), some (fI what), none, none, none, none, none, none, none, none]) (st_q := [fI 1]) (h_q := h_288) (cl_q := 0) (sl_q := 0) rfl ?_
    refine fw_if_ne rfl rfl (by decide +kernel) (by decide +kernel) (fun hc1 => absurd hc1 (by decide +kernel)) (fun hc1 => ?_)
    refine ik_Wk 1 (pc_q := 11) (loc_q := [some (.ref 66), some (fI 0), some (fI m), some (fI what), none, none, none, none, none, none, none, none]) (st_q := [fI m]) (h_q := h_288) (cl_q := 0) (sl_q := 0) rfl ?_
    refine fw_i2l rfl (by omega) (by omega) ?_
    refine fw_lc (z := 0) rfl (by decide +kernel) ?_
    refine fw_l2 10 rfl rfl (by decide +kernel) ?_
    refine fw_call 127 3 3 [fJ m, fJ 0, fJ 10] [] rfl rfl rfl (Nat.le_of_ble_eq_true rfl) rfl rfl (fw_sta k_288 rfl (by decide +kernel)) (cr_in (v := m) (a := 0) (b := 10) (by omega) (by omega) (by omega)  k_288) ?_
    rintro _ h_289 (⟨rfl, p_289_0, F_289⟩ | ⟨rfl, p_289_0, F_289⟩)
    · have k_289 : cL h_289 := F_289.1.trans k_288
      have fr_289 := hfr_cb fr_288 F_289 rfl
      have g_289_66 := (hfr_g F_289 66 rfl).trans g_288_66
      have g_289_67 := (hfr_g F_289 67 rfl).trans g_288_67
      have g_289_68 := (hfr_g F_289 68 rfl).trans g_288_68
      have g_289_69 := (hfr_g F_289 69 rfl).trans g_288_69
      have g_289_77 := (hfr_g F_289 77 rfl).trans g_288_77
      have g_289_78 := (hfr_g F_289 78 rfl).trans g_288_78
      have g_289_79 := (hfr_g F_289 79 rfl).trans g_288_79
      have g_289_80 := (hfr_g F_289 80 rfl).trans g_288_80
      have g_289_70 := (hfr_g F_289 70 rfl).trans g_288_70
      have g_289_81 := (hfr_g F_289 81 rfl).trans g_288_81
      have g_289_82 := (hfr_g F_289 82 rfl).trans g_288_82
      refine ik_Wk 0 (pc_q := 19) (loc_q := [some (.ref 66), some (fI 0), some (fI m), some (fI what), none, none, none, none, none, none, none, none]) (st_q := [fI 1]) (h_q := h_289) (cl_q := 0) (sl_q := 0) rfl ?_
      refine fw_if_eq rfl rfl (by decide +kernel) (by decide +kernel) (fun hc2 => absurd hc2 (by decide +kernel)) (fun hc2 => ?_)
      refine ik_Wk 1 (pc_q := 23) (loc_q := [some (.ref 66), some (fI 0), some (fI m), some (fI what), none, none, none, none, none, none, none, none]) (st_q := [fI what]) (h_q := h_289) (cl_q := 0) (sl_q := 0) rfl ?_
      refine fw_i2l rfl (by omega) (by omega) ?_
      refine fw_lc (z := 0) rfl (by decide +kernel) ?_
      refine fw_l2 2 rfl rfl (by decide +kernel) ?_
      refine fw_call 127 3 3 [fJ what, fJ 0, fJ 2] [] rfl rfl rfl (Nat.le_of_ble_eq_true rfl) rfl rfl (fw_sta k_289 rfl (by decide +kernel)) (cr_in (v := what) (a := 0) (b := 2) (by omega) (by omega) (by omega)  k_289) ?_
      rintro _ h_290 (⟨rfl, p_290_0, F_290⟩ | ⟨rfl, p_290_0, F_290⟩)
      · have k_290 : cL h_290 := F_290.1.trans k_289
        have fr_290 := hfr_cb fr_289 F_290 rfl
        have g_290_66 := (hfr_g F_290 66 rfl).trans g_289_66
        have g_290_67 := (hfr_g F_290 67 rfl).trans g_289_67
        have g_290_68 := (hfr_g F_290 68 rfl).trans g_289_68
        have g_290_69 := (hfr_g F_290 69 rfl).trans g_289_69
        have g_290_77 := (hfr_g F_290 77 rfl).trans g_289_77
        have g_290_78 := (hfr_g F_290 78 rfl).trans g_289_78
        have g_290_79 := (hfr_g F_290 79 rfl).trans g_289_79
        have g_290_80 := (hfr_g F_290 80 rfl).trans g_289_80
        have g_290_70 := (hfr_g F_290 70 rfl).trans g_289_70
        have g_290_81 := (hfr_g F_290 81 rfl).trans g_289_81
        have g_290_82 := (hfr_g F_290 82 rfl).trans g_289_82
        refine ik_Wk 0 (pc_q := 31) (loc_q := [some (.ref 66), some (fI 0), some (fI m), some (fI what), none, none, none, none, none, none, none, none]) (st_q := [fI 1]) (h_q := h_290) (cl_q := 0) (sl_q := 0) rfl ?_
        refine fw_if_ne rfl rfl (by decide +kernel) (by decide +kernel) (fun hc3 => absurd hc3 (by decide +kernel)) (fun hc3 => ?_)
        refine ik_Wk 1 (pc_q := 38) (loc_q := [some (.ref 66), some (fI 0), some (fI m), some (fI what), none, none, none, none, none, none, none, none]) (st_q := [.ref 66]) (h_q := h_290) (cl_q := 0) (sl_q := 0) rfl ?_
        refine ik_Wc 134 1 0 [.ref 66] [] rfl rfl rfl (by decide +kernel) rfl rfl (fw_rec k_290 rfl g_290_66 rfl (Nat.le_of_ble_eq_true rfl)) ?_
        refine ik_Wk 0 (pc_q := 0) (loc_q := [some (.ref 66)]) (st_q := []) (h_q := h_290) (cl_q := 0) (sl_q := 0) rfl ?_
        refine ik_Wk 1 (pc_q := 1) (loc_q := [some (.ref 66)]) (st_q := [.ref 66]) (h_q := h_290) (cl_q := 0) (sl_q := 0) rfl ?_
        refine fw_gf rfl rfl g_290_66 rfl ?_
        refine ik_Wk 1 (pc_q := 5) (loc_q := [some (.ref 66)]) (st_q := [fI 1, fI pl]) (h_q := h_290) (cl_q := 0) (sl_q := 0) rfl ?_
        refine fw_ic_le rfl rfl (by omega) (by omega) (by omega) (by omega) (fun hc4 => ?_) (fun hc4 => ?_)
        · refine ik_Wk 1 (pc_q := 13) (loc_q := [some (.ref 66)]) (st_q := [fI 0]) (h_q := h_290) (cl_q := 0) (sl_q := 0) rfl ?_
          refine ik_Wret rfl rfl ⟨_, _, rfl, rfl, ?_⟩
          refine ik_Wk 0 (pc_q := 41) (loc_q := [some (.ref 66), some (fI 0), some (fI m), some (fI what), none, none, none, none, none, none, none, none]) (st_q := [fI 0]) (h_q := h_290) (cl_q := 0) (sl_q := 0) rfl ?_
          refine fw_if_ne rfl rfl (by decide +kernel) (by decide +kernel) (fun hc5 => ?_) (fun hc5 => absurd hc5 (by decide +kernel))
          refine fw_ld (-1000000003) rfl rfl (by decide +kernel) ?_
          exact ik_Wret rfl rfl ⟨_, _, rfl, rfl, rfl, rfl, ⟨(f 24), gt, gd, xs, ys, r1, r2, (congrArg (fun z => [fI z]) (by unfold an_be; (repeat' split) <;> first | rfl | omega)), g_290_66, g_290_77, n77, g_290_78, n78, g_290_79, n79, g_290_80, n80, g_290_81, n81, g_290_82, n82, g_290_70, fr_290⟩⟩
        · refine ik_Wk 2 (pc_q := 13) (loc_q := [some (.ref 66)]) (st_q := [fI 1]) (h_q := h_290) (cl_q := 0) (sl_q := 0) rfl ?_
          refine ik_Wret rfl rfl ⟨_, _, rfl, rfl, ?_⟩
          refine ik_Wk 0 (pc_q := 41) (loc_q := [some (.ref 66), some (fI 0), some (fI m), some (fI what), none, none, none, none, none, none, none, none]) (st_q := [fI 1]) (h_q := h_290) (cl_q := 0) (sl_q := 0) rfl ?_
          refine fw_if_ne rfl rfl (by decide +kernel) (by decide +kernel) (fun hc6 => absurd hc6 (by decide +kernel)) (fun hc6 => ?_)
          refine ik_Wk 1 (pc_q := 48) (loc_q := [some (.ref 66), some (fI 0), some (fI m), some (fI what), none, none, none, none, none, none, none, none]) (st_q := [.ref 66]) (h_q := h_290) (cl_q := 0) (sl_q := 0) rfl ?_
          refine fw_gf rfl rfl g_290_66 rfl ?_
          refine ik_Wk 2 (pc_q := 53) (loc_q := [some (.ref 66), some (fI 0), some (fI m), some (fI what), none, none, none, none, none, none, none, none]) (st_q := [fI 0, fI 3, .ref 70]) (h_q := h_290) (cl_q := 0) (sl_q := 0) rfl ?_
          refine fw_mul rfl ?_
          refine ik_Wk 1 (pc_q := 55) (loc_q := [some (.ref 66), some (fI 0), some (fI m), some (fI what), none, none, none, none, none, none, none, none]) (st_q := [fI 1, fI 0, .ref 70]) (h_q := h_290) (cl_q := 0) (sl_q := 0) rfl ?_
          refine fw_add rfl ?_
          refine fw_ial (z := 1) rfl g_290_70 (by decide +kernel) (Nat.le_of_ble_eq_true rfl) (by decide +kernel) ?_
          refine ik_Wk 0 (pc_q := 57) (loc_q := [some (.ref 66), some (fI 0), some (fI m), some (fI what), none, none, none, none, none, none, none, none]) (st_q := [fI pa]) (h_q := h_290) (cl_q := 0) (sl_q := 0) rfl ?_
          refine ik_Wk 2 (pc_q := 60) (loc_q := [some (.ref 66), some (fI 0), some (fI m), some (fI what), some (fI pa), none, none, none, none, none, none, none]) (st_q := [.ref 66]) (h_q := h_290) (cl_q := 0) (sl_q := 0) rfl ?_
          refine fw_gf rfl rfl g_290_66 rfl ?_
          refine ik_Wk 2 (pc_q := 65) (loc_q := [some (.ref 66), some (fI 0), some (fI m), some (fI what), some (fI pa), none, none, none, none, none, none, none]) (st_q := [fI 0, fI 3, .ref 70]) (h_q := h_290) (cl_q := 0) (sl_q := 0) rfl ?_
          refine fw_mul rfl ?_
          refine ik_Wk 1 (pc_q := 67) (loc_q := [some (.ref 66), some (fI 0), some (fI m), some (fI what), some (fI pa), none, none, none, none, none, none, none]) (st_q := [fI 2, fI 0, .ref 70]) (h_q := h_290) (cl_q := 0) (sl_q := 0) rfl ?_
          refine fw_add rfl ?_
          refine fw_ial (z := 2) rfl g_290_70 (by decide +kernel) (Nat.le_of_ble_eq_true rfl) (by decide +kernel) ?_
          refine ik_Wk 0 (pc_q := 69) (loc_q := [some (.ref 66), some (fI 0), some (fI m), some (fI what), some (fI pa), none, none, none, none, none, none, none]) (st_q := [fI fa]) (h_q := h_290) (cl_q := 0) (sl_q := 0) rfl ?_
          refine ik_Wk 7 (pc_q := 80) (loc_q := [some (.ref 66), some (fI 0), some (fI m), some (fI what), some (fI pa), some (fI fa), some (fI (-1)), some (fI 0), some (fI 0), none, none, none]) (st_q := []) (h_q := h_290) (cl_q := 0) (sl_q := 0) rfl ?_
          exact rp_best0L (pl := pl) (f := f) (s := s) (cn := cn) (go := go) (ch := ch) (gt := gt) (gd := gd) (xs := xs) (ys := ys) (ka := ka) (pa := pa) (fa := fa) (kb := kb) (pb := pb) (fb := fb) (r1 := r1) (r2 := r2) (m := m) (what := what) q0 q1 q2 q3 q4 q5 q6 q7 q8 q9 q10 q11 q12 (by omega) (by omega) (by omega) (pl.toNat + 1) 0 pa fa 0 0 1000001 (-1) 0 (f 24) gt gd xs ys r1 r2 none none none h_290 g_290_66 g_290_67 n67 g_290_68 n68 g_290_69 n69 g_290_77 n77 g_290_78 n78 g_290_79 n79 g_290_80 n80 g_290_70 g_290_81 n81 g_290_82 n82 k_290 fr_290 (by omega) (by omega) (by rw [Int.sub_zero]) rfl rfl rfl (by omega)
      · have k_290 : cL h_290 := F_290.1.trans k_289
        have fr_290 := hfr_cb fr_289 F_290 rfl
        have g_290_66 := (hfr_g F_290 66 rfl).trans g_289_66
        have g_290_67 := (hfr_g F_290 67 rfl).trans g_289_67
        have g_290_68 := (hfr_g F_290 68 rfl).trans g_289_68
        have g_290_69 := (hfr_g F_290 69 rfl).trans g_289_69
        have g_290_77 := (hfr_g F_290 77 rfl).trans g_289_77
        have g_290_78 := (hfr_g F_290 78 rfl).trans g_289_78
        have g_290_79 := (hfr_g F_290 79 rfl).trans g_289_79
        have g_290_80 := (hfr_g F_290 80 rfl).trans g_289_80
        have g_290_70 := (hfr_g F_290 70 rfl).trans g_289_70
        have g_290_81 := (hfr_g F_290 81 rfl).trans g_289_81
        have g_290_82 := (hfr_g F_290 82 rfl).trans g_289_82
        refine ik_Wk 0 (pc_q := 31) (loc_q := [some (.ref 66), some (fI 0), some (fI m), some (fI what), none, none, none, none, none, none, none, none]) (st_q := [fI 0]) (h_q := h_290) (cl_q := 0) (sl_q := 0) rfl ?_
        refine fw_if_ne rfl rfl (by decide +kernel) (by decide +kernel) (fun hc7 => ?_) (fun hc7 => absurd hc7 (by decide +kernel))
        refine fw_ld (-1000000002) rfl rfl (by decide +kernel) ?_
        exact ik_Wret rfl rfl ⟨_, _, rfl, rfl, rfl, rfl, ⟨(f 24), gt, gd, xs, ys, r1, r2, (congrArg (fun z => [fI z]) (by unfold an_be; (repeat' split) <;> first | rfl | omega)), g_290_66, g_290_77, n77, g_290_78, n78, g_290_79, n79, g_290_80, n80, g_290_81, n81, g_290_82, n82, g_290_70, fr_290⟩⟩
    · have k_289 : cL h_289 := F_289.1.trans k_288
      have fr_289 := hfr_cb fr_288 F_289 rfl
      have g_289_66 := (hfr_g F_289 66 rfl).trans g_288_66
      have g_289_67 := (hfr_g F_289 67 rfl).trans g_288_67
      have g_289_68 := (hfr_g F_289 68 rfl).trans g_288_68
      have g_289_69 := (hfr_g F_289 69 rfl).trans g_288_69
      have g_289_77 := (hfr_g F_289 77 rfl).trans g_288_77
      have g_289_78 := (hfr_g F_289 78 rfl).trans g_288_78
      have g_289_79 := (hfr_g F_289 79 rfl).trans g_288_79
      have g_289_80 := (hfr_g F_289 80 rfl).trans g_288_80
      have g_289_70 := (hfr_g F_289 70 rfl).trans g_288_70
      have g_289_81 := (hfr_g F_289 81 rfl).trans g_288_81
      have g_289_82 := (hfr_g F_289 82 rfl).trans g_288_82
      refine ik_Wk 0 (pc_q := 19) (loc_q := [some (.ref 66), some (fI 0), some (fI m), some (fI what), none, none, none, none, none, none, none, none]) (st_q := [fI 0]) (h_q := h_289) (cl_q := 0) (sl_q := 0) rfl ?_
      refine fw_if_eq rfl rfl (by decide +kernel) (by decide +kernel) (fun hc8 => ?_) (fun hc8 => absurd hc8 (by decide +kernel))
      refine fw_ld (-1000000002) rfl rfl (by decide +kernel) ?_
      exact ik_Wret rfl rfl ⟨_, _, rfl, rfl, rfl, rfl, ⟨(f 24), gt, gd, xs, ys, r1, r2, (congrArg (fun z => [fI z]) (by unfold an_be; (repeat' split) <;> first | rfl | omega)), g_289_66, g_289_77, n77, g_289_78, n78, g_289_79, n79, g_289_80, n80, g_289_81, n81, g_289_82, n82, g_289_70, fr_289⟩⟩
  · have k_288 : cL h_288 := F_288.1.trans hl
    have fr_288 := hfr_cb (hfr_refl [66, 77, 78, 79, 80, 81, 82, 70] h) F_288 rfl
    have g_288_66 := (hfr_g F_288 66 rfl).trans h66
    have g_288_67 := (hfr_g F_288 67 rfl).trans h67
    have g_288_68 := (hfr_g F_288 68 rfl).trans h68
    have g_288_69 := (hfr_g F_288 69 rfl).trans h69
    have g_288_77 := (hfr_g F_288 77 rfl).trans h77
    have g_288_78 := (hfr_g F_288 78 rfl).trans h78
    have g_288_79 := (hfr_g F_288 79 rfl).trans h79
    have g_288_80 := (hfr_g F_288 80 rfl).trans h80
    have g_288_70 := (hfr_g F_288 70 rfl).trans h70
    have g_288_81 := (hfr_g F_288 81 rfl).trans h81
    have g_288_82 := (hfr_g F_288 82 rfl).trans h82
    refine ik_Wk 0 (pc_q := 7) (loc_q := [some (fI 0)]) (st_q := [fI 0]) (h_q := h_288) (cl_q := 0) (sl_q := 0) rfl ?_
    refine ik_Wret rfl rfl ⟨_, _, rfl, rfl, ?_⟩
    refine ik_Wk 0 (pc_q := 4) (loc_q := [some (.ref 66), some (fI 0), some (fI m), some (fI what), none, none, none, none, none, none, none, none]) (st_q := [fI 0]) (h_q := h_288) (cl_q := 0) (sl_q := 0) rfl ?_
    refine fw_if_ne rfl rfl (by decide +kernel) (by decide +kernel) (fun hc9 => ?_) (fun hc9 => absurd hc9 (by decide +kernel))
    refine fw_ld (-1000000001) rfl rfl (by decide +kernel) ?_
    exact ik_Wret rfl rfl ⟨_, _, rfl, rfl, rfl, rfl, ⟨(f 24), gt, gd, xs, ys, r1, r2, (congrArg (fun z => [fI z]) (by unfold an_be; (repeat' split) <;> first | rfl | omega)), g_288_66, g_288_77, n77, g_288_78, n78, g_288_79, n79, g_288_80, n80, g_288_81, n81, g_288_82, n82, g_288_70, fr_288⟩⟩

theorem rp_best1I {h : List ik_E} {pl : Int} {f : Nat → Int} {s : Nat} {cn : List Int} {go : List Int} {ch : List Int} {gt : List Int} {gd : List Int} {xs : List Int} {ys : List Int} {ka : Int} {pa : Int} {fa : Int} {kb : Int} {pb : Int} {fb : Int} {r1 : List Int} {r2 : List Int} {m : Int} {what : Int} (q0 : 0 ≤ pl ∧ pl ≤ 12) (q1 : s < 4096) (q2 : ∀ x : Int, (0 : Int) ≤ x → x < pl - 1 → 0 ≤ cn.getD x.toNat 0 ∧ cn.getD x.toNat 0 ≤ 4) (q3 : ∀ x : Int, (0 : Int) ≤ x → x < pl - 1 → 1 ≤ cn.getD x.toNat 0 ∧ ∀ j : Int, 4 * x ≤ j → j < 4 * x + cn.getD x.toNat 0 → 0 ≤ ch.getD j.toNat 0 ∧ ch.getD j.toNat 0 ≤ 100) (q4 : ∀ x : Int, (0 : Int) ≤ x → x < pl - 1 → mx_ok pl (mx_w cn go ch s x)) (q5 : (0 : Int) ≤ ka ∧ ka ≤ (2 : Int)) (q6 : (0 : Int) ≤ kb ∧ kb ≤ (2 : Int)) (q7 : (1 : Int) < pl → (0 : Int) ≤ pa ∧ pa < pl - 1) (q8 : (1 : Int) < pl → (0 : Int) ≤ pb ∧ pb < pl - 1) (q9 : (0 : Int) ≤ fa ∧ fa ≤ (30 : Int)) (q10 : (0 : Int) ≤ fb ∧ fb ≤ (30 : Int)) (q11 : (-2147483648 : Int) ≤ m ∧ m < (2147483648 : Int)) (q12 : (-2147483648 : Int) ≤ what ∧ what < (2147483648 : Int)) (hm : (0 : Int) ≤ m ∧ m ≤ (10 : Int)) (p : Int) (hp : (0 : Int) ≤ p ∧ p < pl - 1) (X : Int × Int × Int) (w1 : Int) (g1 : List Int) (d1 : List Int) (x1 : List Int) (y1 : List Int) (s1 : List Int) (s2 : List Int) (hr1 : ∀ j : Nat, j ≤ 200 → s1.getD j 0 = (mf_cm (fun x => mx_w cn go ch s x) (pl - 1) ka pa) j) (hr2 : ∀ j : Nat, j ≤ 200 → s2.getD j 0 = (mf_cm (fun x => mx_w cn go ch s x) (pl - 1) kb p) j) {R : List Value → List ik_E → Prop} (K : ∀ (w : List ik_E) (i2 : Int) (mm : Int) (x : Int) (y : Int) (z : Int) (b : Int) (l : Int) (x10 : Option Value) (x11 : Option Value) (w66 : cE w 66 (.inr (10, (fI pl :: .ref 67 :: .ref 68 :: .ref 69 :: fI ((s : Nat) : Int) :: .ref 70 :: .ref 71 :: fI (f 7) :: fI (f 8) :: .ref 72 :: fI (f 10) :: fI (f 11) :: fI (f 12) :: fJ (f 13) :: fI (f 14) :: fI (f 15) :: fI (f 16) :: fI (f 17) :: .ref 73 :: .ref 74 :: .ref 75 :: .ref 76 :: .ref 77 :: .ref 78 :: fI w1 :: .ref 79 :: .ref 80 :: .ref 81 :: .ref 82 :: .ref 83 :: .ref 84 :: .ref 85 :: fJ (f 32) :: fJ (f 33) :: .ref 86 :: .ref 87 :: fI (f 36) :: .ref 88 :: .ref 89 :: .ref 90 :: .ref 91 :: .ref 92 :: .ref 93 :: [])))) (w67 : cE w 67 (.inl (.int, fA cn))) (nw_67 : cn.length = (12 : Nat)) (w68 : cE w 68 (.inl (.int, fA go))) (nw_68 : go.length = (48 : Nat)) (w69 : cE w 69 (.inl (.int, fA ch))) (nw_69 : ch.length = (48 : Nat)) (w77 : cE w 77 (.inl (.int, fA g1))) (nw_77 : g1.length = (5 : Nat)) (w78 : cE w 78 (.inl (.int, fA d1))) (nw_78 : d1.length = (5 : Nat)) (w79 : cE w 79 (.inl (.long, fL x1))) (nw_79 : x1.length = (12 : Nat)) (w80 : cE w 80 (.inl (.long, fL y1))) (nw_80 : y1.length = (12 : Nat)) (w70 : cE w 70 (.inl (.int, fA [ka, pa, fa, kb, p, mm]))) (w81 : cE w 81 (.inl (.long, fL s1))) (nw_81 : s1.length = (201 : Nat)) (w82 : cE w 82 (.inl (.long, fL s2))) (nw_82 : s2.length = (201 : Nat)) (wl : w.length = (94 : Nat)) (F : hfr [66, 77, 78, 79, 80, 81, 82, 70] h w) (hr : b = 100 * x + y ∧ l = z ∧ (0 : Int) ≤ x ∧ x < (12 : Int) ∧ (0 : Int) ≤ y ∧ y ≤ (10 : Int) ∧ (0 : Int) ≤ z ∧ z ≤ (1000000 : Int)) (hX : X = (x, y, z)) (v10 : ik_wl 94 x10 = true) (v11 : ik_wl 94 x11 = true), ik_G 171 194 [some (.ref 66), some (fI 1), some (fI m), some (fI what), some (fI pb), some (fI fb), some (fI b), some (fI l), some (fI p), some (fI i2), x10, x11] [] w R) : ∀ (k : Nat) (i : Int) (mm : Int) (x : Int) (y : Int) (z : Int) (b : Int) (l : Int) (x10 : Option Value) (x11 : Option Value) (u : List ik_E) (u66 : cE u 66 (.inr (10, (fI pl :: .ref 67 :: .ref 68 :: .ref 69 :: fI ((s : Nat) : Int) :: .ref 70 :: .ref 71 :: fI (f 7) :: fI (f 8) :: .ref 72 :: fI (f 10) :: fI (f 11) :: fI (f 12) :: fJ (f 13) :: fI (f 14) :: fI (f 15) :: fI (f 16) :: fI (f 17) :: .ref 73 :: .ref 74 :: .ref 75 :: .ref 76 :: .ref 77 :: .ref 78 :: fI w1 :: .ref 79 :: .ref 80 :: .ref 81 :: .ref 82 :: .ref 83 :: .ref 84 :: .ref 85 :: fJ (f 32) :: fJ (f 33) :: .ref 86 :: .ref 87 :: fI (f 36) :: .ref 88 :: .ref 89 :: .ref 90 :: .ref 91 :: .ref 92 :: .ref 93 :: [])))) (u67 : cE u 67 (.inl (.int, fA cn))) (n67 : cn.length = (12 : Nat)) (u68 : cE u 68 (.inl (.int, fA go))) (n68 : go.length = (48 : Nat)) (u69 : cE u 69 (.inl (.int, fA ch))) (n69 : ch.length = (48 : Nat)) (u77 : cE u 77 (.inl (.int, fA g1))) (n77 : g1.length = (5 : Nat)) (u78 : cE u 78 (.inl (.int, fA d1))) (n78 : d1.length = (5 : Nat)) (u79 : cE u 79 (.inl (.long, fL x1))) (n79 : x1.length = (12 : Nat)) (u80 : cE u 80 (.inl (.long, fL y1))) (n80 : y1.length = (12 : Nat)) (u70 : cE u 70 (.inl (.int, fA [ka, pa, fa, kb, p, mm]))) (u81 : cE u 81 (.inl (.long, fL s1))) (n81 : s1.length = (201 : Nat)) (u82 : cE u 82 (.inl (.long, fL s2))) (n82 : s2.length = (201 : Nat)) (ul : u.length = (94 : Nat)) (F : hfr [66, 77, 78, 79, 80, 81, 82, 70] h u) (hi : (0 : Int) ≤ i ∧ i ≤ m + 1) (hr : (((-1 : Int) ≤ b ∧ b < (0 : Int)) ∧ p = 0 ∧ i = 0 ∧ x = 0 ∧ y = 0 ∧ z = 1000001) ∨ (b = 100 * x + y ∧ l = z ∧ (0 : Int) ≤ x ∧ x < (12 : Int) ∧ (0 : Int) ≤ y ∧ y ≤ (10 : Int) ∧ (0 : Int) ≤ z ∧ z ≤ (1000000 : Int))) (he : X = (mk_bk (mk_vb (fun x => mx_w cn go ch s x) pl ka pa fa kb pb fb 1) p (m + 1 - i).toNat i x y z)) (v10 : ik_wl 94 x10 = true) (v11 : ik_wl 94 x11 = true) (hk : m + 1 - i < (k : Int)), ik_G 171 110 [some (.ref 66), some (fI 1), some (fI m), some (fI what), some (fI pb), some (fI fb), some (fI b), some (fI l), some (fI p), some (fI i), x10, x11] [] u R := by
  intro k
  induction k with
  | zero => intro i mm x y z b l x10 x11 u u66 u67 n67 u68 n68 u69 n69 u77 n77 u78 n78 u79 n79 u80 n80 u70 u81 n81 u82 n82 ul F hi hr he v10 v11 hk; omega
  | succ k ih =>
    intro i mm x y z b l x10 x11 u u66 u67 n67 u68 n68 u69 n69 u77 n77 u78 n78 u79 n79 u80 n80 u70 u81 n81 u82 n82 ul F hi hr he v10 v11 hk
    have k0 := mr_ok_cm (W := (fun x => mx_w cn go ch s x)) (k := ka) q4 (q7 (by omega))
    have k1 := mr_ok_cm (W := (fun x => mx_w cn go ch s x)) (k := kb) q4 hp
    refine ik_Wk 2 (pc_q := 113) (loc_q := [some (.ref 66), some (fI 1), some (fI m), some (fI what), some (fI pb), some (fI fb), some (fI b), some (fI l), some (fI p), some (fI i), x10, x11]) (st_q := [fI m, fI i]) (h_q := u) (cl_q := 0) (sl_q := 0) rfl ?_
    refine fw_ic_gt rfl rfl (by omega) (by omega) (by omega) (by omega) (fun hc1 => ?_) (fun hc1 => ?_)
    · rw [show (m + 1 - i).toNat = 0 by omega] at he
      exact K u i mm x y z b l x10 x11 u66 u67 n67 u68 n68 u69 n69 u77 n77 u78 n78 u79 n79 u80 n80 u70 u81 n81 u82 n82 ul F (by omega) he v10 v11
    · refine ik_Wk 1 (pc_q := 117) (loc_q := [some (.ref 66), some (fI 1), some (fI m), some (fI what), some (fI pb), some (fI fb), some (fI b), some (fI l), some (fI p), some (fI i), x10, x11]) (st_q := [.ref 66]) (h_q := u) (cl_q := 0) (sl_q := 0) rfl ?_
      refine fw_gf rfl rfl u66 rfl ?_
      refine ik_Wk 2 (pc_q := 122) (loc_q := [some (.ref 66), some (fI 1), some (fI m), some (fI what), some (fI pb), some (fI fb), some (fI b), some (fI l), some (fI p), some (fI i), x10, x11]) (st_q := [fI 1, fI 3, .ref 70]) (h_q := u) (cl_q := 0) (sl_q := 0) rfl ?_
      refine fw_mul rfl ?_
      refine ik_Wk 1 (pc_q := 124) (loc_q := [some (.ref 66), some (fI 1), some (fI m), some (fI what), some (fI pb), some (fI fb), some (fI b), some (fI l), some (fI p), some (fI i), x10, x11]) (st_q := [fI 2, fI 3, .ref 70]) (h_q := u) (cl_q := 0) (sl_q := 0) rfl ?_
      refine fw_add rfl ?_
      refine ik_Wk 1 (pc_q := 127) (loc_q := [some (.ref 66), some (fI 1), some (fI m), some (fI what), some (fI pb), some (fI fb), some (fI b), some (fI l), some (fI p), some (fI i), x10, x11]) (st_q := [fI i, fI 5, .ref 70]) (h_q := u) (cl_q := 0) (sl_q := 0) rfl ?_
      refine fx_ias (z := 5) rfl u70 (by decide +kernel) (Nat.le_of_ble_eq_true rfl) (by decide +kernel) ?_
      intro h_291 e_291 f_291 l_291
      have k_291 : cL h_291 := l_291.trans ul
      have fr_291 := hfr_wb F f_291 l_291 rfl
      clear l_291
      have g_291_66 := (f_291 66 (Nat.ne_of_beq_eq_false rfl)).trans u66
      have g_291_67 := (f_291 67 (Nat.ne_of_beq_eq_false rfl)).trans u67
      have g_291_68 := (f_291 68 (Nat.ne_of_beq_eq_false rfl)).trans u68
      have g_291_69 := (f_291 69 (Nat.ne_of_beq_eq_false rfl)).trans u69
      have g_291_77 := (f_291 77 (Nat.ne_of_beq_eq_false rfl)).trans u77
      have g_291_78 := (f_291 78 (Nat.ne_of_beq_eq_false rfl)).trans u78
      have g_291_79 := (f_291 79 (Nat.ne_of_beq_eq_false rfl)).trans u79
      have g_291_80 := (f_291 80 (Nat.ne_of_beq_eq_false rfl)).trans u80
      have g_291_81 := (f_291 81 (Nat.ne_of_beq_eq_false rfl)).trans u81
      have g_291_82 := (f_291 82 (Nat.ne_of_beq_eq_false rfl)).trans u82
      have g_291_70 : cE h_291 70 (.inl (.int, fA [ka, pa, fa, kb, p, i])) := e_291
      refine ik_Wk 2 (pc_q := 130) (loc_q := [some (.ref 66), some (fI 1), some (fI m), some (fI what), some (fI pb), some (fI fb), some (fI b), some (fI l), some (fI p), some (fI i), x10, x11]) (st_q := [fI 1, .ref 66]) (h_q := h_291) (cl_q := 0) (sl_q := 0) rfl ?_
      refine fw_call 168 2 0 [.ref 66, fI 1] [] rfl rfl rfl (Nat.le_of_ble_eq_true rfl) rfl rfl (fw_rec k_291 (fw_ftx rfl wv_n (wl_c rfl (wl_c rfl (wl_c rfl (wl_c rfl (wl_c rfl (wl_c rfl (wl_c rfl (wl_c rfl (wl_c rfl (wl_c rfl (wl_c v10 (wl_c v11 wl_n))))))))))))) g_291_66 rfl (by decide +kernel)) (cr_laterBy (f := fun j => ((pl :: 0 :: 0 :: 0 :: (((s : Nat) : Int)) :: 0 :: 0 :: f 7 :: f 8 :: 0 :: f 10 :: f 11 :: f 12 :: f 13 :: f 14 :: f 15 :: f 16 :: f 17 :: 0 :: 0 :: 0 :: 0 :: 0 :: 0 :: w1 :: 0 :: 0 :: 0 :: 0 :: 0 :: 0 :: 0 :: f 32 :: f 33 :: 0 :: 0 :: f 36 :: 0 :: 0 :: 0 :: 0 :: 0 :: 0 :: []) : List Int).getD j 0) (wh := 1) (ka := ka) (pa := pa) (fa := fa) (kb := kb) (pb := p) (fb := i) (r1 := s1) (r2 := s2) (c0 := (mf_cm (fun x => mx_w cn go ch s x) (pl - 1) ka pa)) (c1 := (mf_cm (fun x => mx_w cn go ch s x) (pl - 1) kb p)) (by omega) (by omega) (by omega) hr1 hr2 k0 k1 g_291_66 g_291_70 g_291_81 n81 g_291_82 n82 k_291) ?_
      rintro _ h_292 ⟨rfl, F_292⟩
      have k_292 : cL h_292 := F_292.1.trans k_291
      have fr_292 := hfr_cb fr_291 F_292 rfl
      have g_292_66 := (hfr_g F_292 66 rfl).trans g_291_66
      have g_292_67 := (hfr_g F_292 67 rfl).trans g_291_67
      have g_292_68 := (hfr_g F_292 68 rfl).trans g_291_68
      have g_292_69 := (hfr_g F_292 69 rfl).trans g_291_69
      have g_292_77 := (hfr_g F_292 77 rfl).trans g_291_77
      have g_292_78 := (hfr_g F_292 78 rfl).trans g_291_78
      have g_292_79 := (hfr_g F_292 79 rfl).trans g_291_79
      have g_292_80 := (hfr_g F_292 80 rfl).trans g_291_80
      have g_292_70 := (hfr_g F_292 70 rfl).trans g_291_70
      have g_292_81 := (hfr_g F_292 81 rfl).trans g_291_81
      have g_292_82 := (hfr_g F_292 82 rfl).trans g_291_82
      refine ik_Wk 0 (pc_q := 133) (loc_q := [some (.ref 66), some (fI 1), some (fI m), some (fI what), some (fI pb), some (fI fb), some (fI b), some (fI l), some (fI p), some (fI i), x10, x11]) (st_q := [fI (mr_w (mf_cm (fun x => mx_w cn go ch s x) (pl - 1) ka pa) fa (mf_cm (fun x => mx_w cn go ch s x) (pl - 1) kb p) i 1)]) (h_q := h_292) (cl_q := 0) (sl_q := 0) rfl ?_
      have wb_292 := mr_w_b k0 k1 (show 0 ≤ fa by omega) (show 0 ≤ i by omega) 1
      have ev : (mk_vb (fun x => mx_w cn go ch s x) pl ka pa fa kb pb fb 1) p i = mr_w (mf_cm (fun x => mx_w cn go ch s x) (pl - 1) ka pa) fa (mf_cm (fun x => mx_w cn go ch s x) (pl - 1) kb p) i 1 := if_neg (by decide +kernel)
      refine ik_Wk 2 (pc_q := 137) (loc_q := [some (.ref 66), some (fI 1), some (fI m), some (fI what), some (fI pb), some (fI fb), some (fI b), some (fI l), some (fI p), some (fI i), some (fI (mr_w (mf_cm (fun x => mx_w cn go ch s x) (pl - 1) ka pa) fa (mf_cm (fun x => mx_w cn go ch s x) (pl - 1) kb p) i 1)), x11]) (st_q := [fI b]) (h_q := h_292) (cl_q := 0) (sl_q := 0) rfl ?_
      refine fw_if_lt rfl rfl (by omega) (by omega) (fun hc2 => ?_) (fun hc2 => ?_)
      · refine ik_Wk 4 (pc_q := 156) (loc_q := [some (.ref 66), some (fI 1), some (fI m), some (fI what), some (fI pb), some (fI fb), some (fI b), some (fI l), some (fI p), some (fI i), some (fI (mr_w (mf_cm (fun x => mx_w cn go ch s x) (pl - 1) ka pa) fa (mf_cm (fun x => mx_w cn go ch s x) (pl - 1) kb p) i 1)), some (fI 1)]) (st_q := [fI 1]) (h_q := h_292) (cl_q := 0) (sl_q := 0) rfl ?_
        refine fw_if_eq rfl rfl (by decide +kernel) (by decide +kernel) (fun hc3 => absurd hc3 (by decide +kernel)) (fun hc3 => ?_)
        refine fw_bi rfl (by decide +kernel) ?_
        refine ik_Wk 1 (pc_q := 163) (loc_q := [some (.ref 66), some (fI 1), some (fI m), some (fI what), some (fI pb), some (fI fb), some (fI b), some (fI l), some (fI p), some (fI i), some (fI (mr_w (mf_cm (fun x => mx_w cn go ch s x) (pl - 1) ka pa) fa (mf_cm (fun x => mx_w cn go ch s x) (pl - 1) kb p) i 1)), some (fI 1)]) (st_q := [fI p, fI 100]) (h_q := h_292) (cl_q := 0) (sl_q := 0) rfl ?_
        refine fw_mul rfl ?_
        refine ik_Wk 1 (pc_q := 166) (loc_q := [some (.ref 66), some (fI 1), some (fI m), some (fI what), some (fI pb), some (fI fb), some (fI b), some (fI l), some (fI p), some (fI i), some (fI (mr_w (mf_cm (fun x => mx_w cn go ch s x) (pl - 1) ka pa) fa (mf_cm (fun x => mx_w cn go ch s x) (pl - 1) kb p) i 1)), some (fI 1)]) (st_q := [fI i, fI (100 * p)]) (h_q := h_292) (cl_q := 0) (sl_q := 0) rfl ?_
        refine fw_add rfl ?_
        refine ik_Wk 3 (pc_q := 176) (loc_q := [some (.ref 66), some (fI 1), some (fI m), some (fI what), some (fI pb), some (fI fb), some (fI ((100 * p) + i)), some (fI l), some (fI p), some (fI i), some (fI (mr_w (mf_cm (fun x => mx_w cn go ch s x) (pl - 1) ka pa) fa (mf_cm (fun x => mx_w cn go ch s x) (pl - 1) kb p) i 1)), some (fI 1)]) (st_q := [fI 1]) (h_q := h_292) (cl_q := 0) (sl_q := 0) rfl ?_
        refine fw_if_eq rfl rfl (by decide +kernel) (by decide +kernel) (fun hc4 => absurd hc4 (by decide +kernel)) (fun hc4 => ?_)
        refine ik_Wk 3 (pc_q := 188) (loc_q := [some (.ref 66), some (fI 1), some (fI m), some (fI what), some (fI pb), some (fI fb), some (fI ((100 * p) + i)), some (fI (mr_w (mf_cm (fun x => mx_w cn go ch s x) (pl - 1) ka pa) fa (mf_cm (fun x => mx_w cn go ch s x) (pl - 1) kb p) i 1)), some (fI p), some (fI i), some (fI (mr_w (mf_cm (fun x => mx_w cn go ch s x) (pl - 1) ka pa) fa (mf_cm (fun x => mx_w cn go ch s x) (pl - 1) kb p) i 1)), some (fI 1)]) (st_q := []) (h_q := h_292) (cl_q := 0) (sl_q := 0) rfl ?_
        refine fw_inc (a := i) (loc_q := [some (.ref 66), some (fI 1), some (fI m), some (fI what), some (fI pb), some (fI fb), some (fI ((100 * p) + i)), some (fI (mr_w (mf_cm (fun x => mx_w cn go ch s x) (pl - 1) ka pa) fa (mf_cm (fun x => mx_w cn go ch s x) (pl - 1) kb p) i 1)), some (fI p), some (fI (i + 1)), some (fI (mr_w (mf_cm (fun x => mx_w cn go ch s x) (pl - 1) ka pa) fa (mf_cm (fun x => mx_w cn go ch s x) (pl - 1) kb p) i 1)), some (fI 1)]) rfl rfl (Nat.le_of_ble_eq_true rfl) rfl ?_
        refine ik_Wk 1 (pc_q := 110) (loc_q := [some (.ref 66), some (fI 1), some (fI m), some (fI what), some (fI pb), some (fI fb), some (fI ((100 * p) + i)), some (fI (mr_w (mf_cm (fun x => mx_w cn go ch s x) (pl - 1) ka pa) fa (mf_cm (fun x => mx_w cn go ch s x) (pl - 1) kb p) i 1)), some (fI p), some (fI (i + 1)), some (fI (mr_w (mf_cm (fun x => mx_w cn go ch s x) (pl - 1) ka pa) fa (mf_cm (fun x => mx_w cn go ch s x) (pl - 1) kb p) i 1)), some (fI 1)]) (st_q := []) (h_q := h_292) (cl_q := 0) (sl_q := 0) rfl ?_
        have e1 : (m + 1 - i).toNat = (m + 1 - (i + 1)).toNat + 1 := by omega
        have he2 : X = (mk_bk (mk_vb (fun x => mx_w cn go ch s x) pl ka pa fa kb pb fb 1) p (m + 1 - (i + 1)).toNat (i + 1) p i (mr_w (mf_cm (fun x => mx_w cn go ch s x) (pl - 1) ka pa) fa (mf_cm (fun x => mx_w cn go ch s x) (pl - 1) kb p) i 1)) := by
          rw [he, e1]
          show (if (mk_vb (fun x => mx_w cn go ch s x) pl ka pa fa kb pb fb 1) p i < z then _ else _) = _
          rw [ev, if_pos (by omega)]
        exact ih (i + 1) i p i (mr_w (mf_cm (fun x => mx_w cn go ch s x) (pl - 1) ka pa) fa (mf_cm (fun x => mx_w cn go ch s x) (pl - 1) kb p) i 1) ((100 * p) + i) (mr_w (mf_cm (fun x => mx_w cn go ch s x) (pl - 1) ka pa) fa (mf_cm (fun x => mx_w cn go ch s x) (pl - 1) kb p) i 1) (some (fI (mr_w (mf_cm (fun x => mx_w cn go ch s x) (pl - 1) ka pa) fa (mf_cm (fun x => mx_w cn go ch s x) (pl - 1) kb p) i 1))) (some (fI 1)) h_292 g_292_66 g_292_67 n67 g_292_68 n68 g_292_69 n69 g_292_77 n77 g_292_78 n78 g_292_79 n79 g_292_80 n80 g_292_70 g_292_81 n81 g_292_82 n82 k_292 fr_292 (by omega) (by omega) he2 rfl rfl (by omega)
      · refine ik_Wk 2 (pc_q := 144) (loc_q := [some (.ref 66), some (fI 1), some (fI m), some (fI what), some (fI pb), some (fI fb), some (fI b), some (fI l), some (fI p), some (fI i), some (fI (mr_w (mf_cm (fun x => mx_w cn go ch s x) (pl - 1) ka pa) fa (mf_cm (fun x => mx_w cn go ch s x) (pl - 1) kb p) i 1)), x11]) (st_q := [fI l, fI (mr_w (mf_cm (fun x => mx_w cn go ch s x) (pl - 1) ka pa) fa (mf_cm (fun x => mx_w cn go ch s x) (pl - 1) kb p) i 1)]) (h_q := h_292) (cl_q := 0) (sl_q := 0) rfl ?_
        refine fw_ic_ge rfl rfl (by omega) (by omega) (by omega) (by omega) (fun hc5 => ?_) (fun hc5 => ?_)
        · refine ik_Wk 3 (pc_q := 156) (loc_q := [some (.ref 66), some (fI 1), some (fI m), some (fI what), some (fI pb), some (fI fb), some (fI b), some (fI l), some (fI p), some (fI i), some (fI (mr_w (mf_cm (fun x => mx_w cn go ch s x) (pl - 1) ka pa) fa (mf_cm (fun x => mx_w cn go ch s x) (pl - 1) kb p) i 1)), some (fI 0)]) (st_q := [fI 0]) (h_q := h_292) (cl_q := 0) (sl_q := 0) rfl ?_
          refine fw_if_eq rfl rfl (by decide +kernel) (by decide +kernel) (fun hc6 => ?_) (fun hc6 => absurd hc6 (by decide +kernel))
          refine ik_Wk 3 (pc_q := 176) (loc_q := [some (.ref 66), some (fI 1), some (fI m), some (fI what), some (fI pb), some (fI fb), some (fI b), some (fI l), some (fI p), some (fI i), some (fI (mr_w (mf_cm (fun x => mx_w cn go ch s x) (pl - 1) ka pa) fa (mf_cm (fun x => mx_w cn go ch s x) (pl - 1) kb p) i 1)), some (fI 0)]) (st_q := [fI 0]) (h_q := h_292) (cl_q := 0) (sl_q := 0) rfl ?_
          refine fw_if_eq rfl rfl (by decide +kernel) (by decide +kernel) (fun hc7 => ?_) (fun hc7 => absurd hc7 (by decide +kernel))
          refine ik_Wk 2 (pc_q := 188) (loc_q := [some (.ref 66), some (fI 1), some (fI m), some (fI what), some (fI pb), some (fI fb), some (fI b), some (fI l), some (fI p), some (fI i), some (fI (mr_w (mf_cm (fun x => mx_w cn go ch s x) (pl - 1) ka pa) fa (mf_cm (fun x => mx_w cn go ch s x) (pl - 1) kb p) i 1)), some (fI 0)]) (st_q := []) (h_q := h_292) (cl_q := 0) (sl_q := 0) rfl ?_
          refine fw_inc (a := i) (loc_q := [some (.ref 66), some (fI 1), some (fI m), some (fI what), some (fI pb), some (fI fb), some (fI b), some (fI l), some (fI p), some (fI (i + 1)), some (fI (mr_w (mf_cm (fun x => mx_w cn go ch s x) (pl - 1) ka pa) fa (mf_cm (fun x => mx_w cn go ch s x) (pl - 1) kb p) i 1)), some (fI 0)]) rfl rfl (Nat.le_of_ble_eq_true rfl) rfl ?_
          refine ik_Wk 1 (pc_q := 110) (loc_q := [some (.ref 66), some (fI 1), some (fI m), some (fI what), some (fI pb), some (fI fb), some (fI b), some (fI l), some (fI p), some (fI (i + 1)), some (fI (mr_w (mf_cm (fun x => mx_w cn go ch s x) (pl - 1) ka pa) fa (mf_cm (fun x => mx_w cn go ch s x) (pl - 1) kb p) i 1)), some (fI 0)]) (st_q := []) (h_q := h_292) (cl_q := 0) (sl_q := 0) rfl ?_
          have e1 : (m + 1 - i).toNat = (m + 1 - (i + 1)).toNat + 1 := by omega
          have he2 : X = (mk_bk (mk_vb (fun x => mx_w cn go ch s x) pl ka pa fa kb pb fb 1) p (m + 1 - (i + 1)).toNat (i + 1) x y z) := by
            rw [he, e1]
            show (if (mk_vb (fun x => mx_w cn go ch s x) pl ka pa fa kb pb fb 1) p i < z then _ else _) = _
            rw [ev, if_neg (by omega)]
          exact ih (i + 1) i x y z b l (some (fI (mr_w (mf_cm (fun x => mx_w cn go ch s x) (pl - 1) ka pa) fa (mf_cm (fun x => mx_w cn go ch s x) (pl - 1) kb p) i 1))) (some (fI 0)) h_292 g_292_66 g_292_67 n67 g_292_68 n68 g_292_69 n69 g_292_77 n77 g_292_78 n78 g_292_79 n79 g_292_80 n80 g_292_70 g_292_81 n81 g_292_82 n82 k_292 fr_292 (by omega) (by omega) he2 rfl rfl (by omega)
        · refine ik_Wk 4 (pc_q := 156) (loc_q := [some (.ref 66), some (fI 1), some (fI m), some (fI what), some (fI pb), some (fI fb), some (fI b), some (fI l), some (fI p), some (fI i), some (fI (mr_w (mf_cm (fun x => mx_w cn go ch s x) (pl - 1) ka pa) fa (mf_cm (fun x => mx_w cn go ch s x) (pl - 1) kb p) i 1)), some (fI 1)]) (st_q := [fI 1]) (h_q := h_292) (cl_q := 0) (sl_q := 0) rfl ?_
          refine fw_if_eq rfl rfl (by decide +kernel) (by decide +kernel) (fun hc8 => absurd hc8 (by decide +kernel)) (fun hc8 => ?_)
          refine fw_bi rfl (by decide +kernel) ?_
          refine ik_Wk 1 (pc_q := 163) (loc_q := [some (.ref 66), some (fI 1), some (fI m), some (fI what), some (fI pb), some (fI fb), some (fI b), some (fI l), some (fI p), some (fI i), some (fI (mr_w (mf_cm (fun x => mx_w cn go ch s x) (pl - 1) ka pa) fa (mf_cm (fun x => mx_w cn go ch s x) (pl - 1) kb p) i 1)), some (fI 1)]) (st_q := [fI p, fI 100]) (h_q := h_292) (cl_q := 0) (sl_q := 0) rfl ?_
          refine fw_mul rfl ?_
          refine ik_Wk 1 (pc_q := 166) (loc_q := [some (.ref 66), some (fI 1), some (fI m), some (fI what), some (fI pb), some (fI fb), some (fI b), some (fI l), some (fI p), some (fI i), some (fI (mr_w (mf_cm (fun x => mx_w cn go ch s x) (pl - 1) ka pa) fa (mf_cm (fun x => mx_w cn go ch s x) (pl - 1) kb p) i 1)), some (fI 1)]) (st_q := [fI i, fI (100 * p)]) (h_q := h_292) (cl_q := 0) (sl_q := 0) rfl ?_
          refine fw_add rfl ?_
          refine ik_Wk 3 (pc_q := 176) (loc_q := [some (.ref 66), some (fI 1), some (fI m), some (fI what), some (fI pb), some (fI fb), some (fI ((100 * p) + i)), some (fI l), some (fI p), some (fI i), some (fI (mr_w (mf_cm (fun x => mx_w cn go ch s x) (pl - 1) ka pa) fa (mf_cm (fun x => mx_w cn go ch s x) (pl - 1) kb p) i 1)), some (fI 1)]) (st_q := [fI 1]) (h_q := h_292) (cl_q := 0) (sl_q := 0) rfl ?_
          refine fw_if_eq rfl rfl (by decide +kernel) (by decide +kernel) (fun hc9 => absurd hc9 (by decide +kernel)) (fun hc9 => ?_)
          refine ik_Wk 3 (pc_q := 188) (loc_q := [some (.ref 66), some (fI 1), some (fI m), some (fI what), some (fI pb), some (fI fb), some (fI ((100 * p) + i)), some (fI (mr_w (mf_cm (fun x => mx_w cn go ch s x) (pl - 1) ka pa) fa (mf_cm (fun x => mx_w cn go ch s x) (pl - 1) kb p) i 1)), some (fI p), some (fI i), some (fI (mr_w (mf_cm (fun x => mx_w cn go ch s x) (pl - 1) ka pa) fa (mf_cm (fun x => mx_w cn go ch s x) (pl - 1) kb p) i 1)), some (fI 1)]) (st_q := []) (h_q := h_292) (cl_q := 0) (sl_q := 0) rfl ?_
          refine fw_inc (a := i) (loc_q := [some (.ref 66), some (fI 1), some (fI m), some (fI what), some (fI pb), some (fI fb), some (fI ((100 * p) + i)), some (fI (mr_w (mf_cm (fun x => mx_w cn go ch s x) (pl - 1) ka pa) fa (mf_cm (fun x => mx_w cn go ch s x) (pl - 1) kb p) i 1)), some (fI p), some (fI (i + 1)), some (fI (mr_w (mf_cm (fun x => mx_w cn go ch s x) (pl - 1) ka pa) fa (mf_cm (fun x => mx_w cn go ch s x) (pl - 1) kb p) i 1)), some (fI 1)]) rfl rfl (Nat.le_of_ble_eq_true rfl) rfl ?_
          refine ik_Wk 1 (pc_q := 110) (loc_q := [some (.ref 66), some (fI 1), some (fI m), some (fI what), some (fI pb), some (fI fb), some (fI ((100 * p) + i)), some (fI (mr_w (mf_cm (fun x => mx_w cn go ch s x) (pl - 1) ka pa) fa (mf_cm (fun x => mx_w cn go ch s x) (pl - 1) kb p) i 1)), some (fI p), some (fI (i + 1)), some (fI (mr_w (mf_cm (fun x => mx_w cn go ch s x) (pl - 1) ka pa) fa (mf_cm (fun x => mx_w cn go ch s x) (pl - 1) kb p) i 1)), some (fI 1)]) (st_q := []) (h_q := h_292) (cl_q := 0) (sl_q := 0) rfl ?_
          have e1 : (m + 1 - i).toNat = (m + 1 - (i + 1)).toNat + 1 := by omega
          have he2 : X = (mk_bk (mk_vb (fun x => mx_w cn go ch s x) pl ka pa fa kb pb fb 1) p (m + 1 - (i + 1)).toNat (i + 1) p i (mr_w (mf_cm (fun x => mx_w cn go ch s x) (pl - 1) ka pa) fa (mf_cm (fun x => mx_w cn go ch s x) (pl - 1) kb p) i 1)) := by
            rw [he, e1]
            show (if (mk_vb (fun x => mx_w cn go ch s x) pl ka pa fa kb pb fb 1) p i < z then _ else _) = _
            rw [ev, if_pos (by omega)]
          exact ih (i + 1) i p i (mr_w (mf_cm (fun x => mx_w cn go ch s x) (pl - 1) ka pa) fa (mf_cm (fun x => mx_w cn go ch s x) (pl - 1) kb p) i 1) ((100 * p) + i) (mr_w (mf_cm (fun x => mx_w cn go ch s x) (pl - 1) ka pa) fa (mf_cm (fun x => mx_w cn go ch s x) (pl - 1) kb p) i 1) (some (fI (mr_w (mf_cm (fun x => mx_w cn go ch s x) (pl - 1) ka pa) fa (mf_cm (fun x => mx_w cn go ch s x) (pl - 1) kb p) i 1))) (some (fI 1)) h_292 g_292_66 g_292_67 n67 g_292_68 n68 g_292_69 n69 g_292_77 n77 g_292_78 n78 g_292_79 n79 g_292_80 n80 g_292_70 g_292_81 n81 g_292_82 n82 k_292 fr_292 (by omega) (by omega) he2 rfl rfl (by omega)

theorem rp_best1L {h : List ik_E} {pl : Int} {f : Nat → Int} {s : Nat} {cn : List Int} {go : List Int} {ch : List Int} {gt : List Int} {gd : List Int} {xs : List Int} {ys : List Int} {ka : Int} {pa : Int} {fa : Int} {kb : Int} {pb : Int} {fb : Int} {r1 : List Int} {r2 : List Int} {m : Int} {what : Int} (q0 : 0 ≤ pl ∧ pl ≤ 12) (q1 : s < 4096) (q2 : ∀ x : Int, (0 : Int) ≤ x → x < pl - 1 → 0 ≤ cn.getD x.toNat 0 ∧ cn.getD x.toNat 0 ≤ 4) (q3 : ∀ x : Int, (0 : Int) ≤ x → x < pl - 1 → 1 ≤ cn.getD x.toNat 0 ∧ ∀ j : Int, 4 * x ≤ j → j < 4 * x + cn.getD x.toNat 0 → 0 ≤ ch.getD j.toNat 0 ∧ ch.getD j.toNat 0 ≤ 100) (q4 : ∀ x : Int, (0 : Int) ≤ x → x < pl - 1 → mx_ok pl (mx_w cn go ch s x)) (q5 : (0 : Int) ≤ ka ∧ ka ≤ (2 : Int)) (q6 : (0 : Int) ≤ kb ∧ kb ≤ (2 : Int)) (q7 : (1 : Int) < pl → (0 : Int) ≤ pa ∧ pa < pl - 1) (q8 : (1 : Int) < pl → (0 : Int) ≤ pb ∧ pb < pl - 1) (q9 : (0 : Int) ≤ fa ∧ fa ≤ (30 : Int)) (q10 : (0 : Int) ≤ fb ∧ fb ≤ (30 : Int)) (q11 : (-2147483648 : Int) ≤ m ∧ m < (2147483648 : Int)) (q12 : (-2147483648 : Int) ≤ what ∧ what < (2147483648 : Int)) (hpl : (1 : Int) < pl) (hm : (0 : Int) ≤ m ∧ m ≤ (10 : Int)) (hw : (0 : Int) ≤ what ∧ what ≤ (2 : Int)) : ∀ (k : Nat) (p : Int) (pm : Int) (mm : Int) (x : Int) (y : Int) (z : Int) (b : Int) (l : Int) (w1 : Int) (g1 : List Int) (d1 : List Int) (x1 : List Int) (y1 : List Int) (s1 : List Int) (s2 : List Int) (x9 : Option Value) (x10 : Option Value) (x11 : Option Value) (u : List ik_E) (u66 : cE u 66 (.inr (10, (fI pl :: .ref 67 :: .ref 68 :: .ref 69 :: fI ((s : Nat) : Int) :: .ref 70 :: .ref 71 :: fI (f 7) :: fI (f 8) :: .ref 72 :: fI (f 10) :: fI (f 11) :: fI (f 12) :: fJ (f 13) :: fI (f 14) :: fI (f 15) :: fI (f 16) :: fI (f 17) :: .ref 73 :: .ref 74 :: .ref 75 :: .ref 76 :: .ref 77 :: .ref 78 :: fI w1 :: .ref 79 :: .ref 80 :: .ref 81 :: .ref 82 :: .ref 83 :: .ref 84 :: .ref 85 :: fJ (f 32) :: fJ (f 33) :: .ref 86 :: .ref 87 :: fI (f 36) :: .ref 88 :: .ref 89 :: .ref 90 :: .ref 91 :: .ref 92 :: .ref 93 :: [])))) (u67 : cE u 67 (.inl (.int, fA cn))) (n67 : cn.length = (12 : Nat)) (u68 : cE u 68 (.inl (.int, fA go))) (n68 : go.length = (48 : Nat)) (u69 : cE u 69 (.inl (.int, fA ch))) (n69 : ch.length = (48 : Nat)) (u77 : cE u 77 (.inl (.int, fA g1))) (n77 : g1.length = (5 : Nat)) (u78 : cE u 78 (.inl (.int, fA d1))) (n78 : d1.length = (5 : Nat)) (u79 : cE u 79 (.inl (.long, fL x1))) (n79 : x1.length = (12 : Nat)) (u80 : cE u 80 (.inl (.long, fL y1))) (n80 : y1.length = (12 : Nat)) (u70 : cE u 70 (.inl (.int, fA [ka, pa, fa, kb, pm, mm]))) (u81 : cE u 81 (.inl (.long, fL s1))) (n81 : s1.length = (201 : Nat)) (u82 : cE u 82 (.inl (.long, fL s2))) (n82 : s2.length = (201 : Nat)) (ul : u.length = (94 : Nat)) (F : hfr [66, 77, 78, 79, 80, 81, 82, 70] h u) (hp : (0 : Int) ≤ p ∧ p ≤ pl - 1) (hr : (((-1 : Int) ≤ b ∧ b < (0 : Int)) ∧ p = 0 ∧ x = 0 ∧ y = 0 ∧ z = 1000001) ∨ (b = 100 * x + y ∧ l = z ∧ (0 : Int) ≤ x ∧ x < (12 : Int) ∧ (0 : Int) ≤ y ∧ y ≤ (10 : Int) ∧ (0 : Int) ≤ z ∧ z ≤ (1000000 : Int))) (he : (mk_bp (mk_vb (fun x => mx_w cn go ch s x) pl ka pa fa kb pb fb 1) (m.toNat + 1) (pl - 1).toNat 0 0 0 1000001) = mk_bp (mk_vb (fun x => mx_w cn go ch s x) pl ka pa fa kb pb fb 1) (m.toNat + 1) (pl - 1 - p).toNat p x y z) (v9 : ik_wl 94 x9 = true) (v10 : ik_wl 94 x10 = true) (v11 : ik_wl 94 x11 = true) (hk : pl - p < (k : Int)), ik_G 171 80 [some (.ref 66), some (fI 1), some (fI m), some (fI what), some (fI pb), some (fI fb), some (fI b), some (fI l), some (fI p), x9, x10, x11] [] u (fun rv h_q => ∃ (w' : Int) (gt' : List Int) (gd' : List Int) (xs' : List Int) (ys' : List Int) (r1' : List Int) (r2' : List Int), rv = [fI (an_be m what pl (if what = 0 then (mk_bp (mk_vb (fun x => mx_w cn go ch s x) pl ka pa fa kb pb fb 1) (m.toNat + 1) (pl - 1).toNat 0 0 0 1000001).1 else if what = 1 then (mk_bp (mk_vb (fun x => mx_w cn go ch s x) pl ka pa fa kb pb fb 1) (m.toNat + 1) (pl - 1).toNat 0 0 0 1000001).2.1 else (mk_bp (mk_vb (fun x => mx_w cn go ch s x) pl ka pa fa kb pb fb 1) (m.toNat + 1) (pl - 1).toNat 0 0 0 1000001).2.2))] ∧ cE h_q 66 (.inr (10, (fI pl :: .ref 67 :: .ref 68 :: .ref 69 :: fI ((s : Nat) : Int) :: .ref 70 :: .ref 71 :: fI (f 7) :: fI (f 8) :: .ref 72 :: fI (f 10) :: fI (f 11) :: fI (f 12) :: fJ (f 13) :: fI (f 14) :: fI (f 15) :: fI (f 16) :: fI (f 17) :: .ref 73 :: .ref 74 :: .ref 75 :: .ref 76 :: .ref 77 :: .ref 78 :: fI w' :: .ref 79 :: .ref 80 :: .ref 81 :: .ref 82 :: .ref 83 :: .ref 84 :: .ref 85 :: fJ (f 32) :: fJ (f 33) :: .ref 86 :: .ref 87 :: fI (f 36) :: .ref 88 :: .ref 89 :: .ref 90 :: .ref 91 :: .ref 92 :: .ref 93 :: []))) ∧ cE h_q 77 (.inl (.int, fA gt')) ∧ gt'.length = (5 : Nat) ∧ cE h_q 78 (.inl (.int, fA gd')) ∧ gd'.length = (5 : Nat) ∧ cE h_q 79 (.inl (.long, fL xs')) ∧ xs'.length = (12 : Nat) ∧ cE h_q 80 (.inl (.long, fL ys')) ∧ ys'.length = (12 : Nat) ∧ cE h_q 81 (.inl (.long, fL r1')) ∧ r1'.length = (201 : Nat) ∧ cE h_q 82 (.inl (.long, fL r2')) ∧ r2'.length = (201 : Nat) ∧ cE h_q 70 (.inl (.int, fA [ka, pa, fa, kb, pb, fb])) ∧ hfr [66, 77, 78, 79, 80, 81, 82, 70] h h_q) := by
  intro k
  induction k with
  | zero => intro p pm mm x y z b l w1 g1 d1 x1 y1 s1 s2 x9 x10 x11 u u66 u67 n67 u68 n68 u69 n69 u77 n77 u78 n78 u79 n79 u80 n80 u70 u81 n81 u82 n82 ul F hp hr he v9 v10 v11 hk; omega
  | succ k ih =>
    intro p pm mm x y z b l w1 g1 d1 x1 y1 s1 s2 x9 x10 x11 u u66 u67 n67 u68 n68 u69 n69 u77 n77 u78 n78 u79 n79 u80 n80 u70 u81 n81 u82 n82 ul F hp hr he v9 v10 v11 hk
    refine ik_Wk 2 (pc_q := 83) (loc_q := [some (.ref 66), some (fI 1), some (fI m), some (fI what), some (fI pb), some (fI fb), some (fI b), some (fI l), some (fI p), x9, x10, x11]) (st_q := [.ref 66, fI p]) (h_q := u) (cl_q := 0) (sl_q := 0) rfl ?_
    refine fw_gf rfl rfl u66 rfl ?_
    refine ik_Wk 1 (pc_q := 87) (loc_q := [some (.ref 66), some (fI 1), some (fI m), some (fI what), some (fI pb), some (fI fb), some (fI b), some (fI l), some (fI p), x9, x10, x11]) (st_q := [fI 1, fI pl, fI p]) (h_q := u) (cl_q := 0) (sl_q := 0) rfl ?_
    refine fw_sub rfl ?_
    refine fw_ic_ge rfl rfl (by omega) (by omega) (by omega) (by omega) (fun hc1 => ?_) (fun hc1 => ?_)
    · refine ik_Wk 1 (pc_q := 201) (loc_q := [some (.ref 66), some (fI 1), some (fI m), some (fI what), some (fI pb), some (fI fb), some (fI b), some (fI l), some (fI p), x9, x10, x11]) (st_q := [.ref 66]) (h_q := u) (cl_q := 0) (sl_q := 0) rfl ?_
      refine fw_gf rfl rfl u66 rfl ?_
      refine ik_Wk 2 (pc_q := 206) (loc_q := [some (.ref 66), some (fI 1), some (fI m), some (fI what), some (fI pb), some (fI fb), some (fI b), some (fI l), some (fI p), x9, x10, x11]) (st_q := [fI 1, fI 3, .ref 70]) (h_q := u) (cl_q := 0) (sl_q := 0) rfl ?_
      refine fw_mul rfl ?_
      refine ik_Wk 1 (pc_q := 208) (loc_q := [some (.ref 66), some (fI 1), some (fI m), some (fI what), some (fI pb), some (fI fb), some (fI b), some (fI l), some (fI p), x9, x10, x11]) (st_q := [fI 1, fI 3, .ref 70]) (h_q := u) (cl_q := 0) (sl_q := 0) rfl ?_
      refine fw_add rfl ?_
      refine ik_Wk 1 (pc_q := 211) (loc_q := [some (.ref 66), some (fI 1), some (fI m), some (fI what), some (fI pb), some (fI fb), some (fI b), some (fI l), some (fI p), x9, x10, x11]) (st_q := [fI pb, fI 4, .ref 70]) (h_q := u) (cl_q := 0) (sl_q := 0) rfl ?_
      refine fx_ias (z := 4) rfl u70 (by decide +kernel) (Nat.le_of_ble_eq_true rfl) (by decide +kernel) ?_
      intro h_293 e_293 f_293 l_293
      have k_293 : cL h_293 := l_293.trans ul
      have fr_293 := hfr_wb F f_293 l_293 rfl
      clear l_293
      have g_293_66 := (f_293 66 (Nat.ne_of_beq_eq_false rfl)).trans u66
      have g_293_67 := (f_293 67 (Nat.ne_of_beq_eq_false rfl)).trans u67
      have g_293_68 := (f_293 68 (Nat.ne_of_beq_eq_false rfl)).trans u68
      have g_293_69 := (f_293 69 (Nat.ne_of_beq_eq_false rfl)).trans u69
      have g_293_77 := (f_293 77 (Nat.ne_of_beq_eq_false rfl)).trans u77
      have g_293_78 := (f_293 78 (Nat.ne_of_beq_eq_false rfl)).trans u78
      have g_293_79 := (f_293 79 (Nat.ne_of_beq_eq_false rfl)).trans u79
      have g_293_80 := (f_293 80 (Nat.ne_of_beq_eq_false rfl)).trans u80
      have g_293_81 := (f_293 81 (Nat.ne_of_beq_eq_false rfl)).trans u81
      have g_293_82 := (f_293 82 (Nat.ne_of_beq_eq_false rfl)).trans u82
      have g_293_70 : cE h_293 70 (.inl (.int, fA [ka, pa, fa, kb, pb, mm])) := e_293
      refine ik_Wk 1 (pc_q := 213) (loc_q := [some (.ref 66), some (fI 1), some (fI m), some (fI what), some (fI pb), some (fI fb), some (fI b), some (fI l), some (fI p), x9, x10, x11]) (st_q := [.ref 66]) (h_q := h_293) (cl_q := 0) (sl_q := 0) rfl ?_
      refine fw_gf rfl rfl g_293_66 rfl ?_
      refine ik_Wk 2 (pc_q := 218) (loc_q := [some (.ref 66), some (fI 1), some (fI m), some (fI what), some (fI pb), some (fI fb), some (fI b), some (fI l), some (fI p), x9, x10, x11]) (st_q := [fI 1, fI 3, .ref 70]) (h_q := h_293) (cl_q := 0) (sl_q := 0) rfl ?_
      refine fw_mul rfl ?_
      refine ik_Wk 1 (pc_q := 220) (loc_q := [some (.ref 66), some (fI 1), some (fI m), some (fI what), some (fI pb), some (fI fb), some (fI b), some (fI l), some (fI p), x9, x10, x11]) (st_q := [fI 2, fI 3, .ref 70]) (h_q := h_293) (cl_q := 0) (sl_q := 0) rfl ?_
      refine fw_add rfl ?_
      refine ik_Wk 1 (pc_q := 223) (loc_q := [some (.ref 66), some (fI 1), some (fI m), some (fI what), some (fI pb), some (fI fb), some (fI b), some (fI l), some (fI p), x9, x10, x11]) (st_q := [fI fb, fI 5, .ref 70]) (h_q := h_293) (cl_q := 0) (sl_q := 0) rfl ?_
      refine fx_ias (z := 5) rfl g_293_70 (by decide +kernel) (Nat.le_of_ble_eq_true rfl) (by decide +kernel) ?_
      intro h_294 e_294 f_294 l_294
      have k_294 : cL h_294 := l_294.trans k_293
      have fr_294 := hfr_wb fr_293 f_294 l_294 rfl
      clear l_294
      have g_294_66 := (f_294 66 (Nat.ne_of_beq_eq_false rfl)).trans g_293_66
      have g_294_67 := (f_294 67 (Nat.ne_of_beq_eq_false rfl)).trans g_293_67
      have g_294_68 := (f_294 68 (Nat.ne_of_beq_eq_false rfl)).trans g_293_68
      have g_294_69 := (f_294 69 (Nat.ne_of_beq_eq_false rfl)).trans g_293_69
      have g_294_77 := (f_294 77 (Nat.ne_of_beq_eq_false rfl)).trans g_293_77
      have g_294_78 := (f_294 78 (Nat.ne_of_beq_eq_false rfl)).trans g_293_78
      have g_294_79 := (f_294 79 (Nat.ne_of_beq_eq_false rfl)).trans g_293_79
      have g_294_80 := (f_294 80 (Nat.ne_of_beq_eq_false rfl)).trans g_293_80
      have g_294_81 := (f_294 81 (Nat.ne_of_beq_eq_false rfl)).trans g_293_81
      have g_294_82 := (f_294 82 (Nat.ne_of_beq_eq_false rfl)).trans g_293_82
      have g_294_70 : cE h_294 70 (.inl (.int, fA [ka, pa, fa, kb, pb, fb])) := e_294
      refine ik_Wk 1 (pc_q := 225) (loc_q := [some (.ref 66), some (fI 1), some (fI m), some (fI what), some (fI pb), some (fI fb), some (fI b), some (fI l), some (fI p), x9, x10, x11]) (st_q := [fI what]) (h_q := h_294) (cl_q := 0) (sl_q := 0) rfl ?_
      refine fw_if_ne rfl rfl (by omega) (by omega) (fun hc2 => ?_) (fun hc2 => ?_)
      · refine ik_Wk 1 (pc_q := 230) (loc_q := [some (.ref 66), some (fI 1), some (fI m), some (fI what), some (fI pb), some (fI fb), some (fI b), some (fI l), some (fI p), x9, x10, x11]) (st_q := [fI b]) (h_q := h_294) (cl_q := 0) (sl_q := 0) rfl ?_
        refine fw_bi rfl (by decide +kernel) ?_
        refine fx_idiv rfl (by omega) (by omega) (by omega) (by omega) ?_
        refine ik_Wk 1 (pc_q := 251) (loc_q := [some (.ref 66), some (fI 1), some (fI m), some (fI what), some (fI pb), some (fI fb), some (fI b), some (fI l), some (fI p), x9, x10, x11]) (st_q := [fI (b / 100)]) (h_q := h_294) (cl_q := 0) (sl_q := 0) rfl ?_
        rw [show (pl - 1 - p).toNat = 0 by omega] at he
        have e0 : (mk_bp (mk_vb (fun x => mx_w cn go ch s x) pl ka pa fa kb pb fb 1) (m.toNat + 1) (pl - 1).toNat 0 0 0 1000001).1 = x := by rw [he]; rfl
        have e1 : (mk_bp (mk_vb (fun x => mx_w cn go ch s x) pl ka pa fa kb pb fb 1) (m.toNat + 1) (pl - 1).toNat 0 0 0 1000001).2.1 = y := by rw [he]; rfl
        have e2 : (mk_bp (mk_vb (fun x => mx_w cn go ch s x) pl ka pa fa kb pb fb 1) (m.toNat + 1) (pl - 1).toNat 0 0 0 1000001).2.2 = z := by rw [he]; rfl
        exact ik_Wret rfl rfl ⟨_, _, rfl, rfl, rfl, rfl, ⟨w1, g1, d1, x1, y1, s1, s2, (congrArg (fun z => [fI z]) (by rw [e0, e1, e2]; unfold an_be; (repeat' split) <;> omega)), g_294_66, g_294_77, n77, g_294_78, n78, g_294_79, n79, g_294_80, n80, g_294_81, n81, g_294_82, n82, g_294_70, fr_294⟩⟩
      · refine ik_Wk 2 (pc_q := 238) (loc_q := [some (.ref 66), some (fI 1), some (fI m), some (fI what), some (fI pb), some (fI fb), some (fI b), some (fI l), some (fI p), x9, x10, x11]) (st_q := [fI 1, fI what]) (h_q := h_294) (cl_q := 0) (sl_q := 0) rfl ?_
        refine fw_ic_ne rfl rfl (by omega) (by omega) (by omega) (by omega) (fun hc3 => ?_) (fun hc3 => ?_)
        · refine ik_Wk 1 (pc_q := 243) (loc_q := [some (.ref 66), some (fI 1), some (fI m), some (fI what), some (fI pb), some (fI fb), some (fI b), some (fI l), some (fI p), x9, x10, x11]) (st_q := [fI b]) (h_q := h_294) (cl_q := 0) (sl_q := 0) rfl ?_
          refine fw_bi rfl (by decide +kernel) ?_
          refine fx_irem rfl (by omega) (by omega) (by omega) (by omega) ?_
          refine ik_Wk 1 (pc_q := 251) (loc_q := [some (.ref 66), some (fI 1), some (fI m), some (fI what), some (fI pb), some (fI fb), some (fI b), some (fI l), some (fI p), x9, x10, x11]) (st_q := [fI (b % 100)]) (h_q := h_294) (cl_q := 0) (sl_q := 0) rfl ?_
          rw [show (pl - 1 - p).toNat = 0 by omega] at he
          have e0 : (mk_bp (mk_vb (fun x => mx_w cn go ch s x) pl ka pa fa kb pb fb 1) (m.toNat + 1) (pl - 1).toNat 0 0 0 1000001).1 = x := by rw [he]; rfl
          have e1 : (mk_bp (mk_vb (fun x => mx_w cn go ch s x) pl ka pa fa kb pb fb 1) (m.toNat + 1) (pl - 1).toNat 0 0 0 1000001).2.1 = y := by rw [he]; rfl
          have e2 : (mk_bp (mk_vb (fun x => mx_w cn go ch s x) pl ka pa fa kb pb fb 1) (m.toNat + 1) (pl - 1).toNat 0 0 0 1000001).2.2 = z := by rw [he]; rfl
          exact ik_Wret rfl rfl ⟨_, _, rfl, rfl, rfl, rfl, ⟨w1, g1, d1, x1, y1, s1, s2, (congrArg (fun z => [fI z]) (by rw [e0, e1, e2]; unfold an_be; (repeat' split) <;> omega)), g_294_66, g_294_77, n77, g_294_78, n78, g_294_79, n79, g_294_80, n80, g_294_81, n81, g_294_82, n82, g_294_70, fr_294⟩⟩
        · refine ik_Wk 1 (pc_q := 251) (loc_q := [some (.ref 66), some (fI 1), some (fI m), some (fI what), some (fI pb), some (fI fb), some (fI b), some (fI l), some (fI p), x9, x10, x11]) (st_q := [fI l]) (h_q := h_294) (cl_q := 0) (sl_q := 0) rfl ?_
          rw [show (pl - 1 - p).toNat = 0 by omega] at he
          have e0 : (mk_bp (mk_vb (fun x => mx_w cn go ch s x) pl ka pa fa kb pb fb 1) (m.toNat + 1) (pl - 1).toNat 0 0 0 1000001).1 = x := by rw [he]; rfl
          have e1 : (mk_bp (mk_vb (fun x => mx_w cn go ch s x) pl ka pa fa kb pb fb 1) (m.toNat + 1) (pl - 1).toNat 0 0 0 1000001).2.1 = y := by rw [he]; rfl
          have e2 : (mk_bp (mk_vb (fun x => mx_w cn go ch s x) pl ka pa fa kb pb fb 1) (m.toNat + 1) (pl - 1).toNat 0 0 0 1000001).2.2 = z := by rw [he]; rfl
          exact ik_Wret rfl rfl ⟨_, _, rfl, rfl, rfl, rfl, ⟨w1, g1, d1, x1, y1, s1, s2, (congrArg (fun z => [fI z]) (by rw [e0, e1, e2]; unfold an_be; (repeat' split) <;> omega)), g_294_66, g_294_77, n77, g_294_78, n78, g_294_79, n79, g_294_80, n80, g_294_81, n81, g_294_82, n82, g_294_70, fr_294⟩⟩
    · refine ik_Wk 1 (pc_q := 92) (loc_q := [some (.ref 66), some (fI 1), some (fI m), some (fI what), some (fI pb), some (fI fb), some (fI b), some (fI l), some (fI p), x9, x10, x11]) (st_q := [.ref 66]) (h_q := u) (cl_q := 0) (sl_q := 0) rfl ?_
      refine fw_gf rfl rfl u66 rfl ?_
      refine ik_Wk 2 (pc_q := 97) (loc_q := [some (.ref 66), some (fI 1), some (fI m), some (fI what), some (fI pb), some (fI fb), some (fI b), some (fI l), some (fI p), x9, x10, x11]) (st_q := [fI 1, fI 3, .ref 70]) (h_q := u) (cl_q := 0) (sl_q := 0) rfl ?_
      refine fw_mul rfl ?_
      refine ik_Wk 1 (pc_q := 99) (loc_q := [some (.ref 66), some (fI 1), some (fI m), some (fI what), some (fI pb), some (fI fb), some (fI b), some (fI l), some (fI p), x9, x10, x11]) (st_q := [fI 1, fI 3, .ref 70]) (h_q := u) (cl_q := 0) (sl_q := 0) rfl ?_
      refine fw_add rfl ?_
      refine ik_Wk 1 (pc_q := 102) (loc_q := [some (.ref 66), some (fI 1), some (fI m), some (fI what), some (fI pb), some (fI fb), some (fI b), some (fI l), some (fI p), x9, x10, x11]) (st_q := [fI p, fI 4, .ref 70]) (h_q := u) (cl_q := 0) (sl_q := 0) rfl ?_
      refine fx_ias (z := 4) rfl u70 (by decide +kernel) (Nat.le_of_ble_eq_true rfl) (by decide +kernel) ?_
      intro h_295 e_295 f_295 l_295
      have k_295 : cL h_295 := l_295.trans ul
      have fr_295 := hfr_wb F f_295 l_295 rfl
      clear l_295
      have g_295_66 := (f_295 66 (Nat.ne_of_beq_eq_false rfl)).trans u66
      have g_295_67 := (f_295 67 (Nat.ne_of_beq_eq_false rfl)).trans u67
      have g_295_68 := (f_295 68 (Nat.ne_of_beq_eq_false rfl)).trans u68
      have g_295_69 := (f_295 69 (Nat.ne_of_beq_eq_false rfl)).trans u69
      have g_295_77 := (f_295 77 (Nat.ne_of_beq_eq_false rfl)).trans u77
      have g_295_78 := (f_295 78 (Nat.ne_of_beq_eq_false rfl)).trans u78
      have g_295_79 := (f_295 79 (Nat.ne_of_beq_eq_false rfl)).trans u79
      have g_295_80 := (f_295 80 (Nat.ne_of_beq_eq_false rfl)).trans u80
      have g_295_81 := (f_295 81 (Nat.ne_of_beq_eq_false rfl)).trans u81
      have g_295_82 := (f_295 82 (Nat.ne_of_beq_eq_false rfl)).trans u82
      have g_295_70 : cE h_295 70 (.inl (.int, fA [ka, pa, fa, kb, p, mm])) := e_295
      refine ik_Wk 1 (pc_q := 104) (loc_q := [some (.ref 66), some (fI 1), some (fI m), some (fI what), some (fI pb), some (fI fb), some (fI b), some (fI l), some (fI p), x9, x10, x11]) (st_q := [.ref 66]) (h_q := h_295) (cl_q := 0) (sl_q := 0) rfl ?_
      refine fw_call 165 1 0 [.ref 66] [] rfl rfl rfl (Nat.le_of_ble_eq_true rfl) rfl rfl (fw_rec k_295 (fw_ftx rfl wv_n (wl_c rfl (wl_c rfl (wl_c rfl (wl_c rfl (wl_c rfl (wl_c rfl (wl_c rfl (wl_c rfl (wl_c rfl (wl_c v9 (wl_c v10 (wl_c v11 wl_n))))))))))))) g_295_66 rfl (by decide +kernel)) (cr_suitRows (pl := pl) (f := fun j => ((0 :: 0 :: 0 :: 0 :: 0 :: 0 :: 0 :: f 7 :: f 8 :: 0 :: f 10 :: f 11 :: f 12 :: f 13 :: f 14 :: f 15 :: f 16 :: f 17 :: 0 :: 0 :: 0 :: 0 :: 0 :: 0 :: w1 :: 0 :: 0 :: 0 :: 0 :: 0 :: 0 :: 0 :: f 32 :: f 33 :: 0 :: 0 :: f 36 :: 0 :: 0 :: 0 :: 0 :: 0 :: 0 :: []) : List Int).getD j 0) (s := s) (cn := cn) (go := go) (ch := ch) (gt := g1) (gd := d1) (xs := x1) (ys := y1) (ka := ka) (pa := pa) (fa := fa) (kb := kb) (pb := p) (fb := mm) (r1 := s1) (r2 := s2) (by omega) (by omega) q2 q3 q4 (by omega) (by omega) (by have := q7 hpl; omega) (by omega) g_295_66 g_295_67 n67 g_295_68 n68 g_295_69 n69 g_295_77 n77 g_295_78 n78 g_295_79 n79 g_295_80 n80 g_295_70 g_295_81 n81 g_295_82 n82 k_295) ?_
      rintro _ h_296 ⟨w'_296, gt'_296, gd'_296, xs'_296, ys'_296, r1'_296, r2'_296, rfl, e_296_66, e_296_77, m_296_77, e_296_78, m_296_78, e_296_79, m_296_79, e_296_80, m_296_80, e_296_81, m_296_81, e_296_82, m_296_82, p_296_0, p_296_1, F_296⟩
      have k_296 : cL h_296 := F_296.1.trans k_295
      have fr_296 := hfr_cb fr_295 F_296 rfl
      have g_296_67 := (hfr_g F_296 67 rfl).trans g_295_67
      have g_296_68 := (hfr_g F_296 68 rfl).trans g_295_68
      have g_296_69 := (hfr_g F_296 69 rfl).trans g_295_69
      have g_296_70 := (hfr_g F_296 70 rfl).trans g_295_70
      have g_296_66 : cE h_296 66 (.inr (10, (fI pl :: .ref 67 :: .ref 68 :: .ref 69 :: fI ((s : Nat) : Int) :: .ref 70 :: .ref 71 :: fI (f 7) :: fI (f 8) :: .ref 72 :: fI (f 10) :: fI (f 11) :: fI (f 12) :: fJ (f 13) :: fI (f 14) :: fI (f 15) :: fI (f 16) :: fI (f 17) :: .ref 73 :: .ref 74 :: .ref 75 :: .ref 76 :: .ref 77 :: .ref 78 :: fI w'_296 :: .ref 79 :: .ref 80 :: .ref 81 :: .ref 82 :: .ref 83 :: .ref 84 :: .ref 85 :: fJ (f 32) :: fJ (f 33) :: .ref 86 :: .ref 87 :: fI (f 36) :: .ref 88 :: .ref 89 :: .ref 90 :: .ref 91 :: .ref 92 :: .ref 93 :: []))) := e_296_66
      have g_296_77 : cE h_296 77 (.inl (.int, fA gt'_296)) := e_296_77
      have g_296_78 : cE h_296 78 (.inl (.int, fA gd'_296)) := e_296_78
      have g_296_79 : cE h_296 79 (.inl (.long, fL xs'_296)) := e_296_79
      have g_296_80 : cE h_296 80 (.inl (.long, fL ys'_296)) := e_296_80
      have g_296_81 : cE h_296 81 (.inl (.long, fL r1'_296)) := e_296_81
      have g_296_82 : cE h_296 82 (.inl (.long, fL r2'_296)) := e_296_82
      refine ik_Wk 0 (pc_q := 107) (loc_q := [some (.ref 66), some (fI 1), some (fI m), some (fI what), some (fI pb), some (fI fb), some (fI b), some (fI l), some (fI p), x9, x10, x11]) (st_q := []) (h_q := h_296) (cl_q := 0) (sl_q := 0) rfl ?_
      refine ik_Wk 2 (pc_q := 110) (loc_q := [some (.ref 66), some (fI 1), some (fI m), some (fI what), some (fI pb), some (fI fb), some (fI b), some (fI l), some (fI p), some (fI 0), x10, x11]) (st_q := []) (h_q := h_296) (cl_q := 0) (sl_q := 0) rfl ?_
      refine rp_best1I (pl := pl) (f := f) (s := s) (cn := cn) (go := go) (ch := ch) (gt := gt) (gd := gd) (xs := xs) (ys := ys) (ka := ka) (pa := pa) (fa := fa) (kb := kb) (pb := pb) (fb := fb) (r1 := r1) (r2 := r2) (m := m) (what := what) q0 q1 q2 q3 q4 q5 q6 q7 q8 q9 q10 q11 q12 hm p (by omega) (mk_bk (mk_vb (fun x => mx_w cn go ch s x) pl ka pa fa kb pb fb 1) p (m.toNat + 1) 0 x y z) w'_296 gt'_296 gd'_296 xs'_296 ys'_296 r1'_296 r2'_296 p_296_0 p_296_1 (R := (fun rv h_q => ∃ (w' : Int) (gt' : List Int) (gd' : List Int) (xs' : List Int) (ys' : List Int) (r1' : List Int) (r2' : List Int), rv = [fI (an_be m what pl (if what = 0 then (mk_bp (mk_vb (fun x => mx_w cn go ch s x) pl ka pa fa kb pb fb 1) (m.toNat + 1) (pl - 1).toNat 0 0 0 1000001).1 else if what = 1 then (mk_bp (mk_vb (fun x => mx_w cn go ch s x) pl ka pa fa kb pb fb 1) (m.toNat + 1) (pl - 1).toNat 0 0 0 1000001).2.1 else (mk_bp (mk_vb (fun x => mx_w cn go ch s x) pl ka pa fa kb pb fb 1) (m.toNat + 1) (pl - 1).toNat 0 0 0 1000001).2.2))] ∧ cE h_q 66 (.inr (10, (fI pl :: .ref 67 :: .ref 68 :: .ref 69 :: fI ((s : Nat) : Int) :: .ref 70 :: .ref 71 :: fI (f 7) :: fI (f 8) :: .ref 72 :: fI (f 10) :: fI (f 11) :: fI (f 12) :: fJ (f 13) :: fI (f 14) :: fI (f 15) :: fI (f 16) :: fI (f 17) :: .ref 73 :: .ref 74 :: .ref 75 :: .ref 76 :: .ref 77 :: .ref 78 :: fI w' :: .ref 79 :: .ref 80 :: .ref 81 :: .ref 82 :: .ref 83 :: .ref 84 :: .ref 85 :: fJ (f 32) :: fJ (f 33) :: .ref 86 :: .ref 87 :: fI (f 36) :: .ref 88 :: .ref 89 :: .ref 90 :: .ref 91 :: .ref 92 :: .ref 93 :: []))) ∧ cE h_q 77 (.inl (.int, fA gt')) ∧ gt'.length = 5 ∧ cE h_q 78 (.inl (.int, fA gd')) ∧ gd'.length = 5 ∧ cE h_q 79 (.inl (.long, fL xs')) ∧ xs'.length = 12 ∧ cE h_q 80 (.inl (.long, fL ys')) ∧ ys'.length = 12 ∧ cE h_q 81 (.inl (.long, fL r1')) ∧ r1'.length = 201 ∧ cE h_q 82 (.inl (.long, fL r2')) ∧ r2'.length = 201 ∧ cE h_q 70 (.inl (.int, fA [ka, pa, fa, kb, pb, fb])) ∧ hfr [66, 77, 78, 79, 80, 81, 82, 70] h h_q)) (fun h_297 i2_297 mm_297 x_297 y_297 z_297 b_297 l_297 x10_297 x11_297 g_297_66 g_297_67 m_297_67 g_297_68 m_297_68 g_297_69 m_297_69 g_297_77 m_297_77 g_297_78 m_297_78 g_297_79 m_297_79 g_297_80 m_297_80 g_297_70 g_297_81 m_297_81 g_297_82 m_297_82 k_297 fr_297 hr_297 hX_297 v10_297 v11_297 => ?_) (m.toNat + 2) 0 mm x y z b l x10 x11 h_296 g_296_66 g_296_67 n67 g_296_68 n68 g_296_69 n69 g_296_77 m_296_77 g_296_78 m_296_78 g_296_79 m_296_79 g_296_80 m_296_80 g_296_70 g_296_81 m_296_81 g_296_82 m_296_82 k_296 fr_296 (by omega) (by omega) (by rw [show (m + 1 - 0).toNat = m.toNat + 1 by omega]) v10 v11 (by omega)
      refine fw_inc (a := p) (loc_q := [some (.ref 66), some (fI 1), some (fI m), some (fI what), some (fI pb), some (fI fb), some (fI b_297), some (fI l_297), some (fI (p + 1)), some (fI i2_297), x10_297, x11_297]) rfl rfl (Nat.le_of_ble_eq_true rfl) rfl ?_
      refine ik_Wk 1 (pc_q := 80) (loc_q := [some (.ref 66), some (fI 1), some (fI m), some (fI what), some (fI pb), some (fI fb), some (fI b_297), some (fI l_297), some (fI (p + 1)), some (fI i2_297), x10_297, x11_297]) (st_q := []) (h_q := h_297) (cl_q := 0) (sl_q := 0) rfl ?_
      exact ih  (p + 1) p mm_297 x_297 y_297 z_297 b_297 l_297 w'_296 gt'_296 gd'_296 xs'_296 ys'_296 r1'_296 r2'_296 (some (fI i2_297)) x10_297 x11_297 h_297 g_297_66 g_297_67 m_297_67 g_297_68 m_297_68 g_297_69 m_297_69 g_297_77 m_297_77 g_297_78 m_297_78 g_297_79 m_297_79 g_297_80 m_297_80 g_297_70 g_297_81 m_297_81 g_297_82 m_297_82 k_297 fr_297 (by omega) (Or.inr hr_297) (by rw [he, show (pl - 1 - p).toNat = (pl - 1 - (p + 1)).toNat + 1 by omega]; show mk_bp (mk_vb (fun x => mx_w cn go ch s x) pl ka pa fa kb pb fb 1) (m.toNat + 1) _ (p + 1) _ _ _ = _; rw [hX_297]) rfl v10_297 v11_297 (by omega)

theorem rp_best1 {h : List ik_E} {pl : Int} {f : Nat → Int} {s : Nat} {cn : List Int} {go : List Int} {ch : List Int} {gt : List Int} {gd : List Int} {xs : List Int} {ys : List Int} {ka : Int} {pa : Int} {fa : Int} {kb : Int} {pb : Int} {fb : Int} {r1 : List Int} {r2 : List Int} {m : Int} {what : Int} (q0 : 0 ≤ pl ∧ pl ≤ 12) (q1 : s < 4096) (q2 : ∀ x : Int, (0 : Int) ≤ x → x < pl - 1 → 0 ≤ cn.getD x.toNat 0 ∧ cn.getD x.toNat 0 ≤ 4) (q3 : ∀ x : Int, (0 : Int) ≤ x → x < pl - 1 → 1 ≤ cn.getD x.toNat 0 ∧ ∀ j : Int, 4 * x ≤ j → j < 4 * x + cn.getD x.toNat 0 → 0 ≤ ch.getD j.toNat 0 ∧ ch.getD j.toNat 0 ≤ 100) (q4 : ∀ x : Int, (0 : Int) ≤ x → x < pl - 1 → mx_ok pl (mx_w cn go ch s x)) (q5 : (0 : Int) ≤ ka ∧ ka ≤ (2 : Int)) (q6 : (0 : Int) ≤ kb ∧ kb ≤ (2 : Int)) (q7 : (1 : Int) < pl → (0 : Int) ≤ pa ∧ pa < pl - 1) (q8 : (1 : Int) < pl → (0 : Int) ≤ pb ∧ pb < pl - 1) (q9 : (0 : Int) ≤ fa ∧ fa ≤ (30 : Int)) (q10 : (0 : Int) ≤ fb ∧ fb ≤ (30 : Int)) (q11 : (-2147483648 : Int) ≤ m ∧ m < (2147483648 : Int)) (q12 : (-2147483648 : Int) ≤ what ∧ what < (2147483648 : Int)) (h66 : cE h 66 (.inr (10, (fI pl :: .ref 67 :: .ref 68 :: .ref 69 :: fI ((s : Nat) : Int) :: .ref 70 :: .ref 71 :: fI (f 7) :: fI (f 8) :: .ref 72 :: fI (f 10) :: fI (f 11) :: fI (f 12) :: fJ (f 13) :: fI (f 14) :: fI (f 15) :: fI (f 16) :: fI (f 17) :: .ref 73 :: .ref 74 :: .ref 75 :: .ref 76 :: .ref 77 :: .ref 78 :: fI (f 24) :: .ref 79 :: .ref 80 :: .ref 81 :: .ref 82 :: .ref 83 :: .ref 84 :: .ref 85 :: fJ (f 32) :: fJ (f 33) :: .ref 86 :: .ref 87 :: fI (f 36) :: .ref 88 :: .ref 89 :: .ref 90 :: .ref 91 :: .ref 92 :: .ref 93 :: [])))) (h67 : cE h 67 (.inl (.int, fA cn))) (n67 : cn.length = (12 : Nat)) (h68 : cE h 68 (.inl (.int, fA go))) (n68 : go.length = (48 : Nat)) (h69 : cE h 69 (.inl (.int, fA ch))) (n69 : ch.length = (48 : Nat)) (h77 : cE h 77 (.inl (.int, fA gt))) (n77 : gt.length = (5 : Nat)) (h78 : cE h 78 (.inl (.int, fA gd))) (n78 : gd.length = (5 : Nat)) (h79 : cE h 79 (.inl (.long, fL xs))) (n79 : xs.length = (12 : Nat)) (h80 : cE h 80 (.inl (.long, fL ys))) (n80 : ys.length = (12 : Nat)) (h70 : cE h 70 (.inl (.int, fA [ka, pa, fa, kb, pb, fb]))) (h81 : cE h 81 (.inl (.long, fL r1))) (n81 : r1.length = (201 : Nat)) (h82 : cE h 82 (.inl (.long, fL r2))) (n82 : r2.length = (201 : Nat)) (hl : h.length = (94 : Nat)) : ik_F 171 [.ref 66, fI 1, fI m, fI what] h (fun rv h_q => ∃ (w' : Int) (gt' : List Int) (gd' : List Int) (xs' : List Int) (ys' : List Int) (r1' : List Int) (r2' : List Int), rv = [fI (an_be m what pl (if what = 0 then (mk_bp (mk_vb (fun x => mx_w cn go ch s x) pl ka pa fa kb pb fb 1) (m.toNat + 1) (pl - 1).toNat 0 0 0 1000001).1 else if what = 1 then (mk_bp (mk_vb (fun x => mx_w cn go ch s x) pl ka pa fa kb pb fb 1) (m.toNat + 1) (pl - 1).toNat 0 0 0 1000001).2.1 else (mk_bp (mk_vb (fun x => mx_w cn go ch s x) pl ka pa fa kb pb fb 1) (m.toNat + 1) (pl - 1).toNat 0 0 0 1000001).2.2))] ∧ cE h_q 66 (.inr (10, (fI pl :: .ref 67 :: .ref 68 :: .ref 69 :: fI ((s : Nat) : Int) :: .ref 70 :: .ref 71 :: fI (f 7) :: fI (f 8) :: .ref 72 :: fI (f 10) :: fI (f 11) :: fI (f 12) :: fJ (f 13) :: fI (f 14) :: fI (f 15) :: fI (f 16) :: fI (f 17) :: .ref 73 :: .ref 74 :: .ref 75 :: .ref 76 :: .ref 77 :: .ref 78 :: fI w' :: .ref 79 :: .ref 80 :: .ref 81 :: .ref 82 :: .ref 83 :: .ref 84 :: .ref 85 :: fJ (f 32) :: fJ (f 33) :: .ref 86 :: .ref 87 :: fI (f 36) :: .ref 88 :: .ref 89 :: .ref 90 :: .ref 91 :: .ref 92 :: .ref 93 :: []))) ∧ cE h_q 77 (.inl (.int, fA gt')) ∧ gt'.length = (5 : Nat) ∧ cE h_q 78 (.inl (.int, fA gd')) ∧ gd'.length = (5 : Nat) ∧ cE h_q 79 (.inl (.long, fL xs')) ∧ xs'.length = (12 : Nat) ∧ cE h_q 80 (.inl (.long, fL ys')) ∧ ys'.length = (12 : Nat) ∧ cE h_q 81 (.inl (.long, fL r1')) ∧ r1'.length = (201 : Nat) ∧ cE h_q 82 (.inl (.long, fL r2')) ∧ r2'.length = (201 : Nat) ∧ cE h_q 70 (.inl (.int, fA [ka, pa, fa, kb, pb, fb])) ∧ hfr [66, 77, 78, 79, 80, 81, 82, 70] h h_q) := by
  refine ik_Wk 1 (pc_q := 1) (loc_q := [some (.ref 66), some (fI 1), some (fI m), some (fI what), none, none, none, none, none, none, none, none]) (st_q := [fI 1]) (h_q := h) (cl_q := 0) (sl_q := 0) rfl ?_
  refine ik_Wc 132 1 3 [fI 1] [] rfl rfl rfl (by decide +kernel) rfl rfl (fw_sta hl rfl (by decide +kernel)) ?_
  refine ik_Wk 0 (pc_q := 0) (loc_q := [some (fI 1)]) (st_q := []) (h_q := h) (cl_q := 0) (sl_q := 0) rfl ?_
  refine ik_Wk 1 (pc_q := 1) (loc_q := [some (fI 1)]) (st_q := [fI 1]) (h_q := h) (cl_q := 0) (sl_q := 0) rfl ?_
  refine fw_i2l rfl (by omega) (by omega) ?_
  refine fw_lc (z := 0) rfl (by decide +kernel) ?_
  refine fw_lc (z := 1) rfl (by decide +kernel) ?_
  refine fw_call 127 3 3 [fJ 1, fJ 0, fJ 1] [] rfl rfl rfl (Nat.le_of_ble_eq_true rfl) rfl rfl (fw_sta hl rfl (by decide +kernel)) (cr_in (v := 1) (a := 0) (b := 1) (by omega) (by omega) (by omega)  hl) ?_
  rintro _ h_298 (⟨rfl, p_298_0, F_298⟩ | ⟨rfl, p_298_0, F_298⟩)
  · have k_298 : cL h_298 := F_298.1.trans hl
    have fr_298 := hfr_cb (hfr_refl [66, 77, 78, 79, 80, 81, 82, 70] h) F_298 rfl
    have g_298_66 := (hfr_g F_298 66 rfl).trans h66
    have g_298_67 := (hfr_g F_298 67 rfl).trans h67
    have g_298_68 := (hfr_g F_298 68 rfl).trans h68
    have g_298_69 := (hfr_g F_298 69 rfl).trans h69
    have g_298_77 := (hfr_g F_298 77 rfl).trans h77
    have g_298_78 := (hfr_g F_298 78 rfl).trans h78
    have g_298_79 := (hfr_g F_298 79 rfl).trans h79
    have g_298_80 := (hfr_g F_298 80 rfl).trans h80
    have g_298_70 := (hfr_g F_298 70 rfl).trans h70
    have g_298_81 := (hfr_g F_298 81 rfl).trans h81
    have g_298_82 := (hfr_g F_298 82 rfl).trans h82
    refine ik_Wk 0 (pc_q := 7) (loc_q := [some (fI 1)]) (st_q := [fI 1]) (h_q := h_298) (cl_q := 0) (sl_q := 0) rfl ?_
    refine ik_Wret rfl rfl ⟨_, _, rfl, rfl, ?_⟩
    refine ik_Wk 0 (pc_q := 4) (loc_q := [some (.ref 66), some (fI 1), some (fI m), some (fI what), none, none, none, none, none, none, none, none]) (st_q := [fI 1]) (h_q := h_298) (cl_q := 0) (sl_q := 0) rfl ?_
    refine fw_if_ne rfl rfl (by decide +kernel) (by decide +kernel) (fun hc1 => absurd hc1 (by decide +kernel)) (fun hc1 => ?_)
    refine ik_Wk 1 (pc_q := 11) (loc_q := [some (.ref 66), some (fI 1), some (fI m), some (fI what), none, none, none, none, none, none, none, none]) (st_q := [fI m]) (h_q := h_298) (cl_q := 0) (sl_q := 0) rfl ?_
    refine fw_i2l rfl (by omega) (by omega) ?_
    refine fw_lc (z := 0) rfl (by decide +kernel) ?_
    refine fw_l2 10 rfl rfl (by decide +kernel) ?_
    refine fw_call 127 3 3 [fJ m, fJ 0, fJ 10] [] rfl rfl rfl (Nat.le_of_ble_eq_true rfl) rfl rfl (fw_sta k_298 rfl (by decide +kernel)) (cr_in (v := m) (a := 0) (b := 10) (by omega) (by omega) (by omega)  k_298) ?_
    rintro _ h_299 (⟨rfl, p_299_0, F_299⟩ | ⟨rfl, p_299_0, F_299⟩)
    · have k_299 : cL h_299 := F_299.1.trans k_298
      have fr_299 := hfr_cb fr_298 F_299 rfl
      have g_299_66 := (hfr_g F_299 66 rfl).trans g_298_66
      have g_299_67 := (hfr_g F_299 67 rfl).trans g_298_67
      have g_299_68 := (hfr_g F_299 68 rfl).trans g_298_68
      have g_299_69 := (hfr_g F_299 69 rfl).trans g_298_69
      have g_299_77 := (hfr_g F_299 77 rfl).trans g_298_77
      have g_299_78 := (hfr_g F_299 78 rfl).trans g_298_78
      have g_299_79 := (hfr_g F_299 79 rfl).trans g_298_79
      have g_299_80 := (hfr_g F_299 80 rfl).trans g_298_80
      have g_299_70 := (hfr_g F_299 70 rfl).trans g_298_70
      have g_299_81 := (hfr_g F_299 81 rfl).trans g_298_81
      have g_299_82 := (hfr_g F_299 82 rfl).trans g_298_82
      refine ik_Wk 0 (pc_q := 19) (loc_q := [some (.ref 66), some (fI 1), some (fI m), some (fI what), none, none, none, none, none, none, none, none]) (st_q := [fI 1]) (h_q := h_299) (cl_q := 0) (sl_q := 0) rfl ?_
      refine fw_if_eq rfl rfl (by decide +kernel) (by decide +kernel) (fun hc2 => absurd hc2 (by decide +kernel)) (fun hc2 => ?_)
      refine ik_Wk 1 (pc_q := 23) (loc_q := [some (.ref 66), some (fI 1), some (fI m), some (fI what), none, none, none, none, none, none, none, none]) (st_q := [fI what]) (h_q := h_299) (cl_q := 0) (sl_q := 0) rfl ?_
      refine fw_i2l rfl (by omega) (by omega) ?_
      refine fw_lc (z := 0) rfl (by decide +kernel) ?_
      refine fw_l2 2 rfl rfl (by decide +kernel) ?_
      refine fw_call 127 3 3 [fJ what, fJ 0, fJ 2] [] rfl rfl rfl (Nat.le_of_ble_eq_true rfl) rfl rfl (fw_sta k_299 rfl (by decide +kernel)) (cr_in (v := what) (a := 0) (b := 2) (by omega) (by omega) (by omega)  k_299) ?_
      rintro _ h_300 (⟨rfl, p_300_0, F_300⟩ | ⟨rfl, p_300_0, F_300⟩)
      · have k_300 : cL h_300 := F_300.1.trans k_299
        have fr_300 := hfr_cb fr_299 F_300 rfl
        have g_300_66 := (hfr_g F_300 66 rfl).trans g_299_66
        have g_300_67 := (hfr_g F_300 67 rfl).trans g_299_67
        have g_300_68 := (hfr_g F_300 68 rfl).trans g_299_68
        have g_300_69 := (hfr_g F_300 69 rfl).trans g_299_69
        have g_300_77 := (hfr_g F_300 77 rfl).trans g_299_77
        have g_300_78 := (hfr_g F_300 78 rfl).trans g_299_78
        have g_300_79 := (hfr_g F_300 79 rfl).trans g_299_79
        have g_300_80 := (hfr_g F_300 80 rfl).trans g_299_80
        have g_300_70 := (hfr_g F_300 70 rfl).trans g_299_70
        have g_300_81 := (hfr_g F_300 81 rfl).trans g_299_81
        have g_300_82 := (hfr_g F_300 82 rfl).trans g_299_82
        refine ik_Wk 0 (pc_q := 31) (loc_q := [some (.ref 66), some (fI 1), some (fI m), some (fI what), none, none, none, none, none, none, none, none]) (st_q := [fI 1]) (h_q := h_300) (cl_q := 0) (sl_q := 0) rfl ?_
        refine fw_if_ne rfl rfl (by decide +kernel) (by decide +kernel) (fun hc3 => absurd hc3 (by decide +kernel)) (fun hc3 => ?_)
        refine ik_Wk 1 (pc_q := 38) (loc_q := [some (.ref 66), some (fI 1), some (fI m), some (fI what), none, none, none, none, none, none, none, none]) (st_q := [.ref 66]) (h_q := h_300) (cl_q := 0) (sl_q := 0) rfl ?_
        refine ik_Wc 134 1 0 [.ref 66] [] rfl rfl rfl (by decide +kernel) rfl rfl (fw_rec k_300 rfl g_300_66 rfl (Nat.le_of_ble_eq_true rfl)) ?_
        refine ik_Wk 0 (pc_q := 0) (loc_q := [some (.ref 66)]) (st_q := []) (h_q := h_300) (cl_q := 0) (sl_q := 0) rfl ?_
        refine ik_Wk 1 (pc_q := 1) (loc_q := [some (.ref 66)]) (st_q := [.ref 66]) (h_q := h_300) (cl_q := 0) (sl_q := 0) rfl ?_
        refine fw_gf rfl rfl g_300_66 rfl ?_
        refine ik_Wk 1 (pc_q := 5) (loc_q := [some (.ref 66)]) (st_q := [fI 1, fI pl]) (h_q := h_300) (cl_q := 0) (sl_q := 0) rfl ?_
        refine fw_ic_le rfl rfl (by omega) (by omega) (by omega) (by omega) (fun hc4 => ?_) (fun hc4 => ?_)
        · refine ik_Wk 1 (pc_q := 13) (loc_q := [some (.ref 66)]) (st_q := [fI 0]) (h_q := h_300) (cl_q := 0) (sl_q := 0) rfl ?_
          refine ik_Wret rfl rfl ⟨_, _, rfl, rfl, ?_⟩
          refine ik_Wk 0 (pc_q := 41) (loc_q := [some (.ref 66), some (fI 1), some (fI m), some (fI what), none, none, none, none, none, none, none, none]) (st_q := [fI 0]) (h_q := h_300) (cl_q := 0) (sl_q := 0) rfl ?_
          refine fw_if_ne rfl rfl (by decide +kernel) (by decide +kernel) (fun hc5 => ?_) (fun hc5 => absurd hc5 (by decide +kernel))
          refine fw_ld (-1000000003) rfl rfl (by decide +kernel) ?_
          exact ik_Wret rfl rfl ⟨_, _, rfl, rfl, rfl, rfl, ⟨(f 24), gt, gd, xs, ys, r1, r2, (congrArg (fun z => [fI z]) (by unfold an_be; (repeat' split) <;> first | rfl | omega)), g_300_66, g_300_77, n77, g_300_78, n78, g_300_79, n79, g_300_80, n80, g_300_81, n81, g_300_82, n82, g_300_70, fr_300⟩⟩
        · refine ik_Wk 2 (pc_q := 13) (loc_q := [some (.ref 66)]) (st_q := [fI 1]) (h_q := h_300) (cl_q := 0) (sl_q := 0) rfl ?_
          refine ik_Wret rfl rfl ⟨_, _, rfl, rfl, ?_⟩
          refine ik_Wk 0 (pc_q := 41) (loc_q := [some (.ref 66), some (fI 1), some (fI m), some (fI what), none, none, none, none, none, none, none, none]) (st_q := [fI 1]) (h_q := h_300) (cl_q := 0) (sl_q := 0) rfl ?_
          refine fw_if_ne rfl rfl (by decide +kernel) (by decide +kernel) (fun hc6 => absurd hc6 (by decide +kernel)) (fun hc6 => ?_)
          refine ik_Wk 1 (pc_q := 48) (loc_q := [some (.ref 66), some (fI 1), some (fI m), some (fI what), none, none, none, none, none, none, none, none]) (st_q := [.ref 66]) (h_q := h_300) (cl_q := 0) (sl_q := 0) rfl ?_
          refine fw_gf rfl rfl g_300_66 rfl ?_
          refine ik_Wk 2 (pc_q := 53) (loc_q := [some (.ref 66), some (fI 1), some (fI m), some (fI what), none, none, none, none, none, none, none, none]) (st_q := [fI 1, fI 3, .ref 70]) (h_q := h_300) (cl_q := 0) (sl_q := 0) rfl ?_
          refine fw_mul rfl ?_
          refine ik_Wk 1 (pc_q := 55) (loc_q := [some (.ref 66), some (fI 1), some (fI m), some (fI what), none, none, none, none, none, none, none, none]) (st_q := [fI 1, fI 3, .ref 70]) (h_q := h_300) (cl_q := 0) (sl_q := 0) rfl ?_
          refine fw_add rfl ?_
          refine fw_ial (z := 4) rfl g_300_70 (by decide +kernel) (Nat.le_of_ble_eq_true rfl) (by decide +kernel) ?_
          refine ik_Wk 0 (pc_q := 57) (loc_q := [some (.ref 66), some (fI 1), some (fI m), some (fI what), none, none, none, none, none, none, none, none]) (st_q := [fI pb]) (h_q := h_300) (cl_q := 0) (sl_q := 0) rfl ?_
          refine ik_Wk 2 (pc_q := 60) (loc_q := [some (.ref 66), some (fI 1), some (fI m), some (fI what), some (fI pb), none, none, none, none, none, none, none]) (st_q := [.ref 66]) (h_q := h_300) (cl_q := 0) (sl_q := 0) rfl ?_
          refine fw_gf rfl rfl g_300_66 rfl ?_
          refine ik_Wk 2 (pc_q := 65) (loc_q := [some (.ref 66), some (fI 1), some (fI m), some (fI what), some (fI pb), none, none, none, none, none, none, none]) (st_q := [fI 1, fI 3, .ref 70]) (h_q := h_300) (cl_q := 0) (sl_q := 0) rfl ?_
          refine fw_mul rfl ?_
          refine ik_Wk 1 (pc_q := 67) (loc_q := [some (.ref 66), some (fI 1), some (fI m), some (fI what), some (fI pb), none, none, none, none, none, none, none]) (st_q := [fI 2, fI 3, .ref 70]) (h_q := h_300) (cl_q := 0) (sl_q := 0) rfl ?_
          refine fw_add rfl ?_
          refine fw_ial (z := 5) rfl g_300_70 (by decide +kernel) (Nat.le_of_ble_eq_true rfl) (by decide +kernel) ?_
          refine ik_Wk 0 (pc_q := 69) (loc_q := [some (.ref 66), some (fI 1), some (fI m), some (fI what), some (fI pb), none, none, none, none, none, none, none]) (st_q := [fI fb]) (h_q := h_300) (cl_q := 0) (sl_q := 0) rfl ?_
          refine ik_Wk 7 (pc_q := 80) (loc_q := [some (.ref 66), some (fI 1), some (fI m), some (fI what), some (fI pb), some (fI fb), some (fI (-1)), some (fI 0), some (fI 0), none, none, none]) (st_q := []) (h_q := h_300) (cl_q := 0) (sl_q := 0) rfl ?_
          exact rp_best1L (pl := pl) (f := f) (s := s) (cn := cn) (go := go) (ch := ch) (gt := gt) (gd := gd) (xs := xs) (ys := ys) (ka := ka) (pa := pa) (fa := fa) (kb := kb) (pb := pb) (fb := fb) (r1 := r1) (r2 := r2) (m := m) (what := what) q0 q1 q2 q3 q4 q5 q6 q7 q8 q9 q10 q11 q12 (by omega) (by omega) (by omega) (pl.toNat + 1) 0 pb fb 0 0 1000001 (-1) 0 (f 24) gt gd xs ys r1 r2 none none none h_300 g_300_66 g_300_67 n67 g_300_68 n68 g_300_69 n69 g_300_77 n77 g_300_78 n78 g_300_79 n79 g_300_80 n80 g_300_70 g_300_81 n81 g_300_82 n82 k_300 fr_300 (by omega) (by omega) (by rw [Int.sub_zero]) rfl rfl rfl (by omega)
      · have k_300 : cL h_300 := F_300.1.trans k_299
        have fr_300 := hfr_cb fr_299 F_300 rfl
        have g_300_66 := (hfr_g F_300 66 rfl).trans g_299_66
        have g_300_67 := (hfr_g F_300 67 rfl).trans g_299_67
        have g_300_68 := (hfr_g F_300 68 rfl).trans g_299_68
        have g_300_69 := (hfr_g F_300 69 rfl).trans g_299_69
        have g_300_77 := (hfr_g F_300 77 rfl).trans g_299_77
        have g_300_78 := (hfr_g F_300 78 rfl).trans g_299_78
        have g_300_79 := (hfr_g F_300 79 rfl).trans g_299_79
        have g_300_80 := (hfr_g F_300 80 rfl).trans g_299_80
        have g_300_70 := (hfr_g F_300 70 rfl).trans g_299_70
        have g_300_81 := (hfr_g F_300 81 rfl).trans g_299_81
        have g_300_82 := (hfr_g F_300 82 rfl).trans g_299_82
        refine ik_Wk 0 (pc_q := 31) (loc_q := [some (.ref 66), some (fI 1), some (fI m), some (fI what), none, none, none, none, none, none, none, none]) (st_q := [fI 0]) (h_q := h_300) (cl_q := 0) (sl_q := 0) rfl ?_
        refine fw_if_ne rfl rfl (by decide +kernel) (by decide +kernel) (fun hc7 => ?_) (fun hc7 => absurd hc7 (by decide +kernel))
        refine fw_ld (-1000000002) rfl rfl (by decide +kernel) ?_
        exact ik_Wret rfl rfl ⟨_, _, rfl, rfl, rfl, rfl, ⟨(f 24), gt, gd, xs, ys, r1, r2, (congrArg (fun z => [fI z]) (by unfold an_be; (repeat' split) <;> first | rfl | omega)), g_300_66, g_300_77, n77, g_300_78, n78, g_300_79, n79, g_300_80, n80, g_300_81, n81, g_300_82, n82, g_300_70, fr_300⟩⟩
    · have k_299 : cL h_299 := F_299.1.trans k_298
      have fr_299 := hfr_cb fr_298 F_299 rfl
      have g_299_66 := (hfr_g F_299 66 rfl).trans g_298_66
      have g_299_67 := (hfr_g F_299 67 rfl).trans g_298_67
      have g_299_68 := (hfr_g F_299 68 rfl).trans g_298_68
      have g_299_69 := (hfr_g F_299 69 rfl).trans g_298_69
      have g_299_77 := (hfr_g F_299 77 rfl).trans g_298_77
      have g_299_78 := (hfr_g F_299 78 rfl).trans g_298_78
      have g_299_79 := (hfr_g F_299 79 rfl).trans g_298_79
      have g_299_80 := (hfr_g F_299 80 rfl).trans g_298_80
      have g_299_70 := (hfr_g F_299 70 rfl).trans g_298_70
      have g_299_81 := (hfr_g F_299 81 rfl).trans g_298_81
      have g_299_82 := (hfr_g F_299 82 rfl).trans g_298_82
      refine ik_Wk 0 (pc_q := 19) (loc_q := [some (.ref 66), some (fI 1), some (fI m), some (fI what), none, none, none, none, none, none, none, none]) (st_q := [fI 0]) (h_q := h_299) (cl_q := 0) (sl_q := 0) rfl ?_
      refine fw_if_eq rfl rfl (by decide +kernel) (by decide +kernel) (fun hc8 => ?_) (fun hc8 => absurd hc8 (by decide +kernel))
      refine fw_ld (-1000000002) rfl rfl (by decide +kernel) ?_
      exact ik_Wret rfl rfl ⟨_, _, rfl, rfl, rfl, rfl, ⟨(f 24), gt, gd, xs, ys, r1, r2, (congrArg (fun z => [fI z]) (by unfold an_be; (repeat' split) <;> first | rfl | omega)), g_299_66, g_299_77, n77, g_299_78, n78, g_299_79, n79, g_299_80, n80, g_299_81, n81, g_299_82, n82, g_299_70, fr_299⟩⟩
  · have k_298 : cL h_298 := F_298.1.trans hl
    have fr_298 := hfr_cb (hfr_refl [66, 77, 78, 79, 80, 81, 82, 70] h) F_298 rfl
    have g_298_66 := (hfr_g F_298 66 rfl).trans h66
    have g_298_67 := (hfr_g F_298 67 rfl).trans h67
    have g_298_68 := (hfr_g F_298 68 rfl).trans h68
    have g_298_69 := (hfr_g F_298 69 rfl).trans h69
    have g_298_77 := (hfr_g F_298 77 rfl).trans h77
    have g_298_78 := (hfr_g F_298 78 rfl).trans h78
    have g_298_79 := (hfr_g F_298 79 rfl).trans h79
    have g_298_80 := (hfr_g F_298 80 rfl).trans h80
    have g_298_70 := (hfr_g F_298 70 rfl).trans h70
    have g_298_81 := (hfr_g F_298 81 rfl).trans h81
    have g_298_82 := (hfr_g F_298 82 rfl).trans h82
    refine ik_Wk 0 (pc_q := 7) (loc_q := [some (fI 1)]) (st_q := [fI 0]) (h_q := h_298) (cl_q := 0) (sl_q := 0) rfl ?_
    refine ik_Wret rfl rfl ⟨_, _, rfl, rfl, ?_⟩
    refine ik_Wk 0 (pc_q := 4) (loc_q := [some (.ref 66), some (fI 1), some (fI m), some (fI what), none, none, none, none, none, none, none, none]) (st_q := [fI 0]) (h_q := h_298) (cl_q := 0) (sl_q := 0) rfl ?_
    refine fw_if_ne rfl rfl (by decide +kernel) (by decide +kernel) (fun hc9 => ?_) (fun hc9 => absurd hc9 (by decide +kernel))
    refine fw_ld (-1000000001) rfl rfl (by decide +kernel) ?_
    exact ik_Wret rfl rfl ⟨_, _, rfl, rfl, rfl, rfl, ⟨(f 24), gt, gd, xs, ys, r1, r2, (congrArg (fun z => [fI z]) (by unfold an_be; (repeat' split) <;> first | rfl | omega)), g_298_66, g_298_77, n77, g_298_78, n78, g_298_79, n79, g_298_80, n80, g_298_81, n81, g_298_82, n82, g_298_70, fr_298⟩⟩

end

/-! 38zn1.rfit -/
noncomputable section
theorem cr_fitNowL {h : List ik_E} {pl : Int} {f : Nat → Int} {s : Nat} {cn : List Int} {go : List Int} {ch : List Int} {gt : List Int} {gd : List Int} {xs : List Int} {ys : List Int} {r : Int} {rp : List Int} {rt : List Int} (q0 : 0 ≤ pl ∧ pl ≤ 12) (q1 : s < 4096) (q2 : mx_rw pl cn go ch) (q3 : 0 ≤ r ∧ r ≤ 12) (q4 : mk_rr pl r rp rt)  : ∀ (k : Nat) (i : Int) (hw : Int) (w1 : Int) (g1 : List Int) (d1 : List Int) (x1 : List Int) (y1 : List Int) (x4 : Option Value) (u : List ik_E) (u66 : cE u 66 (.inr (10, (fI pl :: .ref 67 :: .ref 68 :: .ref 69 :: fI ((s : Nat) : Int) :: .ref 70 :: .ref 71 :: fI (f 7) :: fI (f 8) :: .ref 72 :: fI (f 10) :: fI (f 11) :: fI (f 12) :: fJ (f 13) :: fI (f 14) :: fI (f 15) :: fI (f 16) :: fI (f 17) :: .ref 73 :: .ref 74 :: .ref 75 :: .ref 76 :: .ref 77 :: .ref 78 :: fI w1 :: .ref 79 :: .ref 80 :: .ref 81 :: .ref 82 :: .ref 83 :: .ref 84 :: .ref 85 :: fJ (f 32) :: fJ (f 33) :: .ref 86 :: .ref 87 :: fI r :: .ref 88 :: .ref 89 :: .ref 90 :: .ref 91 :: .ref 92 :: .ref 93 :: [])))) (u67 : cE u 67 (.inl (.int, fA cn))) (n67 : cn.length = (12 : Nat)) (u68 : cE u 68 (.inl (.int, fA go))) (n68 : go.length = (48 : Nat)) (u69 : cE u 69 (.inl (.int, fA ch))) (n69 : ch.length = (48 : Nat)) (u77 : cE u 77 (.inl (.int, fA g1))) (n77 : g1.length = (5 : Nat)) (u78 : cE u 78 (.inl (.int, fA d1))) (n78 : d1.length = (5 : Nat)) (u79 : cE u 79 (.inl (.long, fL x1))) (n79 : x1.length = (12 : Nat)) (u80 : cE u 80 (.inl (.long, fL y1))) (n80 : y1.length = (12 : Nat)) (u88 : cE u 88 (.inl (.int, fA rp))) (n88 : rp.length = (12 : Nat)) (u89 : cE u 89 (.inl (.int, fA rt))) (n89 : rt.length = (12 : Nat)) (ul : u.length = (94 : Nat)) (F : hfr [66, 77, 78, 79, 80] h u) (hi : (0 : Int) ≤ i ∧ i ≤ r) (he : hw = mk_ft (mk_J (fun x => mx_w cn go ch s x) pl rp rt) i.toNat) (w4 : ik_wl 94 x4 = true) (hk : r - i < (k : Int)), ik_G 185 6 [some (.ref 66), some (fJ hw), none, some (fI i), x4, none] [] u (fun rv h_q => ∃ (w' : Int) (gt' : List Int) (gd' : List Int) (xs' : List Int) (ys' : List Int), rv = [fI (mk_fv cn go ch s pl rp rt r)] ∧ cE h_q 66 (.inr (10, (fI pl :: .ref 67 :: .ref 68 :: .ref 69 :: fI ((s : Nat) : Int) :: .ref 70 :: .ref 71 :: fI (f 7) :: fI (f 8) :: .ref 72 :: fI (f 10) :: fI (f 11) :: fI (f 12) :: fJ (f 13) :: fI (f 14) :: fI (f 15) :: fI (f 16) :: fI (f 17) :: .ref 73 :: .ref 74 :: .ref 75 :: .ref 76 :: .ref 77 :: .ref 78 :: fI w' :: .ref 79 :: .ref 80 :: .ref 81 :: .ref 82 :: .ref 83 :: .ref 84 :: .ref 85 :: fJ (f 32) :: fJ (f 33) :: .ref 86 :: .ref 87 :: fI r :: .ref 88 :: .ref 89 :: .ref 90 :: .ref 91 :: .ref 92 :: .ref 93 :: []))) ∧ cE h_q 77 (.inl (.int, fA gt')) ∧ gt'.length = (5 : Nat) ∧ cE h_q 78 (.inl (.int, fA gd')) ∧ gd'.length = (5 : Nat) ∧ cE h_q 79 (.inl (.long, fL xs')) ∧ xs'.length = (12 : Nat) ∧ cE h_q 80 (.inl (.long, fL ys')) ∧ ys'.length = (12 : Nat) ∧ hfr [66, 77, 78, 79, 80] h h_q) := by
  intro k
  induction k with
  | zero => intro i hw w1 g1 d1 x1 y1 x4 u u66 u67 n67 u68 n68 u69 n69 u77 n77 u78 n78 u79 n79 u80 n80 u88 n88 u89 n89 ul F hi he w4 hk; omega
  | succ k ih =>
    intro i hw w1 g1 d1 x1 y1 x4 u u66 u67 n67 u68 n68 u69 n69 u77 n77 u78 n78 u79 n79 u80 n80 u88 n88 u89 n89 ul F hi he w4 hk
    refine ik_Wk 2 (pc_q := 8) (loc_q := [some (.ref 66), some (fJ hw), none, some (fI i), x4, none]) (st_q := [.ref 66, fI i]) (h_q := u) (cl_q := 0) (sl_q := 0) rfl ?_
    refine fw_gf rfl rfl u66 rfl ?_
    refine fw_ic_ge rfl rfl (by omega) (by omega) (by omega) (by omega) (fun hc1 => ?_) (fun hc1 => ?_)
    · refine ik_Wk 1 (pc_q := 90) (loc_q := [some (.ref 66), some (fJ hw), none, some (fI i), x4, none]) (st_q := [fJ hw]) (h_q := u) (cl_q := 0) (sl_q := 0) rfl ?_
      refine fx_l2i rfl ?_
      have ei : i = r := by omega
      rw [ei] at he
      exact ik_Wret rfl rfl ⟨_, _, rfl, rfl, rfl, rfl, ⟨w1, g1, d1, x1, y1, (congrArg (fun z => [fI z]) he), u66, u77, n77, u78, n78, u79, n79, u80, n80, F⟩⟩
    · refine ik_Wk 3 (pc_q := 17) (loc_q := [some (.ref 66), some (fJ hw), none, some (fI i), x4, none]) (st_q := [.ref 66, fI 0, .ref 66]) (h_q := u) (cl_q := 0) (sl_q := 0) rfl ?_
      refine fw_gf rfl rfl u66 rfl ?_
      refine ik_Wk 1 (pc_q := 21) (loc_q := [some (.ref 66), some (fJ hw), none, some (fI i), x4, none]) (st_q := [fI i, .ref 88, fI 0, .ref 66]) (h_q := u) (cl_q := 0) (sl_q := 0) rfl ?_
      refine fw_ial rfl u88 (by omega) (by omega) (by omega) ?_
      have hr := q4 i.toNat (by omega)
      refine ik_Wk 1 (pc_q := 23) (loc_q := [some (.ref 66), some (fJ hw), none, some (fI i), x4, none]) (st_q := [.ref 66, fI (rp.getD i.toNat 0), fI 0, .ref 66]) (h_q := u) (cl_q := 0) (sl_q := 0) rfl ?_
      refine fw_gf rfl rfl u66 rfl ?_
      refine ik_Wk 1 (pc_q := 27) (loc_q := [some (.ref 66), some (fJ hw), none, some (fI i), x4, none]) (st_q := [fI i, .ref 89, fI (rp.getD i.toNat 0), fI 0, .ref 66]) (h_q := u) (cl_q := 0) (sl_q := 0) rfl ?_
      refine fw_ial rfl u89 (by omega) (by omega) (by omega) ?_
      refine ik_Wk 1 (pc_q := 29) (loc_q := [some (.ref 66), some (fJ hw), none, some (fI i), x4, none]) (st_q := [fI 1, fI (rt.getD i.toNat 0), fI (rp.getD i.toNat 0), fI 0, .ref 66]) (h_q := u) (cl_q := 0) (sl_q := 0) rfl ?_
      refine fw_sub rfl ?_
      refine fw_call 156 4 0 [.ref 66, fI 0, fI (rp.getD i.toNat 0), fI ((rt.getD i.toNat 0) - 1)] [] rfl rfl rfl (Nat.le_of_ble_eq_true rfl) rfl rfl (fw_rec ul (fw_ftx rfl wv_n (wl_c rfl (wl_c rfl (wl_c rfl (wl_c rfl (wl_c w4 (wl_c rfl wl_n))))))) u66 rfl (by decide +kernel)) (cr_oddsAt (pl := pl) (f := fun j => ((0 :: 0 :: 0 :: 0 :: 0 :: 0 :: 0 :: f 7 :: f 8 :: 0 :: f 10 :: f 11 :: f 12 :: f 13 :: f 14 :: f 15 :: f 16 :: f 17 :: 0 :: 0 :: 0 :: 0 :: 0 :: 0 :: w1 :: 0 :: 0 :: 0 :: 0 :: 0 :: 0 :: 0 :: f 32 :: f 33 :: 0 :: 0 :: r :: 0 :: 0 :: 0 :: 0 :: 0 :: 0 :: []) : List Int).getD j 0) (s := s) (cn := cn) (go := go) (ch := ch) (gt := g1) (gd := d1) (xs := x1) (ys := y1) (kd := 0) (qp := rp.getD i.toNat 0) (t := (rt.getD i.toNat 0) - 1) (by omega) (by omega) (fun x h0 h1 => by have := (q2 x h0 h1).1; omega) (mx_rw_ch q2) (mx_rw_ok q2 _) (by omega) (by omega) (by omega) u66 u67 n67 u68 n68 u69 n69 u77 n77 u78 n78 u79 n79 u80 n80 ul) ?_
      rintro _ h_301 ⟨w'_301, gt'_301, gd'_301, xs'_301, ys'_301, rfl, e_301_66, e_301_77, m_301_77, e_301_78, m_301_78, e_301_79, m_301_79, e_301_80, m_301_80, p_301_0, F_301⟩
      have k_301 : cL h_301 := F_301.1.trans ul
      have fr_301 := hfr_cb F F_301 rfl
      have g_301_67 := (hfr_g F_301 67 rfl).trans u67
      have g_301_68 := (hfr_g F_301 68 rfl).trans u68
      have g_301_69 := (hfr_g F_301 69 rfl).trans u69
      have g_301_88 := (hfr_g F_301 88 rfl).trans u88
      have g_301_89 := (hfr_g F_301 89 rfl).trans u89
      have g_301_66 : cE h_301 66 (.inr (10, (fI pl :: .ref 67 :: .ref 68 :: .ref 69 :: fI ((s : Nat) : Int) :: .ref 70 :: .ref 71 :: fI (f 7) :: fI (f 8) :: .ref 72 :: fI (f 10) :: fI (f 11) :: fI (f 12) :: fJ (f 13) :: fI (f 14) :: fI (f 15) :: fI (f 16) :: fI (f 17) :: .ref 73 :: .ref 74 :: .ref 75 :: .ref 76 :: .ref 77 :: .ref 78 :: fI w'_301 :: .ref 79 :: .ref 80 :: .ref 81 :: .ref 82 :: .ref 83 :: .ref 84 :: .ref 85 :: fJ (f 32) :: fJ (f 33) :: .ref 86 :: .ref 87 :: fI r :: .ref 88 :: .ref 89 :: .ref 90 :: .ref 91 :: .ref 92 :: .ref 93 :: []))) := e_301_66
      have g_301_77 : cE h_301 77 (.inl (.int, fA gt'_301)) := e_301_77
      have g_301_78 : cE h_301 78 (.inl (.int, fA gd'_301)) := e_301_78
      have g_301_79 : cE h_301 79 (.inl (.long, fL xs'_301)) := e_301_79
      have g_301_80 : cE h_301 80 (.inl (.long, fL ys'_301)) := e_301_80
      refine ik_Wk 0 (pc_q := 33) (loc_q := [some (.ref 66), some (fJ hw), none, some (fI i), x4, none]) (st_q := []) (h_q := h_301) (cl_q := 0) (sl_q := 0) rfl ?_
      have gd_301 := mf_od_gd (W := (fun x => mx_w cn go ch s x)) (k := 0) (q := rp.getD i.toNat 0) (mx_rw_ok q2 _) (by omega) (rt.getD i.toNat 0 - 1).toNat
      have eo_301 : xs'_301.getD (pl - 1).toNat 0 = mf_cm (fun x => mx_w cn go ch s x) (pl - 1) 0 (rp.getD i.toNat 0) (rt.getD i.toNat 0 - 1).toNat := p_301_0 _ (by omega)
      refine ik_Wk 1 (pc_q := 34) (loc_q := [some (.ref 66), some (fJ hw), none, some (fI i), x4, none]) (st_q := [.ref 66]) (h_q := h_301) (cl_q := 0) (sl_q := 0) rfl ?_
      refine fw_gf rfl rfl g_301_66 rfl ?_
      refine ik_Wk 1 (pc_q := 38) (loc_q := [some (.ref 66), some (fJ hw), none, some (fI i), x4, none]) (st_q := [.ref 66, .ref 79]) (h_q := h_301) (cl_q := 0) (sl_q := 0) rfl ?_
      refine ik_Wc 130 1 0 [.ref 66] [.ref 79] rfl rfl rfl (by decide +kernel) rfl rfl (fw_rec k_301 (fw_ftx rfl (wv_c rfl wv_n) (wl_c rfl (wl_c rfl (wl_c rfl (wl_c rfl (wl_c w4 (wl_c rfl wl_n))))))) g_301_66 rfl (by decide +kernel)) ?_
      refine ik_Wk 0 (pc_q := 0) (loc_q := [some (.ref 66)]) (st_q := []) (h_q := h_301) (cl_q := 0) (sl_q := 0) rfl ?_
      refine ik_Wk 1 (pc_q := 1) (loc_q := [some (.ref 66)]) (st_q := [.ref 66]) (h_q := h_301) (cl_q := 0) (sl_q := 0) rfl ?_
      refine fw_gf rfl rfl g_301_66 rfl ?_
      refine ik_Wk 1 (pc_q := 5) (loc_q := [some (.ref 66)]) (st_q := [fI 1, fI pl]) (h_q := h_301) (cl_q := 0) (sl_q := 0) rfl ?_
      refine fw_sub rfl ?_
      refine ik_Wret rfl rfl ⟨_, _, rfl, rfl, ?_⟩
      refine ik_Wk 0 (pc_q := 41) (loc_q := [some (.ref 66), some (fJ hw), none, some (fI i), x4, none]) (st_q := [fI (pl - 1), .ref 79]) (h_q := h_301) (cl_q := 0) (sl_q := 0) rfl ?_
      refine fx_lal rfl g_301_79 (by omega) (by omega) (by omega) ?_
      refine ik_Wk 2 (pc_q := 45) (loc_q := [some (.ref 66), some (fJ hw), none, some (fI i), some (fJ (xs'_301.getD (pl - 1).toNat 0)), none]) (st_q := [.ref 66]) (h_q := h_301) (cl_q := 0) (sl_q := 0) rfl ?_
      refine fw_call 153 1 0 [.ref 66] [] rfl rfl rfl (Nat.le_of_ble_eq_true rfl) rfl rfl (fw_rec k_301 rfl g_301_66 rfl (Nat.le_of_ble_eq_true rfl)) (cr_flow (pl := pl) (f := fun j => ((0 :: 0 :: 0 :: 0 :: 0 :: 0 :: 0 :: ((f 7)) :: ((f 8)) :: 0 :: ((f 10)) :: ((f 11)) :: ((f 12)) :: ((f 13)) :: ((f 14)) :: ((f 15)) :: ((f 16)) :: ((f 17)) :: 0 :: 0 :: 0 :: 0 :: 0 :: 0 :: w'_301 :: 0 :: 0 :: 0 :: 0 :: 0 :: 0 :: 0 :: ((f 32)) :: ((f 33)) :: 0 :: 0 :: r :: 0 :: 0 :: 0 :: 0 :: 0 :: 0 :: []) : List Int).getD j 0) (s := s) (cn := cn) (go := go) (ch := ch) (gt := gt'_301) (gd := gd'_301) (xs := xs'_301) (ys := ys'_301) (o := mf_od (fun x => mx_w cn go ch s x) (pl - 1) 0 (rp.getD i.toNat 0) (rt.getD i.toNat 0 - 1).toNat) (by omega) (by omega) (fun x h0 h1 => by have := (q2 x h0 h1).1; omega) (mx_rw_ch q2) (mx_rw_ok q2 _) p_301_0 gd_301 g_301_66 g_301_67 n67 g_301_68 n68 g_301_69 n69 g_301_77 m_301_77 g_301_78 m_301_78 g_301_79 m_301_79 g_301_80 m_301_80 k_301) ?_
      rintro _ h_302 ⟨w'_302, gt'_302, gd'_302, xs'_302, ys'_302, rfl, e_302_66, e_302_77, m_302_77, e_302_78, m_302_78, e_302_79, m_302_79, e_302_80, m_302_80, p_302_0, F_302⟩
      have k_302 : cL h_302 := F_302.1.trans k_301
      have fr_302 := hfr_cb fr_301 F_302 rfl
      have g_302_67 := (hfr_g F_302 67 rfl).trans g_301_67
      have g_302_68 := (hfr_g F_302 68 rfl).trans g_301_68
      have g_302_69 := (hfr_g F_302 69 rfl).trans g_301_69
      have g_302_88 := (hfr_g F_302 88 rfl).trans g_301_88
      have g_302_89 := (hfr_g F_302 89 rfl).trans g_301_89
      have g_302_66 : cE h_302 66 (.inr (10, (fI pl :: .ref 67 :: .ref 68 :: .ref 69 :: fI ((s : Nat) : Int) :: .ref 70 :: .ref 71 :: fI (f 7) :: fI (f 8) :: .ref 72 :: fI (f 10) :: fI (f 11) :: fI (f 12) :: fJ (f 13) :: fI (f 14) :: fI (f 15) :: fI (f 16) :: fI (f 17) :: .ref 73 :: .ref 74 :: .ref 75 :: .ref 76 :: .ref 77 :: .ref 78 :: fI w'_302 :: .ref 79 :: .ref 80 :: .ref 81 :: .ref 82 :: .ref 83 :: .ref 84 :: .ref 85 :: fJ (f 32) :: fJ (f 33) :: .ref 86 :: .ref 87 :: fI r :: .ref 88 :: .ref 89 :: .ref 90 :: .ref 91 :: .ref 92 :: .ref 93 :: []))) := e_302_66
      have g_302_77 : cE h_302 77 (.inl (.int, fA gt'_302)) := e_302_77
      have g_302_78 : cE h_302 78 (.inl (.int, fA gd'_302)) := e_302_78
      have g_302_79 : cE h_302 79 (.inl (.long, fL xs'_302)) := e_302_79
      have g_302_80 : cE h_302 80 (.inl (.long, fL ys'_302)) := e_302_80
      refine ik_Wk 0 (pc_q := 48) (loc_q := [some (.ref 66), some (fJ hw), none, some (fI i), some (fJ (xs'_301.getD (pl - 1).toNat 0)), none]) (st_q := []) (h_q := h_302) (cl_q := 0) (sl_q := 0) rfl ?_
      have ef_302 : xs'_302.getD (pl - 1).toNat 0 = mf_cm (fun x => mx_w cn go ch s x) (pl - 1) 0 (rp.getD i.toNat 0) (rt.getD i.toNat 0).toNat := by
        have e := mf_od_s (W := (fun x => mx_w cn go ch s x)) (br := pl - 1) (k := 0) (q := rp.getD i.toNat 0) (u := rt.getD i.toNat 0 - 1) (by omega)
        rw [show rt.getD i.toNat 0 - 1 + 1 = rt.getD i.toNat 0 by omega] at e
        show _ = mf_od _ _ _ _ _ _
        rw [e]
        exact p_302_0 _ (by omega)
      have hJ : mk_J (fun x => mx_w cn go ch s x) pl rp rt i.toNat = xs'_302.getD (pl - 1).toNat 0 - (xs'_301.getD (pl - 1).toNat 0) := by unfold mk_J; rw [ef_302, eo_301]
      have hJ2 := hJ
      have hJb := mk_J_b (W := (fun x => mx_w cn go ch s x)) (mx_rw_ok q2 _) q4 i.toNat (by omega)
      have hfb := mk_ft_b (J := mk_J (fun x => mx_w cn go ch s x) pl rp rt) i.toNat (fun j hj => mk_J_b (mx_rw_ok q2 _) q4 j (by omega))
      refine ik_Wk 2 (pc_q := 50) (loc_q := [some (.ref 66), some (fJ hw), none, some (fI i), some (fJ (xs'_301.getD (pl - 1).toNat 0)), none]) (st_q := [.ref 66, fJ hw]) (h_q := h_302) (cl_q := 0) (sl_q := 0) rfl ?_
      refine fw_gf rfl rfl g_302_66 rfl ?_
      refine ik_Wk 1 (pc_q := 54) (loc_q := [some (.ref 66), some (fJ hw), none, some (fI i), some (fJ (xs'_301.getD (pl - 1).toNat 0)), none]) (st_q := [.ref 66, .ref 79, fJ hw]) (h_q := h_302) (cl_q := 0) (sl_q := 0) rfl ?_
      refine ik_Wc 130 1 0 [.ref 66] [.ref 79, fJ hw] rfl rfl rfl (by decide +kernel) rfl rfl (fw_rec k_302 rfl g_302_66 rfl (Nat.le_of_ble_eq_true rfl)) ?_
      refine ik_Wk 0 (pc_q := 0) (loc_q := [some (.ref 66)]) (st_q := []) (h_q := h_302) (cl_q := 0) (sl_q := 0) rfl ?_
      refine ik_Wk 1 (pc_q := 1) (loc_q := [some (.ref 66)]) (st_q := [.ref 66]) (h_q := h_302) (cl_q := 0) (sl_q := 0) rfl ?_
      refine fw_gf rfl rfl g_302_66 rfl ?_
      refine ik_Wk 1 (pc_q := 5) (loc_q := [some (.ref 66)]) (st_q := [fI 1, fI pl]) (h_q := h_302) (cl_q := 0) (sl_q := 0) rfl ?_
      refine fw_sub rfl ?_
      refine ik_Wret rfl rfl ⟨_, _, rfl, rfl, ?_⟩
      refine ik_Wk 0 (pc_q := 57) (loc_q := [some (.ref 66), some (fJ hw), none, some (fI i), some (fJ (xs'_301.getD (pl - 1).toNat 0)), none]) (st_q := [fI (pl - 1), .ref 79, fJ hw]) (h_q := h_302) (cl_q := 0) (sl_q := 0) rfl ?_
      refine fx_lal rfl g_302_79 (by omega) (by omega) (by omega) ?_
      refine ik_Wk 1 (pc_q := 60) (loc_q := [some (.ref 66), some (fJ hw), none, some (fI i), some (fJ (xs'_301.getD (pl - 1).toNat 0)), none]) (st_q := [fJ (xs'_301.getD (pl - 1).toNat 0), fJ (xs'_302.getD (pl - 1).toNat 0), fJ hw]) (h_q := h_302) (cl_q := 0) (sl_q := 0) rfl ?_
      refine fw_lsub rfl ?_
      refine fw_l2 1000 rfl rfl (by decide +kernel) ?_
      refine fx_ldiv rfl (by omega) (by omega) (by omega) (by omega) ?_
      refine fw_lmul rfl ?_
      refine fw_l2 1000000 rfl rfl (by decide +kernel) ?_
      have hmm := mk_mul_b (v := hw) (j := (((xs'_302.getD (pl - 1).toNat 0) - (xs'_301.getD (pl - 1).toNat 0)) / 1000)) (by omega) (by omega) (by omega) (by omega)
      refine fx_ldiv rfl (by omega) (by omega) (by omega) (by omega) ?_
      refine ik_Wk 2 (pc_q := 72) (loc_q := [some (.ref 66), some (fJ ((hw * (((xs'_302.getD (pl - 1).toNat 0) - (xs'_301.getD (pl - 1).toNat 0)) / 1000)) / 1000000)), none, some (fI i), some (fJ (xs'_301.getD (pl - 1).toNat 0)), none]) (st_q := [fJ ((hw * (((xs'_302.getD (pl - 1).toNat 0) - (xs'_301.getD (pl - 1).toNat 0)) / 1000)) / 1000000)]) (h_q := h_302) (cl_q := 0) (sl_q := 0) rfl ?_
      refine fw_lc (z := 1) rfl (by decide +kernel) ?_
      refine fw_lcmp_ge rfl rfl rfl (by omega) (by omega) (by omega) (by omega) (fun hc2 => ?_) (fun hc2 => ?_)
      · refine ik_Wk 2 (pc_q := 83) (loc_q := [some (.ref 66), some (fJ ((hw * (((xs'_302.getD (pl - 1).toNat 0) - (xs'_301.getD (pl - 1).toNat 0)) / 1000)) / 1000000)), none, some (fI i), some (fJ (xs'_301.getD (pl - 1).toNat 0)), none]) (st_q := []) (h_q := h_302) (cl_q := 0) (sl_q := 0) rfl ?_
        refine fw_inc (a := i) (loc_q := [some (.ref 66), some (fJ ((hw * (((xs'_302.getD (pl - 1).toNat 0) - (xs'_301.getD (pl - 1).toNat 0)) / 1000)) / 1000000)), none, some (fI (i + 1)), some (fJ (xs'_301.getD (pl - 1).toNat 0)), none]) rfl rfl (Nat.le_of_ble_eq_true rfl) rfl ?_
        refine ik_Wk 1 (pc_q := 6) (loc_q := [some (.ref 66), some (fJ ((hw * (((xs'_302.getD (pl - 1).toNat 0) - (xs'_301.getD (pl - 1).toNat 0)) / 1000)) / 1000000)), none, some (fI (i + 1)), some (fJ (xs'_301.getD (pl - 1).toNat 0)), none]) (st_q := []) (h_q := h_302) (cl_q := 0) (sl_q := 0) rfl ?_
        exact ih  (i + 1) ((hw * (((xs'_302.getD (pl - 1).toNat 0) - (xs'_301.getD (pl - 1).toNat 0)) / 1000)) / 1000000) w'_302 gt'_302 gd'_302 xs'_302 ys'_302 (some (fJ (xs'_301.getD (pl - 1).toNat 0))) h_302 g_302_66 g_302_67 n67 g_302_68 n68 g_302_69 n69 g_302_77 m_302_77 g_302_78 m_302_78 g_302_79 m_302_79 g_302_80 m_302_80 g_302_88 n88 g_302_89 n89 k_302 fr_302 (by omega) (by rw [mk_ft_s (by omega), hJ2, ← he]; split <;> first | rfl | omega) rfl (by omega)
      · refine fw_lc (z := 1) rfl (by decide +kernel) ?_
        refine ik_Wk 2 (pc_q := 83) (loc_q := [some (.ref 66), some (fJ 1), none, some (fI i), some (fJ (xs'_301.getD (pl - 1).toNat 0)), none]) (st_q := []) (h_q := h_302) (cl_q := 0) (sl_q := 0) rfl ?_
        refine fw_inc (a := i) (loc_q := [some (.ref 66), some (fJ 1), none, some (fI (i + 1)), some (fJ (xs'_301.getD (pl - 1).toNat 0)), none]) rfl rfl (Nat.le_of_ble_eq_true rfl) rfl ?_
        refine ik_Wk 1 (pc_q := 6) (loc_q := [some (.ref 66), some (fJ 1), none, some (fI (i + 1)), some (fJ (xs'_301.getD (pl - 1).toNat 0)), none]) (st_q := []) (h_q := h_302) (cl_q := 0) (sl_q := 0) rfl ?_
        exact ih  (i + 1) 1 w'_302 gt'_302 gd'_302 xs'_302 ys'_302 (some (fJ (xs'_301.getD (pl - 1).toNat 0))) h_302 g_302_66 g_302_67 n67 g_302_68 n68 g_302_69 n69 g_302_77 m_302_77 g_302_78 m_302_78 g_302_79 m_302_79 g_302_80 m_302_80 g_302_88 n88 g_302_89 n89 k_302 fr_302 (by omega) (by rw [mk_ft_s (by omega), hJ2, ← he]; split <;> first | rfl | omega) rfl (by omega)

theorem cr_fitNow {h : List ik_E} {pl : Int} {f : Nat → Int} {s : Nat} {cn : List Int} {go : List Int} {ch : List Int} {gt : List Int} {gd : List Int} {xs : List Int} {ys : List Int} {r : Int} {rp : List Int} {rt : List Int} (q0 : 0 ≤ pl ∧ pl ≤ 12) (q1 : s < 4096) (q2 : mx_rw pl cn go ch) (q3 : 0 ≤ r ∧ r ≤ 12) (q4 : mk_rr pl r rp rt) (h66 : cE h 66 (.inr (10, (fI pl :: .ref 67 :: .ref 68 :: .ref 69 :: fI ((s : Nat) : Int) :: .ref 70 :: .ref 71 :: fI (f 7) :: fI (f 8) :: .ref 72 :: fI (f 10) :: fI (f 11) :: fI (f 12) :: fJ (f 13) :: fI (f 14) :: fI (f 15) :: fI (f 16) :: fI (f 17) :: .ref 73 :: .ref 74 :: .ref 75 :: .ref 76 :: .ref 77 :: .ref 78 :: fI (f 24) :: .ref 79 :: .ref 80 :: .ref 81 :: .ref 82 :: .ref 83 :: .ref 84 :: .ref 85 :: fJ (f 32) :: fJ (f 33) :: .ref 86 :: .ref 87 :: fI r :: .ref 88 :: .ref 89 :: .ref 90 :: .ref 91 :: .ref 92 :: .ref 93 :: [])))) (h67 : cE h 67 (.inl (.int, fA cn))) (n67 : cn.length = (12 : Nat)) (h68 : cE h 68 (.inl (.int, fA go))) (n68 : go.length = (48 : Nat)) (h69 : cE h 69 (.inl (.int, fA ch))) (n69 : ch.length = (48 : Nat)) (h77 : cE h 77 (.inl (.int, fA gt))) (n77 : gt.length = (5 : Nat)) (h78 : cE h 78 (.inl (.int, fA gd))) (n78 : gd.length = (5 : Nat)) (h79 : cE h 79 (.inl (.long, fL xs))) (n79 : xs.length = (12 : Nat)) (h80 : cE h 80 (.inl (.long, fL ys))) (n80 : ys.length = (12 : Nat)) (h88 : cE h 88 (.inl (.int, fA rp))) (n88 : rp.length = (12 : Nat)) (h89 : cE h 89 (.inl (.int, fA rt))) (n89 : rt.length = (12 : Nat)) (hl : h.length = (94 : Nat)) : ik_F 185 [.ref 66] h (fun rv h_q => ∃ (w' : Int) (gt' : List Int) (gd' : List Int) (xs' : List Int) (ys' : List Int), rv = [fI (mk_fv cn go ch s pl rp rt r)] ∧ cE h_q 66 (.inr (10, (fI pl :: .ref 67 :: .ref 68 :: .ref 69 :: fI ((s : Nat) : Int) :: .ref 70 :: .ref 71 :: fI (f 7) :: fI (f 8) :: .ref 72 :: fI (f 10) :: fI (f 11) :: fI (f 12) :: fJ (f 13) :: fI (f 14) :: fI (f 15) :: fI (f 16) :: fI (f 17) :: .ref 73 :: .ref 74 :: .ref 75 :: .ref 76 :: .ref 77 :: .ref 78 :: fI w' :: .ref 79 :: .ref 80 :: .ref 81 :: .ref 82 :: .ref 83 :: .ref 84 :: .ref 85 :: fJ (f 32) :: fJ (f 33) :: .ref 86 :: .ref 87 :: fI r :: .ref 88 :: .ref 89 :: .ref 90 :: .ref 91 :: .ref 92 :: .ref 93 :: []))) ∧ cE h_q 77 (.inl (.int, fA gt')) ∧ gt'.length = (5 : Nat) ∧ cE h_q 78 (.inl (.int, fA gd')) ∧ gd'.length = (5 : Nat) ∧ cE h_q 79 (.inl (.long, fL xs')) ∧ xs'.length = (12 : Nat) ∧ cE h_q 80 (.inl (.long, fL ys')) ∧ ys'.length = (12 : Nat) ∧ hfr [66, 77, 78, 79, 80] h h_q) := by
  refine fw_l2 1000000000 rfl rfl (by decide +kernel) ?_
  refine ik_Wk 3 (pc_q := 6) (loc_q := [some (.ref 66), some (fJ 1000000000), none, some (fI 0), none, none]) (st_q := []) (h_q := h) (cl_q := 0) (sl_q := 0) rfl ?_
  exact cr_fitNowL (pl := pl) (f := f) (s := s) (cn := cn) (go := go) (ch := ch) (gt := gt) (gd := gd) (xs := xs) (ys := ys) (r := r) (rp := rp) (rt := rt) q0 q1 q2 q3 q4  (r.toNat + 1) 0 1000000000 (f 24) gt gd xs ys none h h66 h67 n67 h68 n68 h69 n69 h77 n77 h78 n78 h79 n79 h80 n80 h88 n88 h89 n89 hl (hfr_refl [66, 77, 78, 79, 80] h) (by omega) rfl rfl (by omega)

theorem cr_fitOf0 {h : List ik_E} {pl : Int} {f : Nat → Int} {s : Nat} {cn : List Int} {go : List Int} {ch : List Int} {gt : List Int} {gd : List Int} {xs : List Int} {ys : List Int} {r : Int} {rp : List Int} {rt : List Int} (q0 : 0 ≤ pl ∧ pl ≤ 12) (q1 : s < 4096) (q2 : mx_rw pl cn go ch) (q3 : 0 ≤ r ∧ r ≤ 12) (q4 : mk_rr pl r rp rt) (h66 : cE h 66 (.inr (10, (fI pl :: .ref 67 :: .ref 68 :: .ref 69 :: fI ((s : Nat) : Int) :: .ref 70 :: .ref 71 :: fI (f 7) :: fI (f 8) :: .ref 72 :: fI (f 10) :: fI (f 11) :: fI (f 12) :: fJ (f 13) :: fI (f 14) :: fI (f 15) :: fI (f 16) :: fI (f 17) :: .ref 73 :: .ref 74 :: .ref 75 :: .ref 76 :: .ref 77 :: .ref 78 :: fI (f 24) :: .ref 79 :: .ref 80 :: .ref 81 :: .ref 82 :: .ref 83 :: .ref 84 :: .ref 85 :: fJ (f 32) :: fJ (f 33) :: .ref 86 :: .ref 87 :: fI r :: .ref 88 :: .ref 89 :: .ref 90 :: .ref 91 :: .ref 92 :: .ref 93 :: [])))) (h67 : cE h 67 (.inl (.int, fA cn))) (n67 : cn.length = (12 : Nat)) (h68 : cE h 68 (.inl (.int, fA go))) (n68 : go.length = (48 : Nat)) (h69 : cE h 69 (.inl (.int, fA ch))) (n69 : ch.length = (48 : Nat)) (h77 : cE h 77 (.inl (.int, fA gt))) (n77 : gt.length = (5 : Nat)) (h78 : cE h 78 (.inl (.int, fA gd))) (n78 : gd.length = (5 : Nat)) (h79 : cE h 79 (.inl (.long, fL xs))) (n79 : xs.length = (12 : Nat)) (h80 : cE h 80 (.inl (.long, fL ys))) (n80 : ys.length = (12 : Nat)) (h88 : cE h 88 (.inl (.int, fA rp))) (n88 : rp.length = (12 : Nat)) (h89 : cE h 89 (.inl (.int, fA rt))) (n89 : rt.length = (12 : Nat)) (hl : h.length = (94 : Nat)) : ik_F 186 [.ref 66, fI (-1)] h (fun rv h_q => ∃ (w' : Int) (gt' : List Int) (gd' : List Int) (xs' : List Int) (ys' : List Int), rv = [fI (mk_fv cn go ch s pl rp rt r)] ∧ cE h_q 66 (.inr (10, (fI pl :: .ref 67 :: .ref 68 :: .ref 69 :: fI ((s : Nat) : Int) :: .ref 70 :: .ref 71 :: fI (f 7) :: fI (f 8) :: .ref 72 :: fI (f 10) :: fI (f 11) :: fI (f 12) :: fJ (f 13) :: fI (f 14) :: fI (f 15) :: fI (f 16) :: fI (f 17) :: .ref 73 :: .ref 74 :: .ref 75 :: .ref 76 :: .ref 77 :: .ref 78 :: fI w' :: .ref 79 :: .ref 80 :: .ref 81 :: .ref 82 :: .ref 83 :: .ref 84 :: .ref 85 :: fJ (f 32) :: fJ (f 33) :: .ref 86 :: .ref 87 :: fI r :: .ref 88 :: .ref 89 :: .ref 90 :: .ref 91 :: .ref 92 :: .ref 93 :: []))) ∧ cE h_q 77 (.inl (.int, fA gt')) ∧ gt'.length = (5 : Nat) ∧ cE h_q 78 (.inl (.int, fA gd')) ∧ gd'.length = (5 : Nat) ∧ cE h_q 79 (.inl (.long, fL xs')) ∧ xs'.length = (12 : Nat) ∧ cE h_q 80 (.inl (.long, fL ys')) ∧ ys'.length = (12 : Nat) ∧ hfr [66, 77, 78, 79, 80] h h_q) := by
  refine ik_Wk 1 (pc_q := 1) (loc_q := [some (.ref 66), some (fI (-1)), none, none]) (st_q := [.ref 66]) (h_q := h) (cl_q := 0) (sl_q := 0) rfl ?_
  refine fw_gf rfl rfl h66 rfl ?_
  refine ik_Wk 3 (pc_q := 7) (loc_q := [some (.ref 66), some (fI (-1)), some (fI ((s : Nat) : Int)), none]) (st_q := [fI (-1), .ref 66]) (h_q := h) (cl_q := 0) (sl_q := 0) rfl ?_
  refine fw_if_ge rfl rfl (by decide +kernel) (by decide +kernel) (fun hc1 => absurd hc1 (by decide +kernel)) (fun hc1 => ?_)
  refine ik_Wk 1 (pc_q := 11) (loc_q := [some (.ref 66), some (fI (-1)), some (fI ((s : Nat) : Int)), none]) (st_q := [.ref 66, .ref 66]) (h_q := h) (cl_q := 0) (sl_q := 0) rfl ?_
  refine fw_gf rfl rfl h66 rfl ?_
  refine ik_Wk 1 (pc_q := 25) (loc_q := [some (.ref 66), some (fI (-1)), some (fI ((s : Nat) : Int)), none]) (st_q := [fI ((s : Nat) : Int), .ref 66]) (h_q := h) (cl_q := 0) (sl_q := 0) rfl ?_
  refine fx_pf rfl rfl h66 (Nat.le_of_ble_eq_true rfl) rfl rfl ?_
  intro h_303 e_303 f_303 l_303
  have k_303 : cL h_303 := l_303.trans hl
  have fr_303 := hfr_wb (hfr_refl [66, 77, 78, 79, 80] h) f_303 l_303 rfl
  clear l_303
  have g_303_67 := (f_303 67 (Nat.ne_of_beq_eq_false rfl)).trans h67
  have g_303_68 := (f_303 68 (Nat.ne_of_beq_eq_false rfl)).trans h68
  have g_303_69 := (f_303 69 (Nat.ne_of_beq_eq_false rfl)).trans h69
  have g_303_77 := (f_303 77 (Nat.ne_of_beq_eq_false rfl)).trans h77
  have g_303_78 := (f_303 78 (Nat.ne_of_beq_eq_false rfl)).trans h78
  have g_303_79 := (f_303 79 (Nat.ne_of_beq_eq_false rfl)).trans h79
  have g_303_80 := (f_303 80 (Nat.ne_of_beq_eq_false rfl)).trans h80
  have g_303_88 := (f_303 88 (Nat.ne_of_beq_eq_false rfl)).trans h88
  have g_303_89 := (f_303 89 (Nat.ne_of_beq_eq_false rfl)).trans h89
  have g_303_66 : cE h_303 66 (.inr (10, (fI pl :: .ref 67 :: .ref 68 :: .ref 69 :: fI ((s : Nat) : Int) :: .ref 70 :: .ref 71 :: fI (f 7) :: fI (f 8) :: .ref 72 :: fI (f 10) :: fI (f 11) :: fI (f 12) :: fJ (f 13) :: fI (f 14) :: fI (f 15) :: fI (f 16) :: fI (f 17) :: .ref 73 :: .ref 74 :: .ref 75 :: .ref 76 :: .ref 77 :: .ref 78 :: fI (f 24) :: .ref 79 :: .ref 80 :: .ref 81 :: .ref 82 :: .ref 83 :: .ref 84 :: .ref 85 :: fJ (f 32) :: fJ (f 33) :: .ref 86 :: .ref 87 :: fI r :: .ref 88 :: .ref 89 :: .ref 90 :: .ref 91 :: .ref 92 :: .ref 93 :: []))) := e_303
  refine ik_Wk 1 (pc_q := 29) (loc_q := [some (.ref 66), some (fI (-1)), some (fI ((s : Nat) : Int)), none]) (st_q := [.ref 66]) (h_q := h_303) (cl_q := 0) (sl_q := 0) rfl ?_
  refine fw_call 185 1 0 [.ref 66] [] rfl rfl rfl (Nat.le_of_ble_eq_true rfl) rfl rfl (fw_rec k_303 rfl g_303_66 rfl (Nat.le_of_ble_eq_true rfl)) (cr_fitNow (pl := pl) (f := fun j => ((0 :: 0 :: 0 :: 0 :: 0 :: 0 :: 0 :: f 7 :: f 8 :: 0 :: f 10 :: f 11 :: f 12 :: f 13 :: f 14 :: f 15 :: f 16 :: f 17 :: 0 :: 0 :: 0 :: 0 :: 0 :: 0 :: f 24 :: 0 :: 0 :: 0 :: 0 :: 0 :: 0 :: 0 :: f 32 :: f 33 :: 0 :: 0 :: 0 :: 0 :: 0 :: 0 :: 0 :: 0 :: 0 :: []) : List Int).getD j 0) (s := s) (cn := cn) (go := go) (ch := ch) (gt := gt) (gd := gd) (xs := xs) (ys := ys) (r := r) (rp := rp) (rt := rt) (by omega) (by omega) q2 (by omega) q4 g_303_66 g_303_67 n67 g_303_68 n68 g_303_69 n69 g_303_77 n77 g_303_78 n78 g_303_79 n79 g_303_80 n80 g_303_88 n88 g_303_89 n89 k_303) ?_
  rintro _ h_304 ⟨w'_304, gt'_304, gd'_304, xs'_304, ys'_304, rfl, e_304_66, e_304_77, m_304_77, e_304_78, m_304_78, e_304_79, m_304_79, e_304_80, m_304_80, F_304⟩
  have k_304 : cL h_304 := F_304.1.trans k_303
  have fr_304 := hfr_cb fr_303 F_304 rfl
  have g_304_67 := (hfr_g F_304 67 rfl).trans g_303_67
  have g_304_68 := (hfr_g F_304 68 rfl).trans g_303_68
  have g_304_69 := (hfr_g F_304 69 rfl).trans g_303_69
  have g_304_88 := (hfr_g F_304 88 rfl).trans g_303_88
  have g_304_89 := (hfr_g F_304 89 rfl).trans g_303_89
  have g_304_66 : cE h_304 66 (.inr (10, (fI pl :: .ref 67 :: .ref 68 :: .ref 69 :: fI ((s : Nat) : Int) :: .ref 70 :: .ref 71 :: fI (f 7) :: fI (f 8) :: .ref 72 :: fI (f 10) :: fI (f 11) :: fI (f 12) :: fJ (f 13) :: fI (f 14) :: fI (f 15) :: fI (f 16) :: fI (f 17) :: .ref 73 :: .ref 74 :: .ref 75 :: .ref 76 :: .ref 77 :: .ref 78 :: fI w'_304 :: .ref 79 :: .ref 80 :: .ref 81 :: .ref 82 :: .ref 83 :: .ref 84 :: .ref 85 :: fJ (f 32) :: fJ (f 33) :: .ref 86 :: .ref 87 :: fI r :: .ref 88 :: .ref 89 :: .ref 90 :: .ref 91 :: .ref 92 :: .ref 93 :: []))) := e_304_66
  have g_304_77 : cE h_304 77 (.inl (.int, fA gt'_304)) := e_304_77
  have g_304_78 : cE h_304 78 (.inl (.int, fA gd'_304)) := e_304_78
  have g_304_79 : cE h_304 79 (.inl (.long, fL xs'_304)) := e_304_79
  have g_304_80 : cE h_304 80 (.inl (.long, fL ys'_304)) := e_304_80
  refine ik_Wk 0 (pc_q := 32) (loc_q := [some (.ref 66), some (fI (-1)), some (fI ((s : Nat) : Int)), none]) (st_q := [fI (mk_fv cn go ch s pl rp rt r)]) (h_q := h_304) (cl_q := 0) (sl_q := 0) rfl ?_
  refine ik_Wk 3 (pc_q := 35) (loc_q := [some (.ref 66), some (fI (-1)), some (fI ((s : Nat) : Int)), some (fI (mk_fv cn go ch s pl rp rt r))]) (st_q := [fI ((s : Nat) : Int), .ref 66]) (h_q := h_304) (cl_q := 0) (sl_q := 0) rfl ?_
  refine fx_pf rfl rfl g_304_66 (Nat.le_of_ble_eq_true rfl) rfl rfl ?_
  intro h_305 e_305 f_305 l_305
  have k_305 : cL h_305 := l_305.trans k_304
  have fr_305 := hfr_wb fr_304 f_305 l_305 rfl
  clear l_305
  have g_305_67 := (f_305 67 (Nat.ne_of_beq_eq_false rfl)).trans g_304_67
  have g_305_68 := (f_305 68 (Nat.ne_of_beq_eq_false rfl)).trans g_304_68
  have g_305_69 := (f_305 69 (Nat.ne_of_beq_eq_false rfl)).trans g_304_69
  have g_305_77 := (f_305 77 (Nat.ne_of_beq_eq_false rfl)).trans g_304_77
  have g_305_78 := (f_305 78 (Nat.ne_of_beq_eq_false rfl)).trans g_304_78
  have g_305_79 := (f_305 79 (Nat.ne_of_beq_eq_false rfl)).trans g_304_79
  have g_305_80 := (f_305 80 (Nat.ne_of_beq_eq_false rfl)).trans g_304_80
  have g_305_88 := (f_305 88 (Nat.ne_of_beq_eq_false rfl)).trans g_304_88
  have g_305_89 := (f_305 89 (Nat.ne_of_beq_eq_false rfl)).trans g_304_89
  have g_305_66 : cE h_305 66 (.inr (10, (fI pl :: .ref 67 :: .ref 68 :: .ref 69 :: fI ((s : Nat) : Int) :: .ref 70 :: .ref 71 :: fI (f 7) :: fI (f 8) :: .ref 72 :: fI (f 10) :: fI (f 11) :: fI (f 12) :: fJ (f 13) :: fI (f 14) :: fI (f 15) :: fI (f 16) :: fI (f 17) :: .ref 73 :: .ref 74 :: .ref 75 :: .ref 76 :: .ref 77 :: .ref 78 :: fI w'_304 :: .ref 79 :: .ref 80 :: .ref 81 :: .ref 82 :: .ref 83 :: .ref 84 :: .ref 85 :: fJ (f 32) :: fJ (f 33) :: .ref 86 :: .ref 87 :: fI r :: .ref 88 :: .ref 89 :: .ref 90 :: .ref 91 :: .ref 92 :: .ref 93 :: []))) := e_305
  refine ik_Wk 1 (pc_q := 39) (loc_q := [some (.ref 66), some (fI (-1)), some (fI ((s : Nat) : Int)), some (fI (mk_fv cn go ch s pl rp rt r))]) (st_q := [fI (mk_fv cn go ch s pl rp rt r)]) (h_q := h_305) (cl_q := 0) (sl_q := 0) rfl ?_
  exact ik_Wret rfl rfl ⟨_, _, rfl, rfl, rfl, rfl, ⟨w'_304, gt'_304, gd'_304, xs'_304, ys'_304, rfl, g_305_66, g_305_77, m_304_77, g_305_78, m_304_78, g_305_79, m_304_79, g_305_80, m_304_80, fr_305⟩⟩

theorem cr_fitOf {h : List ik_E} {pl : Int} {f : Nat → Int} {s : Nat} {cn : List Int} {go : List Int} {ch : List Int} {gt : List Int} {gd : List Int} {xs : List Int} {ys : List Int} {r : Int} {rp : List Int} {rt : List Int} {p : Int} (q0 : 0 ≤ pl ∧ pl ≤ 12) (q1 : s < 4096) (q2 : mx_rw pl cn go ch) (q3 : 0 ≤ r ∧ r ≤ 12) (q4 : mk_rr pl r rp rt) (q5 : 0 ≤ p ∧ p < pl - 1) (h66 : cE h 66 (.inr (10, (fI pl :: .ref 67 :: .ref 68 :: .ref 69 :: fI ((s : Nat) : Int) :: .ref 70 :: .ref 71 :: fI (f 7) :: fI (f 8) :: .ref 72 :: fI (f 10) :: fI (f 11) :: fI (f 12) :: fJ (f 13) :: fI (f 14) :: fI (f 15) :: fI (f 16) :: fI (f 17) :: .ref 73 :: .ref 74 :: .ref 75 :: .ref 76 :: .ref 77 :: .ref 78 :: fI (f 24) :: .ref 79 :: .ref 80 :: .ref 81 :: .ref 82 :: .ref 83 :: .ref 84 :: .ref 85 :: fJ (f 32) :: fJ (f 33) :: .ref 86 :: .ref 87 :: fI r :: .ref 88 :: .ref 89 :: .ref 90 :: .ref 91 :: .ref 92 :: .ref 93 :: [])))) (h67 : cE h 67 (.inl (.int, fA cn))) (n67 : cn.length = (12 : Nat)) (h68 : cE h 68 (.inl (.int, fA go))) (n68 : go.length = (48 : Nat)) (h69 : cE h 69 (.inl (.int, fA ch))) (n69 : ch.length = (48 : Nat)) (h77 : cE h 77 (.inl (.int, fA gt))) (n77 : gt.length = (5 : Nat)) (h78 : cE h 78 (.inl (.int, fA gd))) (n78 : gd.length = (5 : Nat)) (h79 : cE h 79 (.inl (.long, fL xs))) (n79 : xs.length = (12 : Nat)) (h80 : cE h 80 (.inl (.long, fL ys))) (n80 : ys.length = (12 : Nat)) (h88 : cE h 88 (.inl (.int, fA rp))) (n88 : rp.length = (12 : Nat)) (h89 : cE h 89 (.inl (.int, fA rt))) (n89 : rt.length = (12 : Nat)) (hl : h.length = (94 : Nat)) : ik_F 186 [.ref 66, fI p] h (fun rv h_q => ∃ (w' : Int) (gt' : List Int) (gd' : List Int) (xs' : List Int) (ys' : List Int), rv = [fI (mk_vs cn go ch s pl rp rt r p)] ∧ cE h_q 66 (.inr (10, (fI pl :: .ref 67 :: .ref 68 :: .ref 69 :: fI ((s : Nat) : Int) :: .ref 70 :: .ref 71 :: fI (f 7) :: fI (f 8) :: .ref 72 :: fI (f 10) :: fI (f 11) :: fI (f 12) :: fJ (f 13) :: fI (f 14) :: fI (f 15) :: fI (f 16) :: fI (f 17) :: .ref 73 :: .ref 74 :: .ref 75 :: .ref 76 :: .ref 77 :: .ref 78 :: fI w' :: .ref 79 :: .ref 80 :: .ref 81 :: .ref 82 :: .ref 83 :: .ref 84 :: .ref 85 :: fJ (f 32) :: fJ (f 33) :: .ref 86 :: .ref 87 :: fI r :: .ref 88 :: .ref 89 :: .ref 90 :: .ref 91 :: .ref 92 :: .ref 93 :: []))) ∧ cE h_q 77 (.inl (.int, fA gt')) ∧ gt'.length = (5 : Nat) ∧ cE h_q 78 (.inl (.int, fA gd')) ∧ gd'.length = (5 : Nat) ∧ cE h_q 79 (.inl (.long, fL xs')) ∧ xs'.length = (12 : Nat) ∧ cE h_q 80 (.inl (.long, fL ys')) ∧ ys'.length = (12 : Nat) ∧ hfr [66, 77, 78, 79, 80] h h_q) := by
  refine ik_Wk 1 (pc_q := 1) (loc_q := [some (.ref 66), some (fI p), none, none]) (st_q := [.ref 66]) (h_q := h) (cl_q := 0) (sl_q := 0) rfl ?_
  refine fw_gf rfl rfl h66 rfl ?_
  refine ik_Wk 3 (pc_q := 7) (loc_q := [some (.ref 66), some (fI p), some (fI ((s : Nat) : Int)), none]) (st_q := [fI p, .ref 66]) (h_q := h) (cl_q := 0) (sl_q := 0) rfl ?_
  refine fw_if_ge rfl rfl (by omega) (by omega) (fun hc1 => ?_) (fun hc1 => absurd hc1 (by omega))
  refine ik_Wk 1 (pc_q := 18) (loc_q := [some (.ref 66), some (fI p), some (fI ((s : Nat) : Int)), none]) (st_q := [.ref 66, .ref 66]) (h_q := h) (cl_q := 0) (sl_q := 0) rfl ?_
  refine fw_gf rfl rfl h66 rfl ?_
  refine ik_Wk 2 (pc_q := 23) (loc_q := [some (.ref 66), some (fI p), some (fI ((s : Nat) : Int)), none]) (st_q := [fI p, fI 1, fI ((s : Nat) : Int), .ref 66]) (h_q := h) (cl_q := 0) (sl_q := 0) rfl ?_
  refine fx_shl rfl (by omega) (by omega) ?_
  refine fx_xor (m := s) (n := 1 <<< p.toNat) rfl ?_
  refine fx_pf rfl rfl h66 (Nat.le_of_ble_eq_true rfl) rfl rfl ?_
  intro h_306 e_306 f_306 l_306
  have k_306 : cL h_306 := l_306.trans hl
  have fr_306 := hfr_wb (hfr_refl [66, 77, 78, 79, 80] h) f_306 l_306 rfl
  clear l_306
  have g_306_67 := (f_306 67 (Nat.ne_of_beq_eq_false rfl)).trans h67
  have g_306_68 := (f_306 68 (Nat.ne_of_beq_eq_false rfl)).trans h68
  have g_306_69 := (f_306 69 (Nat.ne_of_beq_eq_false rfl)).trans h69
  have g_306_77 := (f_306 77 (Nat.ne_of_beq_eq_false rfl)).trans h77
  have g_306_78 := (f_306 78 (Nat.ne_of_beq_eq_false rfl)).trans h78
  have g_306_79 := (f_306 79 (Nat.ne_of_beq_eq_false rfl)).trans h79
  have g_306_80 := (f_306 80 (Nat.ne_of_beq_eq_false rfl)).trans h80
  have g_306_88 := (f_306 88 (Nat.ne_of_beq_eq_false rfl)).trans h88
  have g_306_89 := (f_306 89 (Nat.ne_of_beq_eq_false rfl)).trans h89
  have g_306_66 : cE h_306 66 (.inr (10, (fI pl :: .ref 67 :: .ref 68 :: .ref 69 :: fI ((s ^^^ (1 <<< p.toNat) : Nat) : Int) :: .ref 70 :: .ref 71 :: fI (f 7) :: fI (f 8) :: .ref 72 :: fI (f 10) :: fI (f 11) :: fI (f 12) :: fJ (f 13) :: fI (f 14) :: fI (f 15) :: fI (f 16) :: fI (f 17) :: .ref 73 :: .ref 74 :: .ref 75 :: .ref 76 :: .ref 77 :: .ref 78 :: fI (f 24) :: .ref 79 :: .ref 80 :: .ref 81 :: .ref 82 :: .ref 83 :: .ref 84 :: .ref 85 :: fJ (f 32) :: fJ (f 33) :: .ref 86 :: .ref 87 :: fI r :: .ref 88 :: .ref 89 :: .ref 90 :: .ref 91 :: .ref 92 :: .ref 93 :: []))) := e_306
  refine ik_Wk 1 (pc_q := 29) (loc_q := [some (.ref 66), some (fI p), some (fI ((s : Nat) : Int)), none]) (st_q := [.ref 66]) (h_q := h_306) (cl_q := 0) (sl_q := 0) rfl ?_
  refine fw_call 185 1 0 [.ref 66] [] rfl rfl rfl (Nat.le_of_ble_eq_true rfl) rfl rfl (fw_rec k_306 rfl g_306_66 rfl (Nat.le_of_ble_eq_true rfl)) (cr_fitNow (pl := pl) (f := fun j => ((0 :: 0 :: 0 :: 0 :: 0 :: 0 :: 0 :: f 7 :: f 8 :: 0 :: f 10 :: f 11 :: f 12 :: f 13 :: f 14 :: f 15 :: f 16 :: f 17 :: 0 :: 0 :: 0 :: 0 :: 0 :: 0 :: f 24 :: 0 :: 0 :: 0 :: 0 :: 0 :: 0 :: 0 :: f 32 :: f 33 :: 0 :: 0 :: 0 :: 0 :: 0 :: 0 :: 0 :: 0 :: 0 :: []) : List Int).getD j 0) (s := s ^^^ (1 <<< p.toNat)) (cn := cn) (go := go) (ch := ch) (gt := gt) (gd := gd) (xs := xs) (ys := ys) (r := r) (rp := rp) (rt := rt) (by omega) (mx_xor_lt q1 (by omega)) q2 (by omega) q4 g_306_66 g_306_67 n67 g_306_68 n68 g_306_69 n69 g_306_77 n77 g_306_78 n78 g_306_79 n79 g_306_80 n80 g_306_88 n88 g_306_89 n89 k_306) ?_
  rintro _ h_307 ⟨w'_307, gt'_307, gd'_307, xs'_307, ys'_307, rfl, e_307_66, e_307_77, m_307_77, e_307_78, m_307_78, e_307_79, m_307_79, e_307_80, m_307_80, F_307⟩
  have k_307 : cL h_307 := F_307.1.trans k_306
  have fr_307 := hfr_cb fr_306 F_307 rfl
  have g_307_67 := (hfr_g F_307 67 rfl).trans g_306_67
  have g_307_68 := (hfr_g F_307 68 rfl).trans g_306_68
  have g_307_69 := (hfr_g F_307 69 rfl).trans g_306_69
  have g_307_88 := (hfr_g F_307 88 rfl).trans g_306_88
  have g_307_89 := (hfr_g F_307 89 rfl).trans g_306_89
  have g_307_66 : cE h_307 66 (.inr (10, (fI pl :: .ref 67 :: .ref 68 :: .ref 69 :: (fI (((s ^^^ (1 <<< p.toNat)) : Nat) : Int)) :: .ref 70 :: .ref 71 :: fI (f 7) :: fI (f 8) :: .ref 72 :: fI (f 10) :: fI (f 11) :: fI (f 12) :: fJ (f 13) :: fI (f 14) :: fI (f 15) :: fI (f 16) :: fI (f 17) :: .ref 73 :: .ref 74 :: .ref 75 :: .ref 76 :: .ref 77 :: .ref 78 :: fI w'_307 :: .ref 79 :: .ref 80 :: .ref 81 :: .ref 82 :: .ref 83 :: .ref 84 :: .ref 85 :: fJ (f 32) :: fJ (f 33) :: .ref 86 :: .ref 87 :: fI r :: .ref 88 :: .ref 89 :: .ref 90 :: .ref 91 :: .ref 92 :: .ref 93 :: []))) := e_307_66
  have g_307_77 : cE h_307 77 (.inl (.int, fA gt'_307)) := e_307_77
  have g_307_78 : cE h_307 78 (.inl (.int, fA gd'_307)) := e_307_78
  have g_307_79 : cE h_307 79 (.inl (.long, fL xs'_307)) := e_307_79
  have g_307_80 : cE h_307 80 (.inl (.long, fL ys'_307)) := e_307_80
  refine ik_Wk 0 (pc_q := 32) (loc_q := [some (.ref 66), some (fI p), some (fI ((s : Nat) : Int)), none]) (st_q := [fI (mk_fv cn go ch (s ^^^ (1 <<< p.toNat)) pl rp rt r)]) (h_q := h_307) (cl_q := 0) (sl_q := 0) rfl ?_
  refine ik_Wk 3 (pc_q := 35) (loc_q := [some (.ref 66), some (fI p), some (fI ((s : Nat) : Int)), some (fI (mk_fv cn go ch (s ^^^ (1 <<< p.toNat)) pl rp rt r))]) (st_q := [fI ((s : Nat) : Int), .ref 66]) (h_q := h_307) (cl_q := 0) (sl_q := 0) rfl ?_
  refine fx_pf rfl rfl g_307_66 (Nat.le_of_ble_eq_true rfl) rfl rfl ?_
  intro h_308 e_308 f_308 l_308
  have k_308 : cL h_308 := l_308.trans k_307
  have fr_308 := hfr_wb fr_307 f_308 l_308 rfl
  clear l_308
  have g_308_67 := (f_308 67 (Nat.ne_of_beq_eq_false rfl)).trans g_307_67
  have g_308_68 := (f_308 68 (Nat.ne_of_beq_eq_false rfl)).trans g_307_68
  have g_308_69 := (f_308 69 (Nat.ne_of_beq_eq_false rfl)).trans g_307_69
  have g_308_77 := (f_308 77 (Nat.ne_of_beq_eq_false rfl)).trans g_307_77
  have g_308_78 := (f_308 78 (Nat.ne_of_beq_eq_false rfl)).trans g_307_78
  have g_308_79 := (f_308 79 (Nat.ne_of_beq_eq_false rfl)).trans g_307_79
  have g_308_80 := (f_308 80 (Nat.ne_of_beq_eq_false rfl)).trans g_307_80
  have g_308_88 := (f_308 88 (Nat.ne_of_beq_eq_false rfl)).trans g_307_88
  have g_308_89 := (f_308 89 (Nat.ne_of_beq_eq_false rfl)).trans g_307_89
  have g_308_66 : cE h_308 66 (.inr (10, (fI pl :: .ref 67 :: .ref 68 :: .ref 69 :: fI ((s : Nat) : Int) :: .ref 70 :: .ref 71 :: fI (f 7) :: fI (f 8) :: .ref 72 :: fI (f 10) :: fI (f 11) :: fI (f 12) :: fJ (f 13) :: fI (f 14) :: fI (f 15) :: fI (f 16) :: fI (f 17) :: .ref 73 :: .ref 74 :: .ref 75 :: .ref 76 :: .ref 77 :: .ref 78 :: fI w'_307 :: .ref 79 :: .ref 80 :: .ref 81 :: .ref 82 :: .ref 83 :: .ref 84 :: .ref 85 :: fJ (f 32) :: fJ (f 33) :: .ref 86 :: .ref 87 :: fI r :: .ref 88 :: .ref 89 :: .ref 90 :: .ref 91 :: .ref 92 :: .ref 93 :: []))) := e_308
  refine ik_Wk 1 (pc_q := 39) (loc_q := [some (.ref 66), some (fI p), some (fI ((s : Nat) : Int)), some (fI (mk_fv cn go ch (s ^^^ (1 <<< p.toNat)) pl rp rt r))]) (st_q := [fI (mk_fv cn go ch (s ^^^ (1 <<< p.toNat)) pl rp rt r)]) (h_q := h_308) (cl_q := 0) (sl_q := 0) rfl ?_
  exact ik_Wret rfl rfl ⟨_, _, rfl, rfl, rfl, rfl, ⟨w'_307, gt'_307, gd'_307, xs'_307, ys'_307, rfl, g_308_66, g_308_77, m_307_77, g_308_78, m_307_78, g_308_79, m_307_79, g_308_80, m_307_80, fr_308⟩⟩

theorem rp_fit {h : List ik_E} {pl : Int} {f : Nat → Int} {s : Nat} {cn : List Int} {go : List Int} {ch : List Int} {gt : List Int} {gd : List Int} {xs : List Int} {ys : List Int} {r : Int} {rp : List Int} {rt : List Int} {p : Int} (q0 : 0 ≤ pl ∧ pl ≤ 12) (q1 : s < 4096) (q2 : mx_rw pl cn go ch) (q3 : 0 ≤ r ∧ r ≤ 12) (q4 : mk_rr pl r rp rt) (q5 : -2147483648 ≤ p ∧ p < 2147483648) (h66 : cE h 66 (.inr (10, (fI pl :: .ref 67 :: .ref 68 :: .ref 69 :: fI ((s : Nat) : Int) :: .ref 70 :: .ref 71 :: fI (f 7) :: fI (f 8) :: .ref 72 :: fI (f 10) :: fI (f 11) :: fI (f 12) :: fJ (f 13) :: fI (f 14) :: fI (f 15) :: fI (f 16) :: fI (f 17) :: .ref 73 :: .ref 74 :: .ref 75 :: .ref 76 :: .ref 77 :: .ref 78 :: fI (f 24) :: .ref 79 :: .ref 80 :: .ref 81 :: .ref 82 :: .ref 83 :: .ref 84 :: .ref 85 :: fJ (f 32) :: fJ (f 33) :: .ref 86 :: .ref 87 :: fI r :: .ref 88 :: .ref 89 :: .ref 90 :: .ref 91 :: .ref 92 :: .ref 93 :: [])))) (h67 : cE h 67 (.inl (.int, fA cn))) (n67 : cn.length = (12 : Nat)) (h68 : cE h 68 (.inl (.int, fA go))) (n68 : go.length = (48 : Nat)) (h69 : cE h 69 (.inl (.int, fA ch))) (n69 : ch.length = (48 : Nat)) (h77 : cE h 77 (.inl (.int, fA gt))) (n77 : gt.length = (5 : Nat)) (h78 : cE h 78 (.inl (.int, fA gd))) (n78 : gd.length = (5 : Nat)) (h79 : cE h 79 (.inl (.long, fL xs))) (n79 : xs.length = (12 : Nat)) (h80 : cE h 80 (.inl (.long, fL ys))) (n80 : ys.length = (12 : Nat)) (h88 : cE h 88 (.inl (.int, fA rp))) (n88 : rp.length = (12 : Nat)) (h89 : cE h 89 (.inl (.int, fA rt))) (n89 : rt.length = (12 : Nat)) (hl : h.length = (94 : Nat)) : ik_F 187 [.ref 66, fI p] h (fun rv h_q => ∃ (w' : Int) (gt' : List Int) (gd' : List Int) (xs' : List Int) (ys' : List Int), rv = [fI (an_fi p pl (mk_fv cn go ch s pl rp rt r) (mk_vs cn go ch s pl rp rt r p))] ∧ cE h_q 66 (.inr (10, (fI pl :: .ref 67 :: .ref 68 :: .ref 69 :: fI ((s : Nat) : Int) :: .ref 70 :: .ref 71 :: fI (f 7) :: fI (f 8) :: .ref 72 :: fI (f 10) :: fI (f 11) :: fI (f 12) :: fJ (f 13) :: fI (f 14) :: fI (f 15) :: fI (f 16) :: fI (f 17) :: .ref 73 :: .ref 74 :: .ref 75 :: .ref 76 :: .ref 77 :: .ref 78 :: fI w' :: .ref 79 :: .ref 80 :: .ref 81 :: .ref 82 :: .ref 83 :: .ref 84 :: .ref 85 :: fJ (f 32) :: fJ (f 33) :: .ref 86 :: .ref 87 :: fI r :: .ref 88 :: .ref 89 :: .ref 90 :: .ref 91 :: .ref 92 :: .ref 93 :: []))) ∧ cE h_q 77 (.inl (.int, fA gt')) ∧ gt'.length = (5 : Nat) ∧ cE h_q 78 (.inl (.int, fA gd')) ∧ gd'.length = (5 : Nat) ∧ cE h_q 79 (.inl (.long, fL xs')) ∧ xs'.length = (12 : Nat) ∧ cE h_q 80 (.inl (.long, fL ys')) ∧ ys'.length = (12 : Nat) ∧ hfr [66, 77, 78, 79, 80] h h_q) := by
  refine ik_Wk 2 (pc_q := 2) (loc_q := [some (.ref 66), some (fI p)]) (st_q := [fI (-1), fI p]) (h_q := h) (cl_q := 0) (sl_q := 0) rfl ?_
  refine fw_ic_eq rfl rfl (by omega) (by omega) (by omega) (by omega) (fun hc1 => ?_) (fun hc1 => ?_)
  · refine ik_Wk 2 (pc_q := 15) (loc_q := [some (.ref 66), some (fI p)]) (st_q := [fI p, .ref 66]) (h_q := h) (cl_q := 0) (sl_q := 0) rfl ?_
    subst hc1
    refine ik_Wk 0 (pc_q := 15) (loc_q := [some (.ref 66), some (fI (-1))]) (st_q := [fI (-1), .ref 66]) (h_q := h) (cl_q := 0) (sl_q := 0) rfl ?_
    refine fw_call 186 2 0 [.ref 66, fI (-1)] [] rfl rfl rfl (Nat.le_of_ble_eq_true rfl) rfl rfl (fw_rec hl rfl h66 rfl (Nat.le_of_ble_eq_true rfl)) (cr_fitOf0 (pl := pl) (f := fun j => ((0 :: 0 :: 0 :: 0 :: 0 :: 0 :: 0 :: f 7 :: f 8 :: 0 :: f 10 :: f 11 :: f 12 :: f 13 :: f 14 :: f 15 :: f 16 :: f 17 :: 0 :: 0 :: 0 :: 0 :: 0 :: 0 :: f 24 :: 0 :: 0 :: 0 :: 0 :: 0 :: 0 :: 0 :: f 32 :: f 33 :: 0 :: 0 :: 0 :: 0 :: 0 :: 0 :: 0 :: 0 :: 0 :: []) : List Int).getD j 0) (s := s) (cn := cn) (go := go) (ch := ch) (gt := gt) (gd := gd) (xs := xs) (ys := ys) (r := r) (rp := rp) (rt := rt) (by omega) (by omega) q2 (by omega) q4 h66 h67 n67 h68 n68 h69 n69 h77 n77 h78 n78 h79 n79 h80 n80 h88 n88 h89 n89 hl) ?_
    rintro _ h_309 ⟨w'_309, gt'_309, gd'_309, xs'_309, ys'_309, rfl, e_309_66, e_309_77, m_309_77, e_309_78, m_309_78, e_309_79, m_309_79, e_309_80, m_309_80, F_309⟩
    have k_309 : cL h_309 := F_309.1.trans hl
    have fr_309 := hfr_cb (hfr_refl [66, 77, 78, 79, 80] h) F_309 rfl
    have g_309_67 := (hfr_g F_309 67 rfl).trans h67
    have g_309_68 := (hfr_g F_309 68 rfl).trans h68
    have g_309_69 := (hfr_g F_309 69 rfl).trans h69
    have g_309_88 := (hfr_g F_309 88 rfl).trans h88
    have g_309_89 := (hfr_g F_309 89 rfl).trans h89
    have g_309_66 : cE h_309 66 (.inr (10, (fI pl :: .ref 67 :: .ref 68 :: .ref 69 :: fI ((s : Nat) : Int) :: .ref 70 :: .ref 71 :: fI (f 7) :: fI (f 8) :: .ref 72 :: fI (f 10) :: fI (f 11) :: fI (f 12) :: fJ (f 13) :: fI (f 14) :: fI (f 15) :: fI (f 16) :: fI (f 17) :: .ref 73 :: .ref 74 :: .ref 75 :: .ref 76 :: .ref 77 :: .ref 78 :: fI w'_309 :: .ref 79 :: .ref 80 :: .ref 81 :: .ref 82 :: .ref 83 :: .ref 84 :: .ref 85 :: fJ (f 32) :: fJ (f 33) :: .ref 86 :: .ref 87 :: fI r :: .ref 88 :: .ref 89 :: .ref 90 :: .ref 91 :: .ref 92 :: .ref 93 :: []))) := e_309_66
    have g_309_77 : cE h_309 77 (.inl (.int, fA gt'_309)) := e_309_77
    have g_309_78 : cE h_309 78 (.inl (.int, fA gd'_309)) := e_309_78
    have g_309_79 : cE h_309 79 (.inl (.long, fL xs'_309)) := e_309_79
    have g_309_80 : cE h_309 80 (.inl (.long, fL ys'_309)) := e_309_80
    refine ik_Wk 0 (pc_q := 18) (loc_q := [some (.ref 66), some (fI (-1))]) (st_q := [fI (mk_fv cn go ch s pl rp rt r)]) (h_q := h_309) (cl_q := 0) (sl_q := 0) rfl ?_
    refine ik_Wk 1 (pc_q := 23) (loc_q := [some (.ref 66), some (fI (-1))]) (st_q := [fI (mk_fv cn go ch s pl rp rt r)]) (h_q := h_309) (cl_q := 0) (sl_q := 0) rfl ?_
    exact ik_Wret rfl rfl ⟨_, _, rfl, rfl, rfl, rfl, ⟨w'_309, gt'_309, gd'_309, xs'_309, ys'_309, (congrArg (fun z => [fI z]) (by unfold an_fi; (repeat' split) <;> first | rfl | omega)), g_309_66, g_309_77, m_309_77, g_309_78, m_309_78, g_309_79, m_309_79, g_309_80, m_309_80, fr_309⟩⟩
  · refine ik_Wk 2 (pc_q := 7) (loc_q := [some (.ref 66), some (fI p)]) (st_q := [fI p, .ref 66]) (h_q := h) (cl_q := 0) (sl_q := 0) rfl ?_
    refine ik_Wc 131 2 0 [.ref 66, fI p] [] rfl rfl rfl (by decide +kernel) rfl rfl (fw_rec hl rfl h66 rfl (Nat.le_of_ble_eq_true rfl)) ?_
    refine ik_Wk 0 (pc_q := 0) (loc_q := [some (.ref 66), some (fI p)]) (st_q := []) (h_q := h) (cl_q := 0) (sl_q := 0) rfl ?_
    refine ik_Wk 1 (pc_q := 1) (loc_q := [some (.ref 66), some (fI p)]) (st_q := [fI p]) (h_q := h) (cl_q := 0) (sl_q := 0) rfl ?_
    refine fw_i2l rfl (by omega) (by omega) ?_
    refine fw_lc (z := 0) rfl (by decide +kernel) ?_
    refine ik_Wk 1 (pc_q := 4) (loc_q := [some (.ref 66), some (fI p)]) (st_q := [.ref 66, fJ 0, fJ p]) (h_q := h) (cl_q := 0) (sl_q := 0) rfl ?_
    refine fw_gf rfl rfl h66 rfl ?_
    refine ik_Wk 1 (pc_q := 8) (loc_q := [some (.ref 66), some (fI p)]) (st_q := [fI 2, fI pl, fJ 0, fJ p]) (h_q := h) (cl_q := 0) (sl_q := 0) rfl ?_
    refine fw_sub rfl ?_
    refine fw_i2l rfl (by omega) (by omega) ?_
    refine fw_call 127 3 3 [fJ p, fJ 0, fJ (pl - 2)] [] rfl rfl rfl (Nat.le_of_ble_eq_true rfl) rfl rfl (fw_sta hl rfl (by decide +kernel)) (cr_in (v := p) (a := 0) (b := pl - 2) (by omega) (by omega) (by omega)  hl) ?_
    rintro _ h_310 (⟨rfl, p_310_0, F_310⟩ | ⟨rfl, p_310_0, F_310⟩)
    · have k_310 : cL h_310 := F_310.1.trans hl
      have fr_310 := hfr_cb (hfr_refl [66, 77, 78, 79, 80] h) F_310 rfl
      have g_310_66 := (hfr_g F_310 66 rfl).trans h66
      have g_310_67 := (hfr_g F_310 67 rfl).trans h67
      have g_310_68 := (hfr_g F_310 68 rfl).trans h68
      have g_310_69 := (hfr_g F_310 69 rfl).trans h69
      have g_310_77 := (hfr_g F_310 77 rfl).trans h77
      have g_310_78 := (hfr_g F_310 78 rfl).trans h78
      have g_310_79 := (hfr_g F_310 79 rfl).trans h79
      have g_310_80 := (hfr_g F_310 80 rfl).trans h80
      have g_310_88 := (hfr_g F_310 88 rfl).trans h88
      have g_310_89 := (hfr_g F_310 89 rfl).trans h89
      refine ik_Wk 0 (pc_q := 13) (loc_q := [some (.ref 66), some (fI p)]) (st_q := [fI 1]) (h_q := h_310) (cl_q := 0) (sl_q := 0) rfl ?_
      refine ik_Wret rfl rfl ⟨_, _, rfl, rfl, ?_⟩
      refine ik_Wk 0 (pc_q := 10) (loc_q := [some (.ref 66), some (fI p)]) (st_q := [fI 1]) (h_q := h_310) (cl_q := 0) (sl_q := 0) rfl ?_
      refine fw_if_eq rfl rfl (by decide +kernel) (by decide +kernel) (fun hc2 => absurd hc2 (by decide +kernel)) (fun hc2 => ?_)
      refine ik_Wk 2 (pc_q := 15) (loc_q := [some (.ref 66), some (fI p)]) (st_q := [fI p, .ref 66]) (h_q := h_310) (cl_q := 0) (sl_q := 0) rfl ?_
      refine fw_call 186 2 0 [.ref 66, fI p] [] rfl rfl rfl (Nat.le_of_ble_eq_true rfl) rfl rfl (fw_rec k_310 rfl g_310_66 rfl (Nat.le_of_ble_eq_true rfl)) (cr_fitOf (pl := pl) (f := fun j => ((0 :: 0 :: 0 :: 0 :: 0 :: 0 :: 0 :: f 7 :: f 8 :: 0 :: f 10 :: f 11 :: f 12 :: f 13 :: f 14 :: f 15 :: f 16 :: f 17 :: 0 :: 0 :: 0 :: 0 :: 0 :: 0 :: f 24 :: 0 :: 0 :: 0 :: 0 :: 0 :: 0 :: 0 :: f 32 :: f 33 :: 0 :: 0 :: 0 :: 0 :: 0 :: 0 :: 0 :: 0 :: 0 :: []) : List Int).getD j 0) (s := s) (cn := cn) (go := go) (ch := ch) (gt := gt) (gd := gd) (xs := xs) (ys := ys) (r := r) (rp := rp) (rt := rt) (p := p) (by omega) (by omega) q2 (by omega) q4 (by omega) g_310_66 g_310_67 n67 g_310_68 n68 g_310_69 n69 g_310_77 n77 g_310_78 n78 g_310_79 n79 g_310_80 n80 g_310_88 n88 g_310_89 n89 k_310) ?_
      rintro _ h_311 ⟨w'_311, gt'_311, gd'_311, xs'_311, ys'_311, rfl, e_311_66, e_311_77, m_311_77, e_311_78, m_311_78, e_311_79, m_311_79, e_311_80, m_311_80, F_311⟩
      have k_311 : cL h_311 := F_311.1.trans k_310
      have fr_311 := hfr_cb fr_310 F_311 rfl
      have g_311_67 := (hfr_g F_311 67 rfl).trans g_310_67
      have g_311_68 := (hfr_g F_311 68 rfl).trans g_310_68
      have g_311_69 := (hfr_g F_311 69 rfl).trans g_310_69
      have g_311_88 := (hfr_g F_311 88 rfl).trans g_310_88
      have g_311_89 := (hfr_g F_311 89 rfl).trans g_310_89
      have g_311_66 : cE h_311 66 (.inr (10, (fI pl :: .ref 67 :: .ref 68 :: .ref 69 :: fI ((s : Nat) : Int) :: .ref 70 :: .ref 71 :: fI (f 7) :: fI (f 8) :: .ref 72 :: fI (f 10) :: fI (f 11) :: fI (f 12) :: fJ (f 13) :: fI (f 14) :: fI (f 15) :: fI (f 16) :: fI (f 17) :: .ref 73 :: .ref 74 :: .ref 75 :: .ref 76 :: .ref 77 :: .ref 78 :: fI w'_311 :: .ref 79 :: .ref 80 :: .ref 81 :: .ref 82 :: .ref 83 :: .ref 84 :: .ref 85 :: fJ (f 32) :: fJ (f 33) :: .ref 86 :: .ref 87 :: fI r :: .ref 88 :: .ref 89 :: .ref 90 :: .ref 91 :: .ref 92 :: .ref 93 :: []))) := e_311_66
      have g_311_77 : cE h_311 77 (.inl (.int, fA gt'_311)) := e_311_77
      have g_311_78 : cE h_311 78 (.inl (.int, fA gd'_311)) := e_311_78
      have g_311_79 : cE h_311 79 (.inl (.long, fL xs'_311)) := e_311_79
      have g_311_80 : cE h_311 80 (.inl (.long, fL ys'_311)) := e_311_80
      refine ik_Wk 0 (pc_q := 18) (loc_q := [some (.ref 66), some (fI p)]) (st_q := [fI (mk_vs cn go ch s pl rp rt r p)]) (h_q := h_311) (cl_q := 0) (sl_q := 0) rfl ?_
      refine ik_Wk 1 (pc_q := 23) (loc_q := [some (.ref 66), some (fI p)]) (st_q := [fI (mk_vs cn go ch s pl rp rt r p)]) (h_q := h_311) (cl_q := 0) (sl_q := 0) rfl ?_
      exact ik_Wret rfl rfl ⟨_, _, rfl, rfl, rfl, rfl, ⟨w'_311, gt'_311, gd'_311, xs'_311, ys'_311, (congrArg (fun z => [fI z]) (by unfold an_fi; (repeat' split) <;> first | rfl | omega)), g_311_66, g_311_77, m_311_77, g_311_78, m_311_78, g_311_79, m_311_79, g_311_80, m_311_80, fr_311⟩⟩
    · have k_310 : cL h_310 := F_310.1.trans hl
      have fr_310 := hfr_cb (hfr_refl [66, 77, 78, 79, 80] h) F_310 rfl
      have g_310_66 := (hfr_g F_310 66 rfl).trans h66
      have g_310_67 := (hfr_g F_310 67 rfl).trans h67
      have g_310_68 := (hfr_g F_310 68 rfl).trans h68
      have g_310_69 := (hfr_g F_310 69 rfl).trans h69
      have g_310_77 := (hfr_g F_310 77 rfl).trans h77
      have g_310_78 := (hfr_g F_310 78 rfl).trans h78
      have g_310_79 := (hfr_g F_310 79 rfl).trans h79
      have g_310_80 := (hfr_g F_310 80 rfl).trans h80
      have g_310_88 := (hfr_g F_310 88 rfl).trans h88
      have g_310_89 := (hfr_g F_310 89 rfl).trans h89
      refine ik_Wk 0 (pc_q := 13) (loc_q := [some (.ref 66), some (fI p)]) (st_q := [fI 0]) (h_q := h_310) (cl_q := 0) (sl_q := 0) rfl ?_
      refine ik_Wret rfl rfl ⟨_, _, rfl, rfl, ?_⟩
      refine ik_Wk 0 (pc_q := 10) (loc_q := [some (.ref 66), some (fI p)]) (st_q := [fI 0]) (h_q := h_310) (cl_q := 0) (sl_q := 0) rfl ?_
      refine fw_if_eq rfl rfl (by decide +kernel) (by decide +kernel) (fun hc3 => ?_) (fun hc3 => absurd hc3 (by decide +kernel))
      refine fw_ld (-1000000001) rfl rfl (by decide +kernel) ?_
      exact ik_Wret rfl rfl ⟨_, _, rfl, rfl, rfl, rfl, ⟨(f 24), gt, gd, xs, ys, (congrArg (fun z => [fI z]) (by unfold an_fi; (repeat' split) <;> first | rfl | omega)), g_310_66, g_310_77, n77, g_310_78, n78, g_310_79, n79, g_310_80, n80, fr_310⟩⟩

theorem rp_stonedL {h : List ik_E} {pl : Int} {f : Nat → Int} {s : Nat} {cn : List Int} {go : List Int} {ch : List Int} {gt : List Int} {gd : List Int} {xs : List Int} {ys : List Int} {r : Int} {rp : List Int} {rt : List Int} (q0 : 0 ≤ pl ∧ pl ≤ 12) (q1 : s < 4096) (q2 : mx_rw pl cn go ch) (q3 : 0 ≤ r ∧ r ≤ 12) (q4 : mk_rr pl r rp rt)  : ∀ (k : Nat) (p : Int) (g : Int) (wh : Int) (w1 : Int) (g1 : List Int) (d1 : List Int) (x1 : List Int) (y1 : List Int) (x4 : Option Value) (u : List ik_E) (u66 : cE u 66 (.inr (10, (fI pl :: .ref 67 :: .ref 68 :: .ref 69 :: fI ((s : Nat) : Int) :: .ref 70 :: .ref 71 :: fI (f 7) :: fI (f 8) :: .ref 72 :: fI (f 10) :: fI (f 11) :: fI (f 12) :: fJ (f 13) :: fI (f 14) :: fI (f 15) :: fI (f 16) :: fI (f 17) :: .ref 73 :: .ref 74 :: .ref 75 :: .ref 76 :: .ref 77 :: .ref 78 :: fI w1 :: .ref 79 :: .ref 80 :: .ref 81 :: .ref 82 :: .ref 83 :: .ref 84 :: .ref 85 :: fJ (f 32) :: fJ (f 33) :: .ref 86 :: .ref 87 :: fI r :: .ref 88 :: .ref 89 :: .ref 90 :: .ref 91 :: .ref 92 :: .ref 93 :: [])))) (u67 : cE u 67 (.inl (.int, fA cn))) (n67 : cn.length = (12 : Nat)) (u68 : cE u 68 (.inl (.int, fA go))) (n68 : go.length = (48 : Nat)) (u69 : cE u 69 (.inl (.int, fA ch))) (n69 : ch.length = (48 : Nat)) (u77 : cE u 77 (.inl (.int, fA g1))) (n77 : g1.length = (5 : Nat)) (u78 : cE u 78 (.inl (.int, fA d1))) (n78 : d1.length = (5 : Nat)) (u79 : cE u 79 (.inl (.long, fL x1))) (n79 : x1.length = (12 : Nat)) (u80 : cE u 80 (.inl (.long, fL y1))) (n80 : y1.length = (12 : Nat)) (u88 : cE u 88 (.inl (.int, fA rp))) (n88 : rp.length = (12 : Nat)) (u89 : cE u 89 (.inl (.int, fA rt))) (n89 : rt.length = (12 : Nat)) (ul : u.length = (94 : Nat)) (F : hfr [66, 77, 78, 79, 80] h u) (hp : (0 : Int) ≤ p ∧ (p ≤ pl - 1 ∨ p = 0)) (hg : (1 : Int) ≤ g ∧ g ≤ (1000000000 : Int)) (he : mk_so (mk_vs cn go ch s pl rp rt r) (pl - 1).toNat 0 (mk_fv cn go ch s pl rp rt r) (-1) = mk_so (mk_vs cn go ch s pl rp rt r) (pl - 1 - p).toNat p g wh) (w4 : ik_wl 94 x4 = true) (hk : pl - p < (k : Int)), ik_G 188 10 [some (.ref 66), some (fI wh), some (fI g), some (fI p), x4] [] u (fun rv h_q => ∃ (w' : Int) (gt' : List Int) (gd' : List Int) (xs' : List Int) (ys' : List Int), rv = [fI (mk_so (mk_vs cn go ch s pl rp rt r) (pl - 1).toNat 0 (mk_fv cn go ch s pl rp rt r) (-1))] ∧ cE h_q 66 (.inr (10, (fI pl :: .ref 67 :: .ref 68 :: .ref 69 :: fI ((s : Nat) : Int) :: .ref 70 :: .ref 71 :: fI (f 7) :: fI (f 8) :: .ref 72 :: fI (f 10) :: fI (f 11) :: fI (f 12) :: fJ (f 13) :: fI (f 14) :: fI (f 15) :: fI (f 16) :: fI (f 17) :: .ref 73 :: .ref 74 :: .ref 75 :: .ref 76 :: .ref 77 :: .ref 78 :: fI w' :: .ref 79 :: .ref 80 :: .ref 81 :: .ref 82 :: .ref 83 :: .ref 84 :: .ref 85 :: fJ (f 32) :: fJ (f 33) :: .ref 86 :: .ref 87 :: fI r :: .ref 88 :: .ref 89 :: .ref 90 :: .ref 91 :: .ref 92 :: .ref 93 :: []))) ∧ cE h_q 77 (.inl (.int, fA gt')) ∧ gt'.length = (5 : Nat) ∧ cE h_q 78 (.inl (.int, fA gd')) ∧ gd'.length = (5 : Nat) ∧ cE h_q 79 (.inl (.long, fL xs')) ∧ xs'.length = (12 : Nat) ∧ cE h_q 80 (.inl (.long, fL ys')) ∧ ys'.length = (12 : Nat) ∧ hfr [66, 77, 78, 79, 80] h h_q) := by
  intro k
  induction k with
  | zero => intro p g wh w1 g1 d1 x1 y1 x4 u u66 u67 n67 u68 n68 u69 n69 u77 n77 u78 n78 u79 n79 u80 n80 u88 n88 u89 n89 ul F hp hg he w4 hk; omega
  | succ k ih =>
    intro p g wh w1 g1 d1 x1 y1 x4 u u66 u67 n67 u68 n68 u69 n69 u77 n77 u78 n78 u79 n79 u80 n80 u88 n88 u89 n89 ul F hp hg he w4 hk
    refine ik_Wk 2 (pc_q := 12) (loc_q := [some (.ref 66), some (fI wh), some (fI g), some (fI p), x4]) (st_q := [.ref 66, fI p]) (h_q := u) (cl_q := 0) (sl_q := 0) rfl ?_
    refine fw_gf rfl rfl u66 rfl ?_
    refine ik_Wk 1 (pc_q := 16) (loc_q := [some (.ref 66), some (fI wh), some (fI g), some (fI p), x4]) (st_q := [fI 1, fI pl, fI p]) (h_q := u) (cl_q := 0) (sl_q := 0) rfl ?_
    refine fw_sub rfl ?_
    refine fw_ic_ge rfl rfl (by omega) (by omega) (by omega) (by omega) (fun hc1 => ?_) (fun hc1 => ?_)
    · refine ik_Wk 1 (pc_q := 59) (loc_q := [some (.ref 66), some (fI wh), some (fI g), some (fI p), x4]) (st_q := [fI wh]) (h_q := u) (cl_q := 0) (sl_q := 0) rfl ?_
      rw [show (pl - 1 - p).toNat = 0 by omega] at he
      exact ik_Wret rfl rfl ⟨_, _, rfl, rfl, rfl, rfl, ⟨w1, g1, d1, x1, y1, (congrArg (fun z => [fI z]) he.symm), u66, u77, n77, u78, n78, u79, n79, u80, n80, F⟩⟩
    · refine ik_Wk 2 (pc_q := 22) (loc_q := [some (.ref 66), some (fI wh), some (fI g), some (fI p), x4]) (st_q := [fI p, .ref 66]) (h_q := u) (cl_q := 0) (sl_q := 0) rfl ?_
      refine fw_call 186 2 0 [.ref 66, fI p] [] rfl rfl rfl (Nat.le_of_ble_eq_true rfl) rfl rfl (fw_rec ul (fw_ftx rfl wv_n (wl_c rfl (wl_c rfl (wl_c rfl (wl_c rfl (wl_c w4 wl_n)))))) u66 rfl (by decide +kernel)) (cr_fitOf (pl := pl) (f := fun j => ((0 :: 0 :: 0 :: 0 :: 0 :: 0 :: 0 :: f 7 :: f 8 :: 0 :: f 10 :: f 11 :: f 12 :: f 13 :: f 14 :: f 15 :: f 16 :: f 17 :: 0 :: 0 :: 0 :: 0 :: 0 :: 0 :: w1 :: 0 :: 0 :: 0 :: 0 :: 0 :: 0 :: 0 :: f 32 :: f 33 :: 0 :: 0 :: 0 :: 0 :: 0 :: 0 :: 0 :: 0 :: 0 :: []) : List Int).getD j 0) (s := s) (cn := cn) (go := go) (ch := ch) (gt := g1) (gd := d1) (xs := x1) (ys := y1) (r := r) (rp := rp) (rt := rt) (p := p) (by omega) (by omega) q2 (by omega) q4 (by omega) u66 u67 n67 u68 n68 u69 n69 u77 n77 u78 n78 u79 n79 u80 n80 u88 n88 u89 n89 ul) ?_
      rintro _ h_312 ⟨w'_312, gt'_312, gd'_312, xs'_312, ys'_312, rfl, e_312_66, e_312_77, m_312_77, e_312_78, m_312_78, e_312_79, m_312_79, e_312_80, m_312_80, F_312⟩
      have k_312 : cL h_312 := F_312.1.trans ul
      have fr_312 := hfr_cb F F_312 rfl
      have g_312_67 := (hfr_g F_312 67 rfl).trans u67
      have g_312_68 := (hfr_g F_312 68 rfl).trans u68
      have g_312_69 := (hfr_g F_312 69 rfl).trans u69
      have g_312_88 := (hfr_g F_312 88 rfl).trans u88
      have g_312_89 := (hfr_g F_312 89 rfl).trans u89
      have g_312_66 : cE h_312 66 (.inr (10, (fI pl :: .ref 67 :: .ref 68 :: .ref 69 :: fI ((s : Nat) : Int) :: .ref 70 :: .ref 71 :: fI (f 7) :: fI (f 8) :: .ref 72 :: fI (f 10) :: fI (f 11) :: fI (f 12) :: fJ (f 13) :: fI (f 14) :: fI (f 15) :: fI (f 16) :: fI (f 17) :: .ref 73 :: .ref 74 :: .ref 75 :: .ref 76 :: .ref 77 :: .ref 78 :: fI w'_312 :: .ref 79 :: .ref 80 :: .ref 81 :: .ref 82 :: .ref 83 :: .ref 84 :: .ref 85 :: fJ (f 32) :: fJ (f 33) :: .ref 86 :: .ref 87 :: fI r :: .ref 88 :: .ref 89 :: .ref 90 :: .ref 91 :: .ref 92 :: .ref 93 :: []))) := e_312_66
      have g_312_77 : cE h_312 77 (.inl (.int, fA gt'_312)) := e_312_77
      have g_312_78 : cE h_312 78 (.inl (.int, fA gd'_312)) := e_312_78
      have g_312_79 : cE h_312 79 (.inl (.long, fL xs'_312)) := e_312_79
      have g_312_80 : cE h_312 80 (.inl (.long, fL ys'_312)) := e_312_80
      refine ik_Wk 0 (pc_q := 25) (loc_q := [some (.ref 66), some (fI wh), some (fI g), some (fI p), x4]) (st_q := [fI (mk_vs cn go ch s pl rp rt r p)]) (h_q := h_312) (cl_q := 0) (sl_q := 0) rfl ?_
      have fb_312 : 1 ≤ mk_vs cn go ch s pl rp rt r p ∧ mk_vs cn go ch s pl rp rt r p ≤ 1000000000 := mk_ft_b (J := mk_J (fun x => mx_w cn go ch (s ^^^ 1 <<< p.toNat) x) pl rp rt) r.toNat (fun j hj => mk_J_b (mx_rw_ok q2 _) q4 j (by omega))
      refine ik_Wk 3 (pc_q := 30) (loc_q := [some (.ref 66), some (fI wh), some (fI g), some (fI p), some (fI (mk_vs cn go ch s pl rp rt r p))]) (st_q := [fI g, fI (mk_vs cn go ch s pl rp rt r p)]) (h_q := h_312) (cl_q := 0) (sl_q := 0) rfl ?_
      refine fw_ic_le rfl rfl (by omega) (by omega) (by omega) (by omega) (fun hc2 => ?_) (fun hc2 => ?_)
      · refine ik_Wk 4 (pc_q := 42) (loc_q := [some (.ref 66), some (fI wh), some (fI g), some (fI p), some (fI (mk_vs cn go ch s pl rp rt r p))]) (st_q := [fI g, fI (mk_vs cn go ch s pl rp rt r p)]) (h_q := h_312) (cl_q := 0) (sl_q := 0) rfl ?_
        refine fw_ic_le rfl rfl (by omega) (by omega) (by omega) (by omega) (fun hc3 => ?_) (fun hc3 => absurd hc3 (by omega))
        refine ik_Wk 2 (pc_q := 52) (loc_q := [some (.ref 66), some (fI wh), some (fI g), some (fI p), some (fI (mk_vs cn go ch s pl rp rt r p))]) (st_q := []) (h_q := h_312) (cl_q := 0) (sl_q := 0) rfl ?_
        refine fw_inc (a := p) (loc_q := [some (.ref 66), some (fI wh), some (fI g), some (fI (p + 1)), some (fI (mk_vs cn go ch s pl rp rt r p))]) rfl rfl (Nat.le_of_ble_eq_true rfl) rfl ?_
        refine ik_Wk 1 (pc_q := 10) (loc_q := [some (.ref 66), some (fI wh), some (fI g), some (fI (p + 1)), some (fI (mk_vs cn go ch s pl rp rt r p))]) (st_q := []) (h_q := h_312) (cl_q := 0) (sl_q := 0) rfl ?_
        exact ih  (p + 1) g wh w'_312 gt'_312 gd'_312 xs'_312 ys'_312 (some (fI (mk_vs cn go ch s pl rp rt r p))) h_312 g_312_66 g_312_67 n67 g_312_68 n68 g_312_69 n69 g_312_77 m_312_77 g_312_78 m_312_78 g_312_79 m_312_79 g_312_80 m_312_80 g_312_88 n88 g_312_89 n89 k_312 fr_312 (by omega) (by omega) (by rw [he, show (pl - 1 - p).toNat = (pl - 1 - (p + 1)).toNat + 1 by omega]; show (if g < mk_vs cn go ch s pl rp rt r p then _ else _) = _; rw [if_neg (by omega)]) rfl (by omega)
      · refine ik_Wk 5 (pc_q := 42) (loc_q := [some (.ref 66), some (fI p), some (fI g), some (fI p), some (fI (mk_vs cn go ch s pl rp rt r p))]) (st_q := [fI g, fI (mk_vs cn go ch s pl rp rt r p)]) (h_q := h_312) (cl_q := 0) (sl_q := 0) rfl ?_
        refine fw_ic_le rfl rfl (by omega) (by omega) (by omega) (by omega) (fun hc4 => absurd hc4 (by omega)) (fun hc4 => ?_)
        refine ik_Wk 3 (pc_q := 52) (loc_q := [some (.ref 66), some (fI p), some (fI (mk_vs cn go ch s pl rp rt r p)), some (fI p), some (fI (mk_vs cn go ch s pl rp rt r p))]) (st_q := []) (h_q := h_312) (cl_q := 0) (sl_q := 0) rfl ?_
        refine fw_inc (a := p) (loc_q := [some (.ref 66), some (fI p), some (fI (mk_vs cn go ch s pl rp rt r p)), some (fI (p + 1)), some (fI (mk_vs cn go ch s pl rp rt r p))]) rfl rfl (Nat.le_of_ble_eq_true rfl) rfl ?_
        refine ik_Wk 1 (pc_q := 10) (loc_q := [some (.ref 66), some (fI p), some (fI (mk_vs cn go ch s pl rp rt r p)), some (fI (p + 1)), some (fI (mk_vs cn go ch s pl rp rt r p))]) (st_q := []) (h_q := h_312) (cl_q := 0) (sl_q := 0) rfl ?_
        exact ih  (p + 1) (mk_vs cn go ch s pl rp rt r p) p w'_312 gt'_312 gd'_312 xs'_312 ys'_312 (some (fI (mk_vs cn go ch s pl rp rt r p))) h_312 g_312_66 g_312_67 n67 g_312_68 n68 g_312_69 n69 g_312_77 m_312_77 g_312_78 m_312_78 g_312_79 m_312_79 g_312_80 m_312_80 g_312_88 n88 g_312_89 n89 k_312 fr_312 (by omega) (by omega) (by rw [he, show (pl - 1 - p).toNat = (pl - 1 - (p + 1)).toNat + 1 by omega]; show (if g < mk_vs cn go ch s pl rp rt r p then _ else _) = _; rw [if_pos (by omega)]) rfl (by omega)

theorem rp_stoned {h : List ik_E} {pl : Int} {f : Nat → Int} {s : Nat} {cn : List Int} {go : List Int} {ch : List Int} {gt : List Int} {gd : List Int} {xs : List Int} {ys : List Int} {r : Int} {rp : List Int} {rt : List Int} (q0 : 0 ≤ pl ∧ pl ≤ 12) (q1 : s < 4096) (q2 : mx_rw pl cn go ch) (q3 : 0 ≤ r ∧ r ≤ 12) (q4 : mk_rr pl r rp rt) (h66 : cE h 66 (.inr (10, (fI pl :: .ref 67 :: .ref 68 :: .ref 69 :: fI ((s : Nat) : Int) :: .ref 70 :: .ref 71 :: fI (f 7) :: fI (f 8) :: .ref 72 :: fI (f 10) :: fI (f 11) :: fI (f 12) :: fJ (f 13) :: fI (f 14) :: fI (f 15) :: fI (f 16) :: fI (f 17) :: .ref 73 :: .ref 74 :: .ref 75 :: .ref 76 :: .ref 77 :: .ref 78 :: fI (f 24) :: .ref 79 :: .ref 80 :: .ref 81 :: .ref 82 :: .ref 83 :: .ref 84 :: .ref 85 :: fJ (f 32) :: fJ (f 33) :: .ref 86 :: .ref 87 :: fI r :: .ref 88 :: .ref 89 :: .ref 90 :: .ref 91 :: .ref 92 :: .ref 93 :: [])))) (h67 : cE h 67 (.inl (.int, fA cn))) (n67 : cn.length = (12 : Nat)) (h68 : cE h 68 (.inl (.int, fA go))) (n68 : go.length = (48 : Nat)) (h69 : cE h 69 (.inl (.int, fA ch))) (n69 : ch.length = (48 : Nat)) (h77 : cE h 77 (.inl (.int, fA gt))) (n77 : gt.length = (5 : Nat)) (h78 : cE h 78 (.inl (.int, fA gd))) (n78 : gd.length = (5 : Nat)) (h79 : cE h 79 (.inl (.long, fL xs))) (n79 : xs.length = (12 : Nat)) (h80 : cE h 80 (.inl (.long, fL ys))) (n80 : ys.length = (12 : Nat)) (h88 : cE h 88 (.inl (.int, fA rp))) (n88 : rp.length = (12 : Nat)) (h89 : cE h 89 (.inl (.int, fA rt))) (n89 : rt.length = (12 : Nat)) (hl : h.length = (94 : Nat)) : ik_F 188 [.ref 66] h (fun rv h_q => ∃ (w' : Int) (gt' : List Int) (gd' : List Int) (xs' : List Int) (ys' : List Int), rv = [fI (mk_so (mk_vs cn go ch s pl rp rt r) (pl - 1).toNat 0 (mk_fv cn go ch s pl rp rt r) (-1))] ∧ cE h_q 66 (.inr (10, (fI pl :: .ref 67 :: .ref 68 :: .ref 69 :: fI ((s : Nat) : Int) :: .ref 70 :: .ref 71 :: fI (f 7) :: fI (f 8) :: .ref 72 :: fI (f 10) :: fI (f 11) :: fI (f 12) :: fJ (f 13) :: fI (f 14) :: fI (f 15) :: fI (f 16) :: fI (f 17) :: .ref 73 :: .ref 74 :: .ref 75 :: .ref 76 :: .ref 77 :: .ref 78 :: fI w' :: .ref 79 :: .ref 80 :: .ref 81 :: .ref 82 :: .ref 83 :: .ref 84 :: .ref 85 :: fJ (f 32) :: fJ (f 33) :: .ref 86 :: .ref 87 :: fI r :: .ref 88 :: .ref 89 :: .ref 90 :: .ref 91 :: .ref 92 :: .ref 93 :: []))) ∧ cE h_q 77 (.inl (.int, fA gt')) ∧ gt'.length = (5 : Nat) ∧ cE h_q 78 (.inl (.int, fA gd')) ∧ gd'.length = (5 : Nat) ∧ cE h_q 79 (.inl (.long, fL xs')) ∧ xs'.length = (12 : Nat) ∧ cE h_q 80 (.inl (.long, fL ys')) ∧ ys'.length = (12 : Nat) ∧ hfr [66, 77, 78, 79, 80] h h_q) := by
  refine ik_Wk 4 (pc_q := 4) (loc_q := [some (.ref 66), some (fI (-1)), none, none, none]) (st_q := [fI (-1), .ref 66]) (h_q := h) (cl_q := 0) (sl_q := 0) rfl ?_
  refine fw_call 186 2 0 [.ref 66, fI (-1)] [] rfl rfl rfl (Nat.le_of_ble_eq_true rfl) rfl rfl (fw_rec hl rfl h66 rfl (Nat.le_of_ble_eq_true rfl)) (cr_fitOf0 (pl := pl) (f := fun j => ((0 :: 0 :: 0 :: 0 :: 0 :: 0 :: 0 :: f 7 :: f 8 :: 0 :: f 10 :: f 11 :: f 12 :: f 13 :: f 14 :: f 15 :: f 16 :: f 17 :: 0 :: 0 :: 0 :: 0 :: 0 :: 0 :: f 24 :: 0 :: 0 :: 0 :: 0 :: 0 :: 0 :: 0 :: f 32 :: f 33 :: 0 :: 0 :: 0 :: 0 :: 0 :: 0 :: 0 :: 0 :: 0 :: []) : List Int).getD j 0) (s := s) (cn := cn) (go := go) (ch := ch) (gt := gt) (gd := gd) (xs := xs) (ys := ys) (r := r) (rp := rp) (rt := rt) (by omega) (by omega) q2 (by omega) q4 h66 h67 n67 h68 n68 h69 n69 h77 n77 h78 n78 h79 n79 h80 n80 h88 n88 h89 n89 hl) ?_
  rintro _ h_313 ⟨w'_313, gt'_313, gd'_313, xs'_313, ys'_313, rfl, e_313_66, e_313_77, m_313_77, e_313_78, m_313_78, e_313_79, m_313_79, e_313_80, m_313_80, F_313⟩
  have k_313 : cL h_313 := F_313.1.trans hl
  have fr_313 := hfr_cb (hfr_refl [66, 77, 78, 79, 80] h) F_313 rfl
  have g_313_67 := (hfr_g F_313 67 rfl).trans h67
  have g_313_68 := (hfr_g F_313 68 rfl).trans h68
  have g_313_69 := (hfr_g F_313 69 rfl).trans h69
  have g_313_88 := (hfr_g F_313 88 rfl).trans h88
  have g_313_89 := (hfr_g F_313 89 rfl).trans h89
  have g_313_66 : cE h_313 66 (.inr (10, (fI pl :: .ref 67 :: .ref 68 :: .ref 69 :: fI ((s : Nat) : Int) :: .ref 70 :: .ref 71 :: fI (f 7) :: fI (f 8) :: .ref 72 :: fI (f 10) :: fI (f 11) :: fI (f 12) :: fJ (f 13) :: fI (f 14) :: fI (f 15) :: fI (f 16) :: fI (f 17) :: .ref 73 :: .ref 74 :: .ref 75 :: .ref 76 :: .ref 77 :: .ref 78 :: fI w'_313 :: .ref 79 :: .ref 80 :: .ref 81 :: .ref 82 :: .ref 83 :: .ref 84 :: .ref 85 :: fJ (f 32) :: fJ (f 33) :: .ref 86 :: .ref 87 :: fI r :: .ref 88 :: .ref 89 :: .ref 90 :: .ref 91 :: .ref 92 :: .ref 93 :: []))) := e_313_66
  have g_313_77 : cE h_313 77 (.inl (.int, fA gt'_313)) := e_313_77
  have g_313_78 : cE h_313 78 (.inl (.int, fA gd'_313)) := e_313_78
  have g_313_79 : cE h_313 79 (.inl (.long, fL xs'_313)) := e_313_79
  have g_313_80 : cE h_313 80 (.inl (.long, fL ys'_313)) := e_313_80
  refine ik_Wk 0 (pc_q := 7) (loc_q := [some (.ref 66), some (fI (-1)), none, none, none]) (st_q := [fI (mk_fv cn go ch s pl rp rt r)]) (h_q := h_313) (cl_q := 0) (sl_q := 0) rfl ?_
  refine ik_Wk 3 (pc_q := 10) (loc_q := [some (.ref 66), some (fI (-1)), some (fI (mk_fv cn go ch s pl rp rt r)), some (fI 0), none]) (st_q := []) (h_q := h_313) (cl_q := 0) (sl_q := 0) rfl ?_
  have fb : 1 ≤ (mk_fv cn go ch s pl rp rt r) ∧ (mk_fv cn go ch s pl rp rt r) ≤ 1000000000 := mk_ft_b (J := mk_J (fun x => mx_w cn go ch s x) pl rp rt) r.toNat (fun j hj => mk_J_b (mx_rw_ok q2 _) q4 j (by omega))
  exact rp_stonedL (pl := pl) (f := f) (s := s) (cn := cn) (go := go) (ch := ch) (gt := gt) (gd := gd) (xs := xs) (ys := ys) (r := r) (rp := rp) (rt := rt) q0 q1 q2 q3 q4  (pl.toNat + 1) 0 (mk_fv cn go ch s pl rp rt r) (-1) w'_313 gt'_313 gd'_313 xs'_313 ys'_313 none h_313 g_313_66 g_313_67 n67 g_313_68 n68 g_313_69 n69 g_313_77 m_313_77 g_313_78 m_313_78 g_313_79 m_313_79 g_313_80 m_313_80 g_313_88 n88 g_313_89 n89 k_313 fr_313 (by omega) fb (by rw [Int.sub_zero]) rfl (by omega)

end
