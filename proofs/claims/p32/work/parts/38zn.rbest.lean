noncomputable section
/-! the reference: where to set in, runs, digging (written by wip/fx/u15.py) -/
theorem rp_best0I {h : List ik_E} {pl : Int} {f : Nat → Int} {s : Nat} {cn : List Int} {go : List Int} {ch : List Int} {gt : List Int} {gd : List Int} {xs : List Int} {ys : List Int} {ka : Int} {pa : Int} {fa : Int} {kb : Int} {pb : Int} {fb : Int} {r1 : List Int} {r2 : List Int} {m : Int} {what : Int} (q0 : 0 ≤ pl ∧ pl ≤ 12) (q1 : s < 4096) (q2 : ∀ x : Int, 0 ≤ x → x < pl - 1 → 0 ≤ cn.getD x.toNat 0 ∧ cn.getD x.toNat 0 ≤ 4) (q3 : ∀ x : Int, 0 ≤ x → x < pl - 1 → 1 ≤ cn.getD x.toNat 0 ∧ ∀ j : Int, 4 * x ≤ j → j < 4 * x + cn.getD x.toNat 0 → 0 ≤ ch.getD j.toNat 0 ∧ ch.getD j.toNat 0 ≤ 100) (q4 : ∀ x : Int, 0 ≤ x → x < pl - 1 → mx_ok pl (mx_w cn go ch s x)) (q5 : 0 ≤ ka ∧ ka ≤ 2) (q6 : 0 ≤ kb ∧ kb ≤ 2) (q7 : 1 < pl → 0 ≤ pa ∧ pa < pl - 1) (q8 : 1 < pl → 0 ≤ pb ∧ pb < pl - 1) (q9 : 0 ≤ fa ∧ fa ≤ 30) (q10 : 0 ≤ fb ∧ fb ≤ 30) (q11 : -2147483648 ≤ m ∧ m < 2147483648) (q12 : -2147483648 ≤ what ∧ what < 2147483648) (hm : 0 ≤ m ∧ m ≤ 10) (p : Int) (hp : 0 ≤ p ∧ p < pl - 1) (X : Int × Int × Int) (w1 : Int) (g1 : List Int) (d1 : List Int) (x1 : List Int) (y1 : List Int) (s1 : List Int) (s2 : List Int) (hr1 : ∀ j : Nat, j ≤ 200 → s1.getD j 0 = (mf_cm (fun x => mx_w cn go ch s x) (pl - 1) ka p) j) (hr2 : ∀ j : Nat, j ≤ 200 → s2.getD j 0 = (mf_cm (fun x => mx_w cn go ch s x) (pl - 1) kb pb) j) {R : List Value → List ik_E → Prop} (K : ∀ (w : List ik_E) (i2 : Int) (mm : Int) (x : Int) (y : Int) (z : Int) (b : Int) (l : Int) (x10 : Option Value) (x11 : Option Value) (w66 : cE w 66 (.inr (10, [fI pl, .ref 67, .ref 68, .ref 69, fI ((s : Nat) : Int), .ref 70, .ref 71, fI (f 7), fI (f 8), .ref 72, fI (f 10), fI (f 11), fI (f 12), fJ (f 13), fI (f 14), fI (f 15), fI (f 16), fI (f 17), .ref 73, .ref 74, .ref 75, .ref 76, .ref 77, .ref 78, fI w1, .ref 79, .ref 80, .ref 81, .ref 82, .ref 83, .ref 84, .ref 85, fJ (f 32), fJ (f 33), .ref 86, .ref 87, fI (f 36), .ref 88, .ref 89, .ref 90, .ref 91, .ref 92, .ref 93]))) (w67 : cE w 67 (.inl (.int, fA cn))) (nw_67 : cn.length = 12) (w68 : cE w 68 (.inl (.int, fA go))) (nw_68 : go.length = 48) (w69 : cE w 69 (.inl (.int, fA ch))) (nw_69 : ch.length = 48) (w77 : cE w 77 (.inl (.int, fA g1))) (nw_77 : g1.length = 5) (w78 : cE w 78 (.inl (.int, fA d1))) (nw_78 : d1.length = 5) (w79 : cE w 79 (.inl (.long, fL x1))) (nw_79 : x1.length = 12) (w80 : cE w 80 (.inl (.long, fL y1))) (nw_80 : y1.length = 12) (w70 : cE w 70 (.inl (.int, fA [ka, p, mm, kb, pb, fb]))) (w81 : cE w 81 (.inl (.long, fL s1))) (nw_81 : s1.length = 201) (w82 : cE w 82 (.inl (.long, fL s2))) (nw_82 : s2.length = 201) (wl : w.length = 94) (F : hfr [66, 77, 78, 79, 80, 81, 82, 70] h w) (hr : b = 100 * x + y ∧ l = z ∧ 0 ≤ x ∧ x < 12 ∧ 0 ≤ y ∧ y ≤ 10 ∧ 0 ≤ z ∧ z ≤ 1000000) (hX : X = (x, y, z)) (v10 : ik_wl 94 x10 = true) (v11 : ik_wl 94 x11 = true), ik_G 171 194 [some (.ref 66), some (fI 0), some (fI m), some (fI what), some (fI pa), some (fI fa), some (fI b), some (fI l), some (fI p), some (fI i2), x10, x11] [] w R) : ∀ (k : Nat) (i : Int) (mm : Int) (x : Int) (y : Int) (z : Int) (b : Int) (l : Int) (x10 : Option Value) (x11 : Option Value) (u : List ik_E) (u66 : cE u 66 (.inr (10, [fI pl, .ref 67, .ref 68, .ref 69, fI ((s : Nat) : Int), .ref 70, .ref 71, fI (f 7), fI (f 8), .ref 72, fI (f 10), fI (f 11), fI (f 12), fJ (f 13), fI (f 14), fI (f 15), fI (f 16), fI (f 17), .ref 73, .ref 74, .ref 75, .ref 76, .ref 77, .ref 78, fI w1, .ref 79, .ref 80, .ref 81, .ref 82, .ref 83, .ref 84, .ref 85, fJ (f 32), fJ (f 33), .ref 86, .ref 87, fI (f 36), .ref 88, .ref 89, .ref 90, .ref 91, .ref 92, .ref 93]))) (u67 : cE u 67 (.inl (.int, fA cn))) (n67 : cn.length = 12) (u68 : cE u 68 (.inl (.int, fA go))) (n68 : go.length = 48) (u69 : cE u 69 (.inl (.int, fA ch))) (n69 : ch.length = 48) (u77 : cE u 77 (.inl (.int, fA g1))) (n77 : g1.length = 5) (u78 : cE u 78 (.inl (.int, fA d1))) (n78 : d1.length = 5) (u79 : cE u 79 (.inl (.long, fL x1))) (n79 : x1.length = 12) (u80 : cE u 80 (.inl (.long, fL y1))) (n80 : y1.length = 12) (u70 : cE u 70 (.inl (.int, fA [ka, p, mm, kb, pb, fb]))) (u81 : cE u 81 (.inl (.long, fL s1))) (n81 : s1.length = 201) (u82 : cE u 82 (.inl (.long, fL s2))) (n82 : s2.length = 201) (ul : u.length = 94) (F : hfr [66, 77, 78, 79, 80, 81, 82, 70] h u) (hi : 0 ≤ i ∧ i ≤ m + 1) (hr : ((-1 ≤ b ∧ b < 0) ∧ p = 0 ∧ i = 0 ∧ x = 0 ∧ y = 0 ∧ z = 1000001) ∨ (b = 100 * x + y ∧ l = z ∧ 0 ≤ x ∧ x < 12 ∧ 0 ≤ y ∧ y ≤ 10 ∧ 0 ≤ z ∧ z ≤ 1000000)) (he : X = (mk_bk (mk_vb (fun x => mx_w cn go ch s x) pl ka pa fa kb pb fb 0) p (m + 1 - i).toNat i x y z)) (v10 : ik_wl 94 x10 = true) (v11 : ik_wl 94 x11 = true) (hk : m + 1 - i < (k : Int)), ik_G 171 110 [some (.ref 66), some (fI 0), some (fI m), some (fI what), some (fI pa), some (fI fa), some (fI b), some (fI l), some (fI p), some (fI i), x10, x11] [] u R := by
  intro k
  induction k with
  | zero => intro i mm x y z b l x10 x11 u u66 u67 n67 u68 n68 u69 n69 u77 n77 u78 n78 u79 n79 u80 n80 u70 u81 n81 u82 n82 ul F hi hr he v10 v11 hk; omega
  | succ k ih =>
    intro i mm x y z b l x10 x11 u u66 u67 n67 u68 n68 u69 n69 u77 n77 u78 n78 u79 n79 u80 n80 u70 u81 n81 u82 n82 ul F hi hr he v10 v11 hk
    have k0 := mr_ok_cm (W := (fun x => mx_w cn go ch s x)) (k := ka) q4 hp
    have k1 := mr_ok_cm (W := (fun x => mx_w cn go ch s x)) (k := kb) q4 (q8 (by omega))
    refine ik_Wk 2 (pc' := 113) (loc' := [some (.ref 66), some (fI 0), some (fI m), some (fI what), some (fI pa), some (fI fa), some (fI b), some (fI l), some (fI p), some (fI i), x10, x11]) (st' := [fI m, fI i]) (h' := u) (cl' := 0) (sl' := 0) rfl ?_
    refine fw_ic_gt rfl rfl (by omega) (by omega) (by omega) (by omega) (fun hc1 => ?_) (fun hc1 => ?_)
    · rw [show (m + 1 - i).toNat = 0 by omega] at he
      exact K u i mm x y z b l x10 x11 u66 u67 n67 u68 n68 u69 n69 u77 n77 u78 n78 u79 n79 u80 n80 u70 u81 n81 u82 n82 ul F (by omega) he v10 v11
    · refine ik_Wk 1 (pc' := 117) (loc' := [some (.ref 66), some (fI 0), some (fI m), some (fI what), some (fI pa), some (fI fa), some (fI b), some (fI l), some (fI p), some (fI i), x10, x11]) (st' := [.ref 66]) (h' := u) (cl' := 0) (sl' := 0) rfl ?_
      refine fw_gf rfl rfl u66 rfl ?_
      refine ik_Wk 2 (pc' := 122) (loc' := [some (.ref 66), some (fI 0), some (fI m), some (fI what), some (fI pa), some (fI fa), some (fI b), some (fI l), some (fI p), some (fI i), x10, x11]) (st' := [fI 0, fI 3, .ref 70]) (h' := u) (cl' := 0) (sl' := 0) rfl ?_
      refine fw_mul rfl ?_
      refine ik_Wk 1 (pc' := 124) (loc' := [some (.ref 66), some (fI 0), some (fI m), some (fI what), some (fI pa), some (fI fa), some (fI b), some (fI l), some (fI p), some (fI i), x10, x11]) (st' := [fI 2, fI 0, .ref 70]) (h' := u) (cl' := 0) (sl' := 0) rfl ?_
      refine fw_add rfl ?_
      refine ik_Wk 1 (pc' := 127) (loc' := [some (.ref 66), some (fI 0), some (fI m), some (fI what), some (fI pa), some (fI fa), some (fI b), some (fI l), some (fI p), some (fI i), x10, x11]) (st' := [fI i, fI 2, .ref 70]) (h' := u) (cl' := 0) (sl' := 0) rfl ?_
      refine fx_ias (z := 2) rfl u70 (by decide) (Nat.le_of_ble_eq_true rfl) (by decide) ?_
      intro h_281 e_281 f_281 l_281
      have k_281 := l_281.trans ul
      have fr_281 := hfr_w F f_281 l_281 (by decide)
      have g_281_66 := (f_281 66 (by decide)).trans u66
      have g_281_67 := (f_281 67 (by decide)).trans u67
      have g_281_68 := (f_281 68 (by decide)).trans u68
      have g_281_69 := (f_281 69 (by decide)).trans u69
      have g_281_77 := (f_281 77 (by decide)).trans u77
      have g_281_78 := (f_281 78 (by decide)).trans u78
      have g_281_79 := (f_281 79 (by decide)).trans u79
      have g_281_80 := (f_281 80 (by decide)).trans u80
      have g_281_81 := (f_281 81 (by decide)).trans u81
      have g_281_82 := (f_281 82 (by decide)).trans u82
      have g_281_70 : cE h_281 70 (.inl (.int, fA [ka, p, i, kb, pb, fb])) := e_281
      refine ik_Wk 2 (pc' := 130) (loc' := [some (.ref 66), some (fI 0), some (fI m), some (fI what), some (fI pa), some (fI fa), some (fI b), some (fI l), some (fI p), some (fI i), x10, x11]) (st' := [fI 0, .ref 66]) (h' := h_281) (cl' := 0) (sl' := 0) rfl ?_
      refine fw_call 168 2 0 [.ref 66, fI 0] [] rfl rfl rfl (by decide) rfl rfl (fw_rec k_281 (fw_ftx rfl wv_n (wl_c rfl (wl_c rfl (wl_c rfl (wl_c rfl (wl_c rfl (wl_c rfl (wl_c rfl (wl_c rfl (wl_c rfl (wl_c rfl (wl_c v10 (wl_c v11 wl_n))))))))))))) g_281_66 rfl (by decide)) (cr_laterBy (f := fun j => ([pl, 0, 0, 0, ((s : Nat) : Int), 0, 0, f 7, f 8, 0, f 10, f 11, f 12, f 13, f 14, f 15, f 16, f 17, 0, 0, 0, 0, 0, 0, w1, 0, 0, 0, 0, 0, 0, 0, f 32, f 33, 0, 0, f 36, 0, 0, 0, 0, 0, 0] : List Int).getD j 0) (wh := 0) (ka := ka) (pa := p) (fa := i) (kb := kb) (pb := pb) (fb := fb) (r1 := s1) (r2 := s2) (c0 := (mf_cm (fun x => mx_w cn go ch s x) (pl - 1) ka p)) (c1 := (mf_cm (fun x => mx_w cn go ch s x) (pl - 1) kb pb)) (by omega) (by omega) (by omega) hr1 hr2 k0 k1 g_281_66 g_281_70 g_281_81 n81 g_281_82 n82 k_281) ?_
      rintro _ h_282 ⟨rfl, F_282⟩
      have k_282 := F_282.1.trans k_281
      have fr_282 := hfr_c fr_281 F_282 (by decide)
      have g_282_66 := (F_282.2 66 (by decide +kernel)).trans g_281_66
      have g_282_67 := (F_282.2 67 (by decide +kernel)).trans g_281_67
      have g_282_68 := (F_282.2 68 (by decide +kernel)).trans g_281_68
      have g_282_69 := (F_282.2 69 (by decide +kernel)).trans g_281_69
      have g_282_77 := (F_282.2 77 (by decide +kernel)).trans g_281_77
      have g_282_78 := (F_282.2 78 (by decide +kernel)).trans g_281_78
      have g_282_79 := (F_282.2 79 (by decide +kernel)).trans g_281_79
      have g_282_80 := (F_282.2 80 (by decide +kernel)).trans g_281_80
      have g_282_70 := (F_282.2 70 (by decide +kernel)).trans g_281_70
      have g_282_81 := (F_282.2 81 (by decide +kernel)).trans g_281_81
      have g_282_82 := (F_282.2 82 (by decide +kernel)).trans g_281_82
      refine ik_Wk 0 (pc' := 133) (loc' := [some (.ref 66), some (fI 0), some (fI m), some (fI what), some (fI pa), some (fI fa), some (fI b), some (fI l), some (fI p), some (fI i), x10, x11]) (st' := [fI (mr_w (mf_cm (fun x => mx_w cn go ch s x) (pl - 1) ka p) i (mf_cm (fun x => mx_w cn go ch s x) (pl - 1) kb pb) fb 0)]) (h' := h_282) (cl' := 0) (sl' := 0) rfl ?_
      have wb_282 := mr_w_b k0 k1 (show 0 ≤ i by omega) (show 0 ≤ fb by omega) 0
      have ev : (mk_vb (fun x => mx_w cn go ch s x) pl ka pa fa kb pb fb 0) p i = mr_w (mf_cm (fun x => mx_w cn go ch s x) (pl - 1) ka p) i (mf_cm (fun x => mx_w cn go ch s x) (pl - 1) kb pb) fb 0 := if_pos rfl
      refine ik_Wk 2 (pc' := 137) (loc' := [some (.ref 66), some (fI 0), some (fI m), some (fI what), some (fI pa), some (fI fa), some (fI b), some (fI l), some (fI p), some (fI i), some (fI (mr_w (mf_cm (fun x => mx_w cn go ch s x) (pl - 1) ka p) i (mf_cm (fun x => mx_w cn go ch s x) (pl - 1) kb pb) fb 0)), x11]) (st' := [fI b]) (h' := h_282) (cl' := 0) (sl' := 0) rfl ?_
      refine fw_if_lt rfl rfl (by omega) (by omega) (fun hc2 => ?_) (fun hc2 => ?_)
      · refine ik_Wk 4 (pc' := 156) (loc' := [some (.ref 66), some (fI 0), some (fI m), some (fI what), some (fI pa), some (fI fa), some (fI b), some (fI l), some (fI p), some (fI i), some (fI (mr_w (mf_cm (fun x => mx_w cn go ch s x) (pl - 1) ka p) i (mf_cm (fun x => mx_w cn go ch s x) (pl - 1) kb pb) fb 0)), some (fI 1)]) (st' := [fI 1]) (h' := h_282) (cl' := 0) (sl' := 0) rfl ?_
        refine fw_if_eq rfl rfl (by omega) (by omega) (fun hc3 => absurd hc3 (by omega)) (fun hc3 => ?_)
        refine fw_bi rfl (by decide) ?_
        refine ik_Wk 1 (pc' := 163) (loc' := [some (.ref 66), some (fI 0), some (fI m), some (fI what), some (fI pa), some (fI fa), some (fI b), some (fI l), some (fI p), some (fI i), some (fI (mr_w (mf_cm (fun x => mx_w cn go ch s x) (pl - 1) ka p) i (mf_cm (fun x => mx_w cn go ch s x) (pl - 1) kb pb) fb 0)), some (fI 1)]) (st' := [fI p, fI 100]) (h' := h_282) (cl' := 0) (sl' := 0) rfl ?_
        refine fw_mul rfl ?_
        refine ik_Wk 1 (pc' := 166) (loc' := [some (.ref 66), some (fI 0), some (fI m), some (fI what), some (fI pa), some (fI fa), some (fI b), some (fI l), some (fI p), some (fI i), some (fI (mr_w (mf_cm (fun x => mx_w cn go ch s x) (pl - 1) ka p) i (mf_cm (fun x => mx_w cn go ch s x) (pl - 1) kb pb) fb 0)), some (fI 1)]) (st' := [fI i, fI (100 * p)]) (h' := h_282) (cl' := 0) (sl' := 0) rfl ?_
        refine fw_add rfl ?_
        refine ik_Wk 3 (pc' := 176) (loc' := [some (.ref 66), some (fI 0), some (fI m), some (fI what), some (fI pa), some (fI fa), some (fI ((100 * p) + i)), some (fI l), some (fI p), some (fI i), some (fI (mr_w (mf_cm (fun x => mx_w cn go ch s x) (pl - 1) ka p) i (mf_cm (fun x => mx_w cn go ch s x) (pl - 1) kb pb) fb 0)), some (fI 1)]) (st' := [fI 1]) (h' := h_282) (cl' := 0) (sl' := 0) rfl ?_
        refine fw_if_eq rfl rfl (by omega) (by omega) (fun hc4 => absurd hc4 (by omega)) (fun hc4 => ?_)
        refine ik_Wk 3 (pc' := 188) (loc' := [some (.ref 66), some (fI 0), some (fI m), some (fI what), some (fI pa), some (fI fa), some (fI ((100 * p) + i)), some (fI (mr_w (mf_cm (fun x => mx_w cn go ch s x) (pl - 1) ka p) i (mf_cm (fun x => mx_w cn go ch s x) (pl - 1) kb pb) fb 0)), some (fI p), some (fI i), some (fI (mr_w (mf_cm (fun x => mx_w cn go ch s x) (pl - 1) ka p) i (mf_cm (fun x => mx_w cn go ch s x) (pl - 1) kb pb) fb 0)), some (fI 1)]) (st' := []) (h' := h_282) (cl' := 0) (sl' := 0) rfl ?_
        refine fw_inc (a := i) (loc' := [some (.ref 66), some (fI 0), some (fI m), some (fI what), some (fI pa), some (fI fa), some (fI ((100 * p) + i)), some (fI (mr_w (mf_cm (fun x => mx_w cn go ch s x) (pl - 1) ka p) i (mf_cm (fun x => mx_w cn go ch s x) (pl - 1) kb pb) fb 0)), some (fI p), some (fI (i + 1)), some (fI (mr_w (mf_cm (fun x => mx_w cn go ch s x) (pl - 1) ka p) i (mf_cm (fun x => mx_w cn go ch s x) (pl - 1) kb pb) fb 0)), some (fI 1)]) rfl rfl (Nat.le_of_ble_eq_true rfl) rfl ?_
        refine ik_Wk 1 (pc' := 110) (loc' := [some (.ref 66), some (fI 0), some (fI m), some (fI what), some (fI pa), some (fI fa), some (fI ((100 * p) + i)), some (fI (mr_w (mf_cm (fun x => mx_w cn go ch s x) (pl - 1) ka p) i (mf_cm (fun x => mx_w cn go ch s x) (pl - 1) kb pb) fb 0)), some (fI p), some (fI (i + 1)), some (fI (mr_w (mf_cm (fun x => mx_w cn go ch s x) (pl - 1) ka p) i (mf_cm (fun x => mx_w cn go ch s x) (pl - 1) kb pb) fb 0)), some (fI 1)]) (st' := []) (h' := h_282) (cl' := 0) (sl' := 0) rfl ?_
        have e1 : (m + 1 - i).toNat = (m + 1 - (i + 1)).toNat + 1 := by omega
        have he2 : X = (mk_bk (mk_vb (fun x => mx_w cn go ch s x) pl ka pa fa kb pb fb 0) p (m + 1 - (i + 1)).toNat (i + 1) p i (mr_w (mf_cm (fun x => mx_w cn go ch s x) (pl - 1) ka p) i (mf_cm (fun x => mx_w cn go ch s x) (pl - 1) kb pb) fb 0)) := by
          rw [he, e1]
          show (if (mk_vb (fun x => mx_w cn go ch s x) pl ka pa fa kb pb fb 0) p i < z then _ else _) = _
          rw [ev, if_pos (by omega)]
        exact ih (i + 1) i p i (mr_w (mf_cm (fun x => mx_w cn go ch s x) (pl - 1) ka p) i (mf_cm (fun x => mx_w cn go ch s x) (pl - 1) kb pb) fb 0) ((100 * p) + i) (mr_w (mf_cm (fun x => mx_w cn go ch s x) (pl - 1) ka p) i (mf_cm (fun x => mx_w cn go ch s x) (pl - 1) kb pb) fb 0) (some (fI (mr_w (mf_cm (fun x => mx_w cn go ch s x) (pl - 1) ka p) i (mf_cm (fun x => mx_w cn go ch s x) (pl - 1) kb pb) fb 0))) (some (fI 1)) h_282 g_282_66 g_282_67 n67 g_282_68 n68 g_282_69 n69 g_282_77 n77 g_282_78 n78 g_282_79 n79 g_282_80 n80 g_282_70 g_282_81 n81 g_282_82 n82 k_282 fr_282 (by omega) (by omega) he2 rfl rfl (by omega)
      · refine ik_Wk 2 (pc' := 144) (loc' := [some (.ref 66), some (fI 0), some (fI m), some (fI what), some (fI pa), some (fI fa), some (fI b), some (fI l), some (fI p), some (fI i), some (fI (mr_w (mf_cm (fun x => mx_w cn go ch s x) (pl - 1) ka p) i (mf_cm (fun x => mx_w cn go ch s x) (pl - 1) kb pb) fb 0)), x11]) (st' := [fI l, fI (mr_w (mf_cm (fun x => mx_w cn go ch s x) (pl - 1) ka p) i (mf_cm (fun x => mx_w cn go ch s x) (pl - 1) kb pb) fb 0)]) (h' := h_282) (cl' := 0) (sl' := 0) rfl ?_
        refine fw_ic_ge rfl rfl (by omega) (by omega) (by omega) (by omega) (fun hc5 => ?_) (fun hc5 => ?_)
        · refine ik_Wk 3 (pc' := 156) (loc' := [some (.ref 66), some (fI 0), some (fI m), some (fI what), some (fI pa), some (fI fa), some (fI b), some (fI l), some (fI p), some (fI i), some (fI (mr_w (mf_cm (fun x => mx_w cn go ch s x) (pl - 1) ka p) i (mf_cm (fun x => mx_w cn go ch s x) (pl - 1) kb pb) fb 0)), some (fI 0)]) (st' := [fI 0]) (h' := h_282) (cl' := 0) (sl' := 0) rfl ?_
          refine fw_if_eq rfl rfl (by omega) (by omega) (fun hc6 => ?_) (fun hc6 => absurd hc6 (by omega))
          refine ik_Wk 3 (pc' := 176) (loc' := [some (.ref 66), some (fI 0), some (fI m), some (fI what), some (fI pa), some (fI fa), some (fI b), some (fI l), some (fI p), some (fI i), some (fI (mr_w (mf_cm (fun x => mx_w cn go ch s x) (pl - 1) ka p) i (mf_cm (fun x => mx_w cn go ch s x) (pl - 1) kb pb) fb 0)), some (fI 0)]) (st' := [fI 0]) (h' := h_282) (cl' := 0) (sl' := 0) rfl ?_
          refine fw_if_eq rfl rfl (by omega) (by omega) (fun hc7 => ?_) (fun hc7 => absurd hc7 (by omega))
          refine ik_Wk 2 (pc' := 188) (loc' := [some (.ref 66), some (fI 0), some (fI m), some (fI what), some (fI pa), some (fI fa), some (fI b), some (fI l), some (fI p), some (fI i), some (fI (mr_w (mf_cm (fun x => mx_w cn go ch s x) (pl - 1) ka p) i (mf_cm (fun x => mx_w cn go ch s x) (pl - 1) kb pb) fb 0)), some (fI 0)]) (st' := []) (h' := h_282) (cl' := 0) (sl' := 0) rfl ?_
          refine fw_inc (a := i) (loc' := [some (.ref 66), some (fI 0), some (fI m), some (fI what), some (fI pa), some (fI fa), some (fI b), some (fI l), some (fI p), some (fI (i + 1)), some (fI (mr_w (mf_cm (fun x => mx_w cn go ch s x) (pl - 1) ka p) i (mf_cm (fun x => mx_w cn go ch s x) (pl - 1) kb pb) fb 0)), some (fI 0)]) rfl rfl (Nat.le_of_ble_eq_true rfl) rfl ?_
          refine ik_Wk 1 (pc' := 110) (loc' := [some (.ref 66), some (fI 0), some (fI m), some (fI what), some (fI pa), some (fI fa), some (fI b), some (fI l), some (fI p), some (fI (i + 1)), some (fI (mr_w (mf_cm (fun x => mx_w cn go ch s x) (pl - 1) ka p) i (mf_cm (fun x => mx_w cn go ch s x) (pl - 1) kb pb) fb 0)), some (fI 0)]) (st' := []) (h' := h_282) (cl' := 0) (sl' := 0) rfl ?_
          have e1 : (m + 1 - i).toNat = (m + 1 - (i + 1)).toNat + 1 := by omega
          have he2 : X = (mk_bk (mk_vb (fun x => mx_w cn go ch s x) pl ka pa fa kb pb fb 0) p (m + 1 - (i + 1)).toNat (i + 1) x y z) := by
            rw [he, e1]
            show (if (mk_vb (fun x => mx_w cn go ch s x) pl ka pa fa kb pb fb 0) p i < z then _ else _) = _
            rw [ev, if_neg (by omega)]
          exact ih (i + 1) i x y z b l (some (fI (mr_w (mf_cm (fun x => mx_w cn go ch s x) (pl - 1) ka p) i (mf_cm (fun x => mx_w cn go ch s x) (pl - 1) kb pb) fb 0))) (some (fI 0)) h_282 g_282_66 g_282_67 n67 g_282_68 n68 g_282_69 n69 g_282_77 n77 g_282_78 n78 g_282_79 n79 g_282_80 n80 g_282_70 g_282_81 n81 g_282_82 n82 k_282 fr_282 (by omega) (by omega) he2 rfl rfl (by omega)
        · refine ik_Wk 4 (pc' := 156) (loc' := [some (.ref 66), some (fI 0), some (fI m), some (fI what), some (fI pa), some (fI fa), some (fI b), some (fI l), some (fI p), some (fI i), some (fI (mr_w (mf_cm (fun x => mx_w cn go ch s x) (pl - 1) ka p) i (mf_cm (fun x => mx_w cn go ch s x) (pl - 1) kb pb) fb 0)), some (fI 1)]) (st' := [fI 1]) (h' := h_282) (cl' := 0) (sl' := 0) rfl ?_
          refine fw_if_eq rfl rfl (by omega) (by omega) (fun hc8 => absurd hc8 (by omega)) (fun hc8 => ?_)
          refine fw_bi rfl (by decide) ?_
          refine ik_Wk 1 (pc' := 163) (loc' := [some (.ref 66), some (fI 0), some (fI m), some (fI what), some (fI pa), some (fI fa), some (fI b), some (fI l), some (fI p), some (fI i), some (fI (mr_w (mf_cm (fun x => mx_w cn go ch s x) (pl - 1) ka p) i (mf_cm (fun x => mx_w cn go ch s x) (pl - 1) kb pb) fb 0)), some (fI 1)]) (st' := [fI p, fI 100]) (h' := h_282) (cl' := 0) (sl' := 0) rfl ?_
          refine fw_mul rfl ?_
          refine ik_Wk 1 (pc' := 166) (loc' := [some (.ref 66), some (fI 0), some (fI m), some (fI what), some (fI pa), some (fI fa), some (fI b), some (fI l), some (fI p), some (fI i), some (fI (mr_w (mf_cm (fun x => mx_w cn go ch s x) (pl - 1) ka p) i (mf_cm (fun x => mx_w cn go ch s x) (pl - 1) kb pb) fb 0)), some (fI 1)]) (st' := [fI i, fI (100 * p)]) (h' := h_282) (cl' := 0) (sl' := 0) rfl ?_
          refine fw_add rfl ?_
          refine ik_Wk 3 (pc' := 176) (loc' := [some (.ref 66), some (fI 0), some (fI m), some (fI what), some (fI pa), some (fI fa), some (fI ((100 * p) + i)), some (fI l), some (fI p), some (fI i), some (fI (mr_w (mf_cm (fun x => mx_w cn go ch s x) (pl - 1) ka p) i (mf_cm (fun x => mx_w cn go ch s x) (pl - 1) kb pb) fb 0)), some (fI 1)]) (st' := [fI 1]) (h' := h_282) (cl' := 0) (sl' := 0) rfl ?_
          refine fw_if_eq rfl rfl (by omega) (by omega) (fun hc9 => absurd hc9 (by omega)) (fun hc9 => ?_)
          refine ik_Wk 3 (pc' := 188) (loc' := [some (.ref 66), some (fI 0), some (fI m), some (fI what), some (fI pa), some (fI fa), some (fI ((100 * p) + i)), some (fI (mr_w (mf_cm (fun x => mx_w cn go ch s x) (pl - 1) ka p) i (mf_cm (fun x => mx_w cn go ch s x) (pl - 1) kb pb) fb 0)), some (fI p), some (fI i), some (fI (mr_w (mf_cm (fun x => mx_w cn go ch s x) (pl - 1) ka p) i (mf_cm (fun x => mx_w cn go ch s x) (pl - 1) kb pb) fb 0)), some (fI 1)]) (st' := []) (h' := h_282) (cl' := 0) (sl' := 0) rfl ?_
          refine fw_inc (a := i) (loc' := [some (.ref 66), some (fI 0), some (fI m), some (fI what), some (fI pa), some (fI fa), some (fI ((100 * p) + i)), some (fI (mr_w (mf_cm (fun x => mx_w cn go ch s x) (pl - 1) ka p) i (mf_cm (fun x => mx_w cn go ch s x) (pl - 1) kb pb) fb 0)), some (fI p), some (fI (i + 1)), some (fI (mr_w (mf_cm (fun x => mx_w cn go ch s x) (pl - 1) ka p) i (mf_cm (fun x => mx_w cn go ch s x) (pl - 1) kb pb) fb 0)), some (fI 1)]) rfl rfl (Nat.le_of_ble_eq_true rfl) rfl ?_
          refine ik_Wk 1 (pc' := 110) (loc' := [some (.ref 66), some (fI 0), some (fI m), some (fI what), some (fI pa), some (fI fa), some (fI ((100 * p) + i)), some (fI (mr_w (mf_cm (fun x => mx_w cn go ch s x) (pl - 1) ka p) i (mf_cm (fun x => mx_w cn go ch s x) (pl - 1) kb pb) fb 0)), some (fI p), some (fI (i + 1)), some (fI (mr_w (mf_cm (fun x => mx_w cn go ch s x) (pl - 1) ka p) i (mf_cm (fun x => mx_w cn go ch s x) (pl - 1) kb pb) fb 0)), some (fI 1)]) (st' := []) (h' := h_282) (cl' := 0) (sl' := 0) rfl ?_
          have e1 : (m + 1 - i).toNat = (m + 1 - (i + 1)).toNat + 1 := by omega
          have he2 : X = (mk_bk (mk_vb (fun x => mx_w cn go ch s x) pl ka pa fa kb pb fb 0) p (m + 1 - (i + 1)).toNat (i + 1) p i (mr_w (mf_cm (fun x => mx_w cn go ch s x) (pl - 1) ka p) i (mf_cm (fun x => mx_w cn go ch s x) (pl - 1) kb pb) fb 0)) := by
            rw [he, e1]
            show (if (mk_vb (fun x => mx_w cn go ch s x) pl ka pa fa kb pb fb 0) p i < z then _ else _) = _
            rw [ev, if_pos (by omega)]
          exact ih (i + 1) i p i (mr_w (mf_cm (fun x => mx_w cn go ch s x) (pl - 1) ka p) i (mf_cm (fun x => mx_w cn go ch s x) (pl - 1) kb pb) fb 0) ((100 * p) + i) (mr_w (mf_cm (fun x => mx_w cn go ch s x) (pl - 1) ka p) i (mf_cm (fun x => mx_w cn go ch s x) (pl - 1) kb pb) fb 0) (some (fI (mr_w (mf_cm (fun x => mx_w cn go ch s x) (pl - 1) ka p) i (mf_cm (fun x => mx_w cn go ch s x) (pl - 1) kb pb) fb 0))) (some (fI 1)) h_282 g_282_66 g_282_67 n67 g_282_68 n68 g_282_69 n69 g_282_77 n77 g_282_78 n78 g_282_79 n79 g_282_80 n80 g_282_70 g_282_81 n81 g_282_82 n82 k_282 fr_282 (by omega) (by omega) he2 rfl rfl (by omega)

theorem rp_best0L {h : List ik_E} {pl : Int} {f : Nat → Int} {s : Nat} {cn : List Int} {go : List Int} {ch : List Int} {gt : List Int} {gd : List Int} {xs : List Int} {ys : List Int} {ka : Int} {pa : Int} {fa : Int} {kb : Int} {pb : Int} {fb : Int} {r1 : List Int} {r2 : List Int} {m : Int} {what : Int} (q0 : 0 ≤ pl ∧ pl ≤ 12) (q1 : s < 4096) (q2 : ∀ x : Int, 0 ≤ x → x < pl - 1 → 0 ≤ cn.getD x.toNat 0 ∧ cn.getD x.toNat 0 ≤ 4) (q3 : ∀ x : Int, 0 ≤ x → x < pl - 1 → 1 ≤ cn.getD x.toNat 0 ∧ ∀ j : Int, 4 * x ≤ j → j < 4 * x + cn.getD x.toNat 0 → 0 ≤ ch.getD j.toNat 0 ∧ ch.getD j.toNat 0 ≤ 100) (q4 : ∀ x : Int, 0 ≤ x → x < pl - 1 → mx_ok pl (mx_w cn go ch s x)) (q5 : 0 ≤ ka ∧ ka ≤ 2) (q6 : 0 ≤ kb ∧ kb ≤ 2) (q7 : 1 < pl → 0 ≤ pa ∧ pa < pl - 1) (q8 : 1 < pl → 0 ≤ pb ∧ pb < pl - 1) (q9 : 0 ≤ fa ∧ fa ≤ 30) (q10 : 0 ≤ fb ∧ fb ≤ 30) (q11 : -2147483648 ≤ m ∧ m < 2147483648) (q12 : -2147483648 ≤ what ∧ what < 2147483648) (hpl : 1 < pl) (hm : 0 ≤ m ∧ m ≤ 10) (hw : 0 ≤ what ∧ what ≤ 2) : ∀ (k : Nat) (p : Int) (pm : Int) (mm : Int) (x : Int) (y : Int) (z : Int) (b : Int) (l : Int) (w1 : Int) (g1 : List Int) (d1 : List Int) (x1 : List Int) (y1 : List Int) (s1 : List Int) (s2 : List Int) (x9 : Option Value) (x10 : Option Value) (x11 : Option Value) (u : List ik_E) (u66 : cE u 66 (.inr (10, [fI pl, .ref 67, .ref 68, .ref 69, fI ((s : Nat) : Int), .ref 70, .ref 71, fI (f 7), fI (f 8), .ref 72, fI (f 10), fI (f 11), fI (f 12), fJ (f 13), fI (f 14), fI (f 15), fI (f 16), fI (f 17), .ref 73, .ref 74, .ref 75, .ref 76, .ref 77, .ref 78, fI w1, .ref 79, .ref 80, .ref 81, .ref 82, .ref 83, .ref 84, .ref 85, fJ (f 32), fJ (f 33), .ref 86, .ref 87, fI (f 36), .ref 88, .ref 89, .ref 90, .ref 91, .ref 92, .ref 93]))) (u67 : cE u 67 (.inl (.int, fA cn))) (n67 : cn.length = 12) (u68 : cE u 68 (.inl (.int, fA go))) (n68 : go.length = 48) (u69 : cE u 69 (.inl (.int, fA ch))) (n69 : ch.length = 48) (u77 : cE u 77 (.inl (.int, fA g1))) (n77 : g1.length = 5) (u78 : cE u 78 (.inl (.int, fA d1))) (n78 : d1.length = 5) (u79 : cE u 79 (.inl (.long, fL x1))) (n79 : x1.length = 12) (u80 : cE u 80 (.inl (.long, fL y1))) (n80 : y1.length = 12) (u70 : cE u 70 (.inl (.int, fA [ka, pm, mm, kb, pb, fb]))) (u81 : cE u 81 (.inl (.long, fL s1))) (n81 : s1.length = 201) (u82 : cE u 82 (.inl (.long, fL s2))) (n82 : s2.length = 201) (ul : u.length = 94) (F : hfr [66, 77, 78, 79, 80, 81, 82, 70] h u) (hp : 0 ≤ p ∧ p ≤ pl - 1) (hr : ((-1 ≤ b ∧ b < 0) ∧ p = 0 ∧ x = 0 ∧ y = 0 ∧ z = 1000001) ∨ (b = 100 * x + y ∧ l = z ∧ 0 ≤ x ∧ x < 12 ∧ 0 ≤ y ∧ y ≤ 10 ∧ 0 ≤ z ∧ z ≤ 1000000)) (he : (mk_bp (mk_vb (fun x => mx_w cn go ch s x) pl ka pa fa kb pb fb 0) (m.toNat + 1) (pl - 1).toNat 0 0 0 1000001) = mk_bp (mk_vb (fun x => mx_w cn go ch s x) pl ka pa fa kb pb fb 0) (m.toNat + 1) (pl - 1 - p).toNat p x y z) (v9 : ik_wl 94 x9 = true) (v10 : ik_wl 94 x10 = true) (v11 : ik_wl 94 x11 = true) (hk : pl - p < (k : Int)), ik_G 171 80 [some (.ref 66), some (fI 0), some (fI m), some (fI what), some (fI pa), some (fI fa), some (fI b), some (fI l), some (fI p), x9, x10, x11] [] u (fun rv h' => ∃ (w' : Int) (gt' : List Int) (gd' : List Int) (xs' : List Int) (ys' : List Int) (r1' : List Int) (r2' : List Int), rv = [fI (an_be m what pl (if what = 0 then (mk_bp (mk_vb (fun x => mx_w cn go ch s x) pl ka pa fa kb pb fb 0) (m.toNat + 1) (pl - 1).toNat 0 0 0 1000001).1 else if what = 1 then (mk_bp (mk_vb (fun x => mx_w cn go ch s x) pl ka pa fa kb pb fb 0) (m.toNat + 1) (pl - 1).toNat 0 0 0 1000001).2.1 else (mk_bp (mk_vb (fun x => mx_w cn go ch s x) pl ka pa fa kb pb fb 0) (m.toNat + 1) (pl - 1).toNat 0 0 0 1000001).2.2))] ∧ cE h' 66 (.inr (10, [fI pl, .ref 67, .ref 68, .ref 69, fI ((s : Nat) : Int), .ref 70, .ref 71, fI (f 7), fI (f 8), .ref 72, fI (f 10), fI (f 11), fI (f 12), fJ (f 13), fI (f 14), fI (f 15), fI (f 16), fI (f 17), .ref 73, .ref 74, .ref 75, .ref 76, .ref 77, .ref 78, fI w', .ref 79, .ref 80, .ref 81, .ref 82, .ref 83, .ref 84, .ref 85, fJ (f 32), fJ (f 33), .ref 86, .ref 87, fI (f 36), .ref 88, .ref 89, .ref 90, .ref 91, .ref 92, .ref 93])) ∧ cE h' 77 (.inl (.int, fA gt')) ∧ gt'.length = 5 ∧ cE h' 78 (.inl (.int, fA gd')) ∧ gd'.length = 5 ∧ cE h' 79 (.inl (.long, fL xs')) ∧ xs'.length = 12 ∧ cE h' 80 (.inl (.long, fL ys')) ∧ ys'.length = 12 ∧ cE h' 81 (.inl (.long, fL r1')) ∧ r1'.length = 201 ∧ cE h' 82 (.inl (.long, fL r2')) ∧ r2'.length = 201 ∧ cE h' 70 (.inl (.int, fA [ka, pa, fa, kb, pb, fb])) ∧ hfr [66, 77, 78, 79, 80, 81, 82, 70] h h') := by
  intro k
  induction k with
  | zero => intro p pm mm x y z b l w1 g1 d1 x1 y1 s1 s2 x9 x10 x11 u u66 u67 n67 u68 n68 u69 n69 u77 n77 u78 n78 u79 n79 u80 n80 u70 u81 n81 u82 n82 ul F hp hr he v9 v10 v11 hk; omega
  | succ k ih =>
    intro p pm mm x y z b l w1 g1 d1 x1 y1 s1 s2 x9 x10 x11 u u66 u67 n67 u68 n68 u69 n69 u77 n77 u78 n78 u79 n79 u80 n80 u70 u81 n81 u82 n82 ul F hp hr he v9 v10 v11 hk
    refine ik_Wk 2 (pc' := 83) (loc' := [some (.ref 66), some (fI 0), some (fI m), some (fI what), some (fI pa), some (fI fa), some (fI b), some (fI l), some (fI p), x9, x10, x11]) (st' := [.ref 66, fI p]) (h' := u) (cl' := 0) (sl' := 0) rfl ?_
    refine fw_gf rfl rfl u66 rfl ?_
    refine ik_Wk 1 (pc' := 87) (loc' := [some (.ref 66), some (fI 0), some (fI m), some (fI what), some (fI pa), some (fI fa), some (fI b), some (fI l), some (fI p), x9, x10, x11]) (st' := [fI 1, fI pl, fI p]) (h' := u) (cl' := 0) (sl' := 0) rfl ?_
    refine fw_sub rfl ?_
    refine fw_ic_ge rfl rfl (by omega) (by omega) (by omega) (by omega) (fun hc1 => ?_) (fun hc1 => ?_)
    · refine ik_Wk 1 (pc' := 201) (loc' := [some (.ref 66), some (fI 0), some (fI m), some (fI what), some (fI pa), some (fI fa), some (fI b), some (fI l), some (fI p), x9, x10, x11]) (st' := [.ref 66]) (h' := u) (cl' := 0) (sl' := 0) rfl ?_
      refine fw_gf rfl rfl u66 rfl ?_
      refine ik_Wk 2 (pc' := 206) (loc' := [some (.ref 66), some (fI 0), some (fI m), some (fI what), some (fI pa), some (fI fa), some (fI b), some (fI l), some (fI p), x9, x10, x11]) (st' := [fI 0, fI 3, .ref 70]) (h' := u) (cl' := 0) (sl' := 0) rfl ?_
      refine fw_mul rfl ?_
      refine ik_Wk 1 (pc' := 208) (loc' := [some (.ref 66), some (fI 0), some (fI m), some (fI what), some (fI pa), some (fI fa), some (fI b), some (fI l), some (fI p), x9, x10, x11]) (st' := [fI 1, fI 0, .ref 70]) (h' := u) (cl' := 0) (sl' := 0) rfl ?_
      refine fw_add rfl ?_
      refine ik_Wk 1 (pc' := 211) (loc' := [some (.ref 66), some (fI 0), some (fI m), some (fI what), some (fI pa), some (fI fa), some (fI b), some (fI l), some (fI p), x9, x10, x11]) (st' := [fI pa, fI 1, .ref 70]) (h' := u) (cl' := 0) (sl' := 0) rfl ?_
      refine fx_ias (z := 1) rfl u70 (by decide) (Nat.le_of_ble_eq_true rfl) (by decide) ?_
      intro h_283 e_283 f_283 l_283
      have k_283 := l_283.trans ul
      have fr_283 := hfr_w F f_283 l_283 (by decide)
      have g_283_66 := (f_283 66 (by decide)).trans u66
      have g_283_67 := (f_283 67 (by decide)).trans u67
      have g_283_68 := (f_283 68 (by decide)).trans u68
      have g_283_69 := (f_283 69 (by decide)).trans u69
      have g_283_77 := (f_283 77 (by decide)).trans u77
      have g_283_78 := (f_283 78 (by decide)).trans u78
      have g_283_79 := (f_283 79 (by decide)).trans u79
      have g_283_80 := (f_283 80 (by decide)).trans u80
      have g_283_81 := (f_283 81 (by decide)).trans u81
      have g_283_82 := (f_283 82 (by decide)).trans u82
      have g_283_70 : cE h_283 70 (.inl (.int, fA [ka, pa, mm, kb, pb, fb])) := e_283
      refine ik_Wk 1 (pc' := 213) (loc' := [some (.ref 66), some (fI 0), some (fI m), some (fI what), some (fI pa), some (fI fa), some (fI b), some (fI l), some (fI p), x9, x10, x11]) (st' := [.ref 66]) (h' := h_283) (cl' := 0) (sl' := 0) rfl ?_
      refine fw_gf rfl rfl g_283_66 rfl ?_
      refine ik_Wk 2 (pc' := 218) (loc' := [some (.ref 66), some (fI 0), some (fI m), some (fI what), some (fI pa), some (fI fa), some (fI b), some (fI l), some (fI p), x9, x10, x11]) (st' := [fI 0, fI 3, .ref 70]) (h' := h_283) (cl' := 0) (sl' := 0) rfl ?_
      refine fw_mul rfl ?_
      refine ik_Wk 1 (pc' := 220) (loc' := [some (.ref 66), some (fI 0), some (fI m), some (fI what), some (fI pa), some (fI fa), some (fI b), some (fI l), some (fI p), x9, x10, x11]) (st' := [fI 2, fI 0, .ref 70]) (h' := h_283) (cl' := 0) (sl' := 0) rfl ?_
      refine fw_add rfl ?_
      refine ik_Wk 1 (pc' := 223) (loc' := [some (.ref 66), some (fI 0), some (fI m), some (fI what), some (fI pa), some (fI fa), some (fI b), some (fI l), some (fI p), x9, x10, x11]) (st' := [fI fa, fI 2, .ref 70]) (h' := h_283) (cl' := 0) (sl' := 0) rfl ?_
      refine fx_ias (z := 2) rfl g_283_70 (by decide) (Nat.le_of_ble_eq_true rfl) (by decide) ?_
      intro h_284 e_284 f_284 l_284
      have k_284 := l_284.trans k_283
      have fr_284 := hfr_w fr_283 f_284 l_284 (by decide)
      have g_284_66 := (f_284 66 (by decide)).trans g_283_66
      have g_284_67 := (f_284 67 (by decide)).trans g_283_67
      have g_284_68 := (f_284 68 (by decide)).trans g_283_68
      have g_284_69 := (f_284 69 (by decide)).trans g_283_69
      have g_284_77 := (f_284 77 (by decide)).trans g_283_77
      have g_284_78 := (f_284 78 (by decide)).trans g_283_78
      have g_284_79 := (f_284 79 (by decide)).trans g_283_79
      have g_284_80 := (f_284 80 (by decide)).trans g_283_80
      have g_284_81 := (f_284 81 (by decide)).trans g_283_81
      have g_284_82 := (f_284 82 (by decide)).trans g_283_82
      have g_284_70 : cE h_284 70 (.inl (.int, fA [ka, pa, fa, kb, pb, fb])) := e_284
      refine ik_Wk 1 (pc' := 225) (loc' := [some (.ref 66), some (fI 0), some (fI m), some (fI what), some (fI pa), some (fI fa), some (fI b), some (fI l), some (fI p), x9, x10, x11]) (st' := [fI what]) (h' := h_284) (cl' := 0) (sl' := 0) rfl ?_
      refine fw_if_ne rfl rfl (by omega) (by omega) (fun hc2 => ?_) (fun hc2 => ?_)
      · refine ik_Wk 1 (pc' := 230) (loc' := [some (.ref 66), some (fI 0), some (fI m), some (fI what), some (fI pa), some (fI fa), some (fI b), some (fI l), some (fI p), x9, x10, x11]) (st' := [fI b]) (h' := h_284) (cl' := 0) (sl' := 0) rfl ?_
        refine fw_bi rfl (by decide) ?_
        refine fx_idiv rfl (by omega) (by omega) (by omega) (by omega) ?_
        refine ik_Wk 1 (pc' := 251) (loc' := [some (.ref 66), some (fI 0), some (fI m), some (fI what), some (fI pa), some (fI fa), some (fI b), some (fI l), some (fI p), x9, x10, x11]) (st' := [fI (b / 100)]) (h' := h_284) (cl' := 0) (sl' := 0) rfl ?_
        rw [show (pl - 1 - p).toNat = 0 by omega] at he
        have e0 : (mk_bp (mk_vb (fun x => mx_w cn go ch s x) pl ka pa fa kb pb fb 0) (m.toNat + 1) (pl - 1).toNat 0 0 0 1000001).1 = x := by rw [he]; rfl
        have e1 : (mk_bp (mk_vb (fun x => mx_w cn go ch s x) pl ka pa fa kb pb fb 0) (m.toNat + 1) (pl - 1).toNat 0 0 0 1000001).2.1 = y := by rw [he]; rfl
        have e2 : (mk_bp (mk_vb (fun x => mx_w cn go ch s x) pl ka pa fa kb pb fb 0) (m.toNat + 1) (pl - 1).toNat 0 0 0 1000001).2.2 = z := by rw [he]; rfl
        exact ik_Wret rfl rfl ⟨_, _, rfl, rfl, rfl, rfl, ⟨w1, g1, d1, x1, y1, s1, s2, (congrArg (fun z => [fI z]) (by rw [e0, e1, e2]; unfold an_be; (repeat' split) <;> omega)), g_284_66, g_284_77, n77, g_284_78, n78, g_284_79, n79, g_284_80, n80, g_284_81, n81, g_284_82, n82, g_284_70, fr_284⟩⟩
      · refine ik_Wk 2 (pc' := 238) (loc' := [some (.ref 66), some (fI 0), some (fI m), some (fI what), some (fI pa), some (fI fa), some (fI b), some (fI l), some (fI p), x9, x10, x11]) (st' := [fI 1, fI what]) (h' := h_284) (cl' := 0) (sl' := 0) rfl ?_
        refine fw_ic_ne rfl rfl (by omega) (by omega) (by omega) (by omega) (fun hc3 => ?_) (fun hc3 => ?_)
        · refine ik_Wk 1 (pc' := 243) (loc' := [some (.ref 66), some (fI 0), some (fI m), some (fI what), some (fI pa), some (fI fa), some (fI b), some (fI l), some (fI p), x9, x10, x11]) (st' := [fI b]) (h' := h_284) (cl' := 0) (sl' := 0) rfl ?_
          refine fw_bi rfl (by decide) ?_
          refine fx_irem rfl (by omega) (by omega) (by omega) (by omega) ?_
          refine ik_Wk 1 (pc' := 251) (loc' := [some (.ref 66), some (fI 0), some (fI m), some (fI what), some (fI pa), some (fI fa), some (fI b), some (fI l), some (fI p), x9, x10, x11]) (st' := [fI (b % 100)]) (h' := h_284) (cl' := 0) (sl' := 0) rfl ?_
          rw [show (pl - 1 - p).toNat = 0 by omega] at he
          have e0 : (mk_bp (mk_vb (fun x => mx_w cn go ch s x) pl ka pa fa kb pb fb 0) (m.toNat + 1) (pl - 1).toNat 0 0 0 1000001).1 = x := by rw [he]; rfl
          have e1 : (mk_bp (mk_vb (fun x => mx_w cn go ch s x) pl ka pa fa kb pb fb 0) (m.toNat + 1) (pl - 1).toNat 0 0 0 1000001).2.1 = y := by rw [he]; rfl
          have e2 : (mk_bp (mk_vb (fun x => mx_w cn go ch s x) pl ka pa fa kb pb fb 0) (m.toNat + 1) (pl - 1).toNat 0 0 0 1000001).2.2 = z := by rw [he]; rfl
          exact ik_Wret rfl rfl ⟨_, _, rfl, rfl, rfl, rfl, ⟨w1, g1, d1, x1, y1, s1, s2, (congrArg (fun z => [fI z]) (by rw [e0, e1, e2]; unfold an_be; (repeat' split) <;> omega)), g_284_66, g_284_77, n77, g_284_78, n78, g_284_79, n79, g_284_80, n80, g_284_81, n81, g_284_82, n82, g_284_70, fr_284⟩⟩
        · refine ik_Wk 1 (pc' := 251) (loc' := [some (.ref 66), some (fI 0), some (fI m), some (fI what), some (fI pa), some (fI fa), some (fI b), some (fI l), some (fI p), x9, x10, x11]) (st' := [fI l]) (h' := h_284) (cl' := 0) (sl' := 0) rfl ?_
          rw [show (pl - 1 - p).toNat = 0 by omega] at he
          have e0 : (mk_bp (mk_vb (fun x => mx_w cn go ch s x) pl ka pa fa kb pb fb 0) (m.toNat + 1) (pl - 1).toNat 0 0 0 1000001).1 = x := by rw [he]; rfl
          have e1 : (mk_bp (mk_vb (fun x => mx_w cn go ch s x) pl ka pa fa kb pb fb 0) (m.toNat + 1) (pl - 1).toNat 0 0 0 1000001).2.1 = y := by rw [he]; rfl
          have e2 : (mk_bp (mk_vb (fun x => mx_w cn go ch s x) pl ka pa fa kb pb fb 0) (m.toNat + 1) (pl - 1).toNat 0 0 0 1000001).2.2 = z := by rw [he]; rfl
          exact ik_Wret rfl rfl ⟨_, _, rfl, rfl, rfl, rfl, ⟨w1, g1, d1, x1, y1, s1, s2, (congrArg (fun z => [fI z]) (by rw [e0, e1, e2]; unfold an_be; (repeat' split) <;> omega)), g_284_66, g_284_77, n77, g_284_78, n78, g_284_79, n79, g_284_80, n80, g_284_81, n81, g_284_82, n82, g_284_70, fr_284⟩⟩
    · refine ik_Wk 1 (pc' := 92) (loc' := [some (.ref 66), some (fI 0), some (fI m), some (fI what), some (fI pa), some (fI fa), some (fI b), some (fI l), some (fI p), x9, x10, x11]) (st' := [.ref 66]) (h' := u) (cl' := 0) (sl' := 0) rfl ?_
      refine fw_gf rfl rfl u66 rfl ?_
      refine ik_Wk 2 (pc' := 97) (loc' := [some (.ref 66), some (fI 0), some (fI m), some (fI what), some (fI pa), some (fI fa), some (fI b), some (fI l), some (fI p), x9, x10, x11]) (st' := [fI 0, fI 3, .ref 70]) (h' := u) (cl' := 0) (sl' := 0) rfl ?_
      refine fw_mul rfl ?_
      refine ik_Wk 1 (pc' := 99) (loc' := [some (.ref 66), some (fI 0), some (fI m), some (fI what), some (fI pa), some (fI fa), some (fI b), some (fI l), some (fI p), x9, x10, x11]) (st' := [fI 1, fI 0, .ref 70]) (h' := u) (cl' := 0) (sl' := 0) rfl ?_
      refine fw_add rfl ?_
      refine ik_Wk 1 (pc' := 102) (loc' := [some (.ref 66), some (fI 0), some (fI m), some (fI what), some (fI pa), some (fI fa), some (fI b), some (fI l), some (fI p), x9, x10, x11]) (st' := [fI p, fI 1, .ref 70]) (h' := u) (cl' := 0) (sl' := 0) rfl ?_
      refine fx_ias (z := 1) rfl u70 (by decide) (Nat.le_of_ble_eq_true rfl) (by decide) ?_
      intro h_285 e_285 f_285 l_285
      have k_285 := l_285.trans ul
      have fr_285 := hfr_w F f_285 l_285 (by decide)
      have g_285_66 := (f_285 66 (by decide)).trans u66
      have g_285_67 := (f_285 67 (by decide)).trans u67
      have g_285_68 := (f_285 68 (by decide)).trans u68
      have g_285_69 := (f_285 69 (by decide)).trans u69
      have g_285_77 := (f_285 77 (by decide)).trans u77
      have g_285_78 := (f_285 78 (by decide)).trans u78
      have g_285_79 := (f_285 79 (by decide)).trans u79
      have g_285_80 := (f_285 80 (by decide)).trans u80
      have g_285_81 := (f_285 81 (by decide)).trans u81
      have g_285_82 := (f_285 82 (by decide)).trans u82
      have g_285_70 : cE h_285 70 (.inl (.int, fA [ka, p, mm, kb, pb, fb])) := e_285
      refine ik_Wk 1 (pc' := 104) (loc' := [some (.ref 66), some (fI 0), some (fI m), some (fI what), some (fI pa), some (fI fa), some (fI b), some (fI l), some (fI p), x9, x10, x11]) (st' := [.ref 66]) (h' := h_285) (cl' := 0) (sl' := 0) rfl ?_
      refine fw_call 165 1 0 [.ref 66] [] rfl rfl rfl (by decide) rfl rfl (fw_rec k_285 (fw_ftx rfl wv_n (wl_c rfl (wl_c rfl (wl_c rfl (wl_c rfl (wl_c rfl (wl_c rfl (wl_c rfl (wl_c rfl (wl_c rfl (wl_c v9 (wl_c v10 (wl_c v11 wl_n))))))))))))) g_285_66 rfl (by decide)) (cr_suitRows (pl := pl) (f := fun j => ([0, 0, 0, 0, 0, 0, 0, f 7, f 8, 0, f 10, f 11, f 12, f 13, f 14, f 15, f 16, f 17, 0, 0, 0, 0, 0, 0, w1, 0, 0, 0, 0, 0, 0, 0, f 32, f 33, 0, 0, f 36, 0, 0, 0, 0, 0, 0] : List Int).getD j 0) (s := s) (cn := cn) (go := go) (ch := ch) (gt := g1) (gd := d1) (xs := x1) (ys := y1) (ka := ka) (pa := p) (fa := mm) (kb := kb) (pb := pb) (fb := fb) (r1 := s1) (r2 := s2) (by omega) (by omega) q2 q3 q4 (by omega) (by omega) (by omega) (by have := q8 hpl; omega) g_285_66 g_285_67 n67 g_285_68 n68 g_285_69 n69 g_285_77 n77 g_285_78 n78 g_285_79 n79 g_285_80 n80 g_285_70 g_285_81 n81 g_285_82 n82 k_285) ?_
      rintro _ h_286 ⟨w'_286, gt'_286, gd'_286, xs'_286, ys'_286, r1'_286, r2'_286, rfl, e_286_66, e_286_77, m_286_77, e_286_78, m_286_78, e_286_79, m_286_79, e_286_80, m_286_80, e_286_81, m_286_81, e_286_82, m_286_82, p_286_0, p_286_1, F_286⟩
      have k_286 := F_286.1.trans k_285
      have fr_286 := hfr_c fr_285 F_286 (by decide)
      have g_286_67 := (F_286.2 67 (by decide +kernel)).trans g_285_67
      have g_286_68 := (F_286.2 68 (by decide +kernel)).trans g_285_68
      have g_286_69 := (F_286.2 69 (by decide +kernel)).trans g_285_69
      have g_286_70 := (F_286.2 70 (by decide +kernel)).trans g_285_70
      have g_286_66 : cE h_286 66 (.inr (10, [fI pl, .ref 67, .ref 68, .ref 69, fI ((s : Nat) : Int), .ref 70, .ref 71, fI (f 7), fI (f 8), .ref 72, fI (f 10), fI (f 11), fI (f 12), fJ (f 13), fI (f 14), fI (f 15), fI (f 16), fI (f 17), .ref 73, .ref 74, .ref 75, .ref 76, .ref 77, .ref 78, fI w'_286, .ref 79, .ref 80, .ref 81, .ref 82, .ref 83, .ref 84, .ref 85, fJ (f 32), fJ (f 33), .ref 86, .ref 87, fI (f 36), .ref 88, .ref 89, .ref 90, .ref 91, .ref 92, .ref 93])) := e_286_66
      have g_286_77 : cE h_286 77 (.inl (.int, fA gt'_286)) := e_286_77
      have g_286_78 : cE h_286 78 (.inl (.int, fA gd'_286)) := e_286_78
      have g_286_79 : cE h_286 79 (.inl (.long, fL xs'_286)) := e_286_79
      have g_286_80 : cE h_286 80 (.inl (.long, fL ys'_286)) := e_286_80
      have g_286_81 : cE h_286 81 (.inl (.long, fL r1'_286)) := e_286_81
      have g_286_82 : cE h_286 82 (.inl (.long, fL r2'_286)) := e_286_82
      refine ik_Wk 0 (pc' := 107) (loc' := [some (.ref 66), some (fI 0), some (fI m), some (fI what), some (fI pa), some (fI fa), some (fI b), some (fI l), some (fI p), x9, x10, x11]) (st' := []) (h' := h_286) (cl' := 0) (sl' := 0) rfl ?_
      refine ik_Wk 2 (pc' := 110) (loc' := [some (.ref 66), some (fI 0), some (fI m), some (fI what), some (fI pa), some (fI fa), some (fI b), some (fI l), some (fI p), some (fI 0), x10, x11]) (st' := []) (h' := h_286) (cl' := 0) (sl' := 0) rfl ?_
      refine rp_best0I (pl := pl) (f := f) (s := s) (cn := cn) (go := go) (ch := ch) (gt := gt) (gd := gd) (xs := xs) (ys := ys) (ka := ka) (pa := pa) (fa := fa) (kb := kb) (pb := pb) (fb := fb) (r1 := r1) (r2 := r2) (m := m) (what := what) q0 q1 q2 q3 q4 q5 q6 q7 q8 q9 q10 q11 q12 hm p (by omega) (mk_bk (mk_vb (fun x => mx_w cn go ch s x) pl ka pa fa kb pb fb 0) p (m.toNat + 1) 0 x y z) w'_286 gt'_286 gd'_286 xs'_286 ys'_286 r1'_286 r2'_286 p_286_0 p_286_1 (R := (fun rv h' => ∃ (w' : Int) (gt' : List Int) (gd' : List Int) (xs' : List Int) (ys' : List Int) (r1' : List Int) (r2' : List Int), rv = [fI (an_be m what pl (if what = 0 then (mk_bp (mk_vb (fun x => mx_w cn go ch s x) pl ka pa fa kb pb fb 0) (m.toNat + 1) (pl - 1).toNat 0 0 0 1000001).1 else if what = 1 then (mk_bp (mk_vb (fun x => mx_w cn go ch s x) pl ka pa fa kb pb fb 0) (m.toNat + 1) (pl - 1).toNat 0 0 0 1000001).2.1 else (mk_bp (mk_vb (fun x => mx_w cn go ch s x) pl ka pa fa kb pb fb 0) (m.toNat + 1) (pl - 1).toNat 0 0 0 1000001).2.2))] ∧ cE h' 66 (.inr (10, [fI pl, .ref 67, .ref 68, .ref 69, fI ((s : Nat) : Int), .ref 70, .ref 71, fI (f 7), fI (f 8), .ref 72, fI (f 10), fI (f 11), fI (f 12), fJ (f 13), fI (f 14), fI (f 15), fI (f 16), fI (f 17), .ref 73, .ref 74, .ref 75, .ref 76, .ref 77, .ref 78, fI w', .ref 79, .ref 80, .ref 81, .ref 82, .ref 83, .ref 84, .ref 85, fJ (f 32), fJ (f 33), .ref 86, .ref 87, fI (f 36), .ref 88, .ref 89, .ref 90, .ref 91, .ref 92, .ref 93])) ∧ cE h' 77 (.inl (.int, fA gt')) ∧ gt'.length = 5 ∧ cE h' 78 (.inl (.int, fA gd')) ∧ gd'.length = 5 ∧ cE h' 79 (.inl (.long, fL xs')) ∧ xs'.length = 12 ∧ cE h' 80 (.inl (.long, fL ys')) ∧ ys'.length = 12 ∧ cE h' 81 (.inl (.long, fL r1')) ∧ r1'.length = 201 ∧ cE h' 82 (.inl (.long, fL r2')) ∧ r2'.length = 201 ∧ cE h' 70 (.inl (.int, fA [ka, pa, fa, kb, pb, fb])) ∧ hfr [66, 77, 78, 79, 80, 81, 82, 70] h h')) (fun h_287 i2_287 mm_287 x_287 y_287 z_287 b_287 l_287 x10_287 x11_287 g_287_66 g_287_67 m_287_67 g_287_68 m_287_68 g_287_69 m_287_69 g_287_77 m_287_77 g_287_78 m_287_78 g_287_79 m_287_79 g_287_80 m_287_80 g_287_70 g_287_81 m_287_81 g_287_82 m_287_82 k_287 fr_287 hr_287 hX_287 v10_287 v11_287 => ?_) (m.toNat + 2) 0 mm x y z b l x10 x11 h_286 g_286_66 g_286_67 n67 g_286_68 n68 g_286_69 n69 g_286_77 m_286_77 g_286_78 m_286_78 g_286_79 m_286_79 g_286_80 m_286_80 g_286_70 g_286_81 m_286_81 g_286_82 m_286_82 k_286 fr_286 (by omega) (by omega) (by rw [show (m + 1 - 0).toNat = m.toNat + 1 by omega]) v10 v11 (by omega)
      refine fw_inc (a := p) (loc' := [some (.ref 66), some (fI 0), some (fI m), some (fI what), some (fI pa), some (fI fa), some (fI b_287), some (fI l_287), some (fI (p + 1)), some (fI i2_287), x10_287, x11_287]) rfl rfl (Nat.le_of_ble_eq_true rfl) rfl ?_
      refine ik_Wk 1 (pc' := 80) (loc' := [some (.ref 66), some (fI 0), some (fI m), some (fI what), some (fI pa), some (fI fa), some (fI b_287), some (fI l_287), some (fI (p + 1)), some (fI i2_287), x10_287, x11_287]) (st' := []) (h' := h_287) (cl' := 0) (sl' := 0) rfl ?_
      exact ih  (p + 1) p mm_287 x_287 y_287 z_287 b_287 l_287 w'_286 gt'_286 gd'_286 xs'_286 ys'_286 r1'_286 r2'_286 (some (fI i2_287)) x10_287 x11_287 h_287 g_287_66 g_287_67 m_287_67 g_287_68 m_287_68 g_287_69 m_287_69 g_287_77 m_287_77 g_287_78 m_287_78 g_287_79 m_287_79 g_287_80 m_287_80 g_287_70 g_287_81 m_287_81 g_287_82 m_287_82 k_287 fr_287 (by omega) (Or.inr hr_287) (by rw [he, show (pl - 1 - p).toNat = (pl - 1 - (p + 1)).toNat + 1 by omega]; show mk_bp (mk_vb (fun x => mx_w cn go ch s x) pl ka pa fa kb pb fb 0) (m.toNat + 1) _ (p + 1) _ _ _ = _; rw [hX_287]) rfl v10_287 v11_287 (by omega)

theorem rp_best0 {h : List ik_E} {pl : Int} {f : Nat → Int} {s : Nat} {cn : List Int} {go : List Int} {ch : List Int} {gt : List Int} {gd : List Int} {xs : List Int} {ys : List Int} {ka : Int} {pa : Int} {fa : Int} {kb : Int} {pb : Int} {fb : Int} {r1 : List Int} {r2 : List Int} {m : Int} {what : Int} (q0 : 0 ≤ pl ∧ pl ≤ 12) (q1 : s < 4096) (q2 : ∀ x : Int, 0 ≤ x → x < pl - 1 → 0 ≤ cn.getD x.toNat 0 ∧ cn.getD x.toNat 0 ≤ 4) (q3 : ∀ x : Int, 0 ≤ x → x < pl - 1 → 1 ≤ cn.getD x.toNat 0 ∧ ∀ j : Int, 4 * x ≤ j → j < 4 * x + cn.getD x.toNat 0 → 0 ≤ ch.getD j.toNat 0 ∧ ch.getD j.toNat 0 ≤ 100) (q4 : ∀ x : Int, 0 ≤ x → x < pl - 1 → mx_ok pl (mx_w cn go ch s x)) (q5 : 0 ≤ ka ∧ ka ≤ 2) (q6 : 0 ≤ kb ∧ kb ≤ 2) (q7 : 1 < pl → 0 ≤ pa ∧ pa < pl - 1) (q8 : 1 < pl → 0 ≤ pb ∧ pb < pl - 1) (q9 : 0 ≤ fa ∧ fa ≤ 30) (q10 : 0 ≤ fb ∧ fb ≤ 30) (q11 : -2147483648 ≤ m ∧ m < 2147483648) (q12 : -2147483648 ≤ what ∧ what < 2147483648) (h66 : cE h 66 (.inr (10, [fI pl, .ref 67, .ref 68, .ref 69, fI ((s : Nat) : Int), .ref 70, .ref 71, fI (f 7), fI (f 8), .ref 72, fI (f 10), fI (f 11), fI (f 12), fJ (f 13), fI (f 14), fI (f 15), fI (f 16), fI (f 17), .ref 73, .ref 74, .ref 75, .ref 76, .ref 77, .ref 78, fI (f 24), .ref 79, .ref 80, .ref 81, .ref 82, .ref 83, .ref 84, .ref 85, fJ (f 32), fJ (f 33), .ref 86, .ref 87, fI (f 36), .ref 88, .ref 89, .ref 90, .ref 91, .ref 92, .ref 93]))) (h67 : cE h 67 (.inl (.int, fA cn))) (n67 : cn.length = 12) (h68 : cE h 68 (.inl (.int, fA go))) (n68 : go.length = 48) (h69 : cE h 69 (.inl (.int, fA ch))) (n69 : ch.length = 48) (h77 : cE h 77 (.inl (.int, fA gt))) (n77 : gt.length = 5) (h78 : cE h 78 (.inl (.int, fA gd))) (n78 : gd.length = 5) (h79 : cE h 79 (.inl (.long, fL xs))) (n79 : xs.length = 12) (h80 : cE h 80 (.inl (.long, fL ys))) (n80 : ys.length = 12) (h70 : cE h 70 (.inl (.int, fA [ka, pa, fa, kb, pb, fb]))) (h81 : cE h 81 (.inl (.long, fL r1))) (n81 : r1.length = 201) (h82 : cE h 82 (.inl (.long, fL r2))) (n82 : r2.length = 201) (hl : h.length = 94) : ik_F 171 [.ref 66, fI 0, fI m, fI what] h (fun rv h' => ∃ (w' : Int) (gt' : List Int) (gd' : List Int) (xs' : List Int) (ys' : List Int) (r1' : List Int) (r2' : List Int), rv = [fI (an_be m what pl (if what = 0 then (mk_bp (mk_vb (fun x => mx_w cn go ch s x) pl ka pa fa kb pb fb 0) (m.toNat + 1) (pl - 1).toNat 0 0 0 1000001).1 else if what = 1 then (mk_bp (mk_vb (fun x => mx_w cn go ch s x) pl ka pa fa kb pb fb 0) (m.toNat + 1) (pl - 1).toNat 0 0 0 1000001).2.1 else (mk_bp (mk_vb (fun x => mx_w cn go ch s x) pl ka pa fa kb pb fb 0) (m.toNat + 1) (pl - 1).toNat 0 0 0 1000001).2.2))] ∧ cE h' 66 (.inr (10, [fI pl, .ref 67, .ref 68, .ref 69, fI ((s : Nat) : Int), .ref 70, .ref 71, fI (f 7), fI (f 8), .ref 72, fI (f 10), fI (f 11), fI (f 12), fJ (f 13), fI (f 14), fI (f 15), fI (f 16), fI (f 17), .ref 73, .ref 74, .ref 75, .ref 76, .ref 77, .ref 78, fI w', .ref 79, .ref 80, .ref 81, .ref 82, .ref 83, .ref 84, .ref 85, fJ (f 32), fJ (f 33), .ref 86, .ref 87, fI (f 36), .ref 88, .ref 89, .ref 90, .ref 91, .ref 92, .ref 93])) ∧ cE h' 77 (.inl (.int, fA gt')) ∧ gt'.length = 5 ∧ cE h' 78 (.inl (.int, fA gd')) ∧ gd'.length = 5 ∧ cE h' 79 (.inl (.long, fL xs')) ∧ xs'.length = 12 ∧ cE h' 80 (.inl (.long, fL ys')) ∧ ys'.length = 12 ∧ cE h' 81 (.inl (.long, fL r1')) ∧ r1'.length = 201 ∧ cE h' 82 (.inl (.long, fL r2')) ∧ r2'.length = 201 ∧ cE h' 70 (.inl (.int, fA [ka, pa, fa, kb, pb, fb])) ∧ hfr [66, 77, 78, 79, 80, 81, 82, 70] h h') := by
  refine ik_Wk 1 (pc' := 1) (loc' := [some (.ref 66), some (fI 0), some (fI m), some (fI what), none, none, none, none, none, none, none, none]) (st' := [fI 0]) (h' := h) (cl' := 0) (sl' := 0) rfl ?_
  refine ik_Wc 132 1 3 [fI 0] [] rfl rfl rfl (by decide) rfl rfl (fw_sta hl rfl (by decide)) ?_
  refine ik_Wk 0 (pc' := 0) (loc' := [some (fI 0)]) (st' := []) (h' := h) (cl' := 0) (sl' := 0) rfl ?_
  refine ik_Wk 1 (pc' := 1) (loc' := [some (fI 0)]) (st' := [fI 0]) (h' := h) (cl' := 0) (sl' := 0) rfl ?_
  refine fw_i2l rfl (by omega) (by omega) ?_
  refine fw_lc (z := 0) rfl (by decide) ?_
  refine fw_lc (z := 1) rfl (by decide) ?_
  refine fw_call 127 3 3 [fJ 0, fJ 0, fJ 1] [] rfl rfl rfl (by decide) rfl rfl (fw_sta hl rfl (by decide)) (cr_in (v := 0) (a := 0) (b := 1) (by omega) (by omega) (by omega)  hl) ?_
  rintro _ h_288 (⟨rfl, p_288_0, F_288⟩ | ⟨rfl, p_288_0, F_288⟩)
  · have k_288 := F_288.1.trans hl
    have fr_288 := hfr_c (hfr_refl [66, 77, 78, 79, 80, 81, 82, 70] h) F_288 (by decide)
    have g_288_66 := (F_288.2 66 (by decide +kernel)).trans h66
    have g_288_67 := (F_288.2 67 (by decide +kernel)).trans h67
    have g_288_68 := (F_288.2 68 (by decide +kernel)).trans h68
    have g_288_69 := (F_288.2 69 (by decide +kernel)).trans h69
    have g_288_77 := (F_288.2 77 (by decide +kernel)).trans h77
    have g_288_78 := (F_288.2 78 (by decide +kernel)).trans h78
    have g_288_79 := (F_288.2 79 (by decide +kernel)).trans h79
    have g_288_80 := (F_288.2 80 (by decide +kernel)).trans h80
    have g_288_70 := (F_288.2 70 (by decide +kernel)).trans h70
    have g_288_81 := (F_288.2 81 (by decide +kernel)).trans h81
    have g_288_82 := (F_288.2 82 (by decide +kernel)).trans h82
    refine ik_Wk 0 (pc' := 7) (loc' := [some (fI 0)]) (st' := [fI 1]) (h' := h_288) (cl' := 0) (sl' := 0) rfl ?_
    refine ik_Wret rfl rfl ⟨_, _, rfl, rfl, ?_⟩
    refine ik_Wk 0 (pc' := 4) (loc' := [some (.ref 66), some (fI 0), some (fI m), some (fI what), none, none, none, none, none, none, none, none]) (st' := [fI 1]) (h' := h_288) (cl' := 0) (sl' := 0) rfl ?_
    refine fw_if_ne rfl rfl (by omega) (by omega) (fun hc1 => absurd hc1 (by omega)) (fun hc1 => ?_)
    refine ik_Wk 1 (pc' := 11) (loc' := [some (.ref 66), some (fI 0), some (fI m), some (fI what), none, none, none, none, none, none, none, none]) (st' := [fI m]) (h' := h_288) (cl' := 0) (sl' := 0) rfl ?_
    refine fw_i2l rfl (by omega) (by omega) ?_
    refine fw_lc (z := 0) rfl (by decide) ?_
    refine fw_l2 10 rfl rfl (by decide) ?_
    refine fw_call 127 3 3 [fJ m, fJ 0, fJ 10] [] rfl rfl rfl (by decide) rfl rfl (fw_sta k_288 rfl (by decide)) (cr_in (v := m) (a := 0) (b := 10) (by omega) (by omega) (by omega)  k_288) ?_
    rintro _ h_289 (⟨rfl, p_289_0, F_289⟩ | ⟨rfl, p_289_0, F_289⟩)
    · have k_289 := F_289.1.trans k_288
      have fr_289 := hfr_c fr_288 F_289 (by decide)
      have g_289_66 := (F_289.2 66 (by decide +kernel)).trans g_288_66
      have g_289_67 := (F_289.2 67 (by decide +kernel)).trans g_288_67
      have g_289_68 := (F_289.2 68 (by decide +kernel)).trans g_288_68
      have g_289_69 := (F_289.2 69 (by decide +kernel)).trans g_288_69
      have g_289_77 := (F_289.2 77 (by decide +kernel)).trans g_288_77
      have g_289_78 := (F_289.2 78 (by decide +kernel)).trans g_288_78
      have g_289_79 := (F_289.2 79 (by decide +kernel)).trans g_288_79
      have g_289_80 := (F_289.2 80 (by decide +kernel)).trans g_288_80
      have g_289_70 := (F_289.2 70 (by decide +kernel)).trans g_288_70
      have g_289_81 := (F_289.2 81 (by decide +kernel)).trans g_288_81
      have g_289_82 := (F_289.2 82 (by decide +kernel)).trans g_288_82
      refine ik_Wk 0 (pc' := 19) (loc' := [some (.ref 66), some (fI 0), some (fI m), some (fI what), none, none, none, none, none, none, none, none]) (st' := [fI 1]) (h' := h_289) (cl' := 0) (sl' := 0) rfl ?_
      refine fw_if_eq rfl rfl (by omega) (by omega) (fun hc2 => absurd hc2 (by omega)) (fun hc2 => ?_)
      refine ik_Wk 1 (pc' := 23) (loc' := [some (.ref 66), some (fI 0), some (fI m), some (fI what), none, none, none, none, none, none, none, none]) (st' := [fI what]) (h' := h_289) (cl' := 0) (sl' := 0) rfl ?_
      refine fw_i2l rfl (by omega) (by omega) ?_
      refine fw_lc (z := 0) rfl (by decide) ?_
      refine fw_l2 2 rfl rfl (by decide) ?_
      refine fw_call 127 3 3 [fJ what, fJ 0, fJ 2] [] rfl rfl rfl (by decide) rfl rfl (fw_sta k_289 rfl (by decide)) (cr_in (v := what) (a := 0) (b := 2) (by omega) (by omega) (by omega)  k_289) ?_
      rintro _ h_290 (⟨rfl, p_290_0, F_290⟩ | ⟨rfl, p_290_0, F_290⟩)
      · have k_290 := F_290.1.trans k_289
        have fr_290 := hfr_c fr_289 F_290 (by decide)
        have g_290_66 := (F_290.2 66 (by decide +kernel)).trans g_289_66
        have g_290_67 := (F_290.2 67 (by decide +kernel)).trans g_289_67
        have g_290_68 := (F_290.2 68 (by decide +kernel)).trans g_289_68
        have g_290_69 := (F_290.2 69 (by decide +kernel)).trans g_289_69
        have g_290_77 := (F_290.2 77 (by decide +kernel)).trans g_289_77
        have g_290_78 := (F_290.2 78 (by decide +kernel)).trans g_289_78
        have g_290_79 := (F_290.2 79 (by decide +kernel)).trans g_289_79
        have g_290_80 := (F_290.2 80 (by decide +kernel)).trans g_289_80
        have g_290_70 := (F_290.2 70 (by decide +kernel)).trans g_289_70
        have g_290_81 := (F_290.2 81 (by decide +kernel)).trans g_289_81
        have g_290_82 := (F_290.2 82 (by decide +kernel)).trans g_289_82
        refine ik_Wk 0 (pc' := 31) (loc' := [some (.ref 66), some (fI 0), some (fI m), some (fI what), none, none, none, none, none, none, none, none]) (st' := [fI 1]) (h' := h_290) (cl' := 0) (sl' := 0) rfl ?_
        refine fw_if_ne rfl rfl (by omega) (by omega) (fun hc3 => absurd hc3 (by omega)) (fun hc3 => ?_)
        refine ik_Wk 1 (pc' := 38) (loc' := [some (.ref 66), some (fI 0), some (fI m), some (fI what), none, none, none, none, none, none, none, none]) (st' := [.ref 66]) (h' := h_290) (cl' := 0) (sl' := 0) rfl ?_
        refine ik_Wc 134 1 0 [.ref 66] [] rfl rfl rfl (by decide) rfl rfl (fw_rec k_290 rfl g_290_66 rfl (by decide)) ?_
        refine ik_Wk 0 (pc' := 0) (loc' := [some (.ref 66)]) (st' := []) (h' := h_290) (cl' := 0) (sl' := 0) rfl ?_
        refine ik_Wk 1 (pc' := 1) (loc' := [some (.ref 66)]) (st' := [.ref 66]) (h' := h_290) (cl' := 0) (sl' := 0) rfl ?_
        refine fw_gf rfl rfl g_290_66 rfl ?_
        refine ik_Wk 1 (pc' := 5) (loc' := [some (.ref 66)]) (st' := [fI 1, fI pl]) (h' := h_290) (cl' := 0) (sl' := 0) rfl ?_
        refine fw_ic_le rfl rfl (by omega) (by omega) (by omega) (by omega) (fun hc4 => ?_) (fun hc4 => ?_)
        · refine ik_Wk 1 (pc' := 13) (loc' := [some (.ref 66)]) (st' := [fI 0]) (h' := h_290) (cl' := 0) (sl' := 0) rfl ?_
          refine ik_Wret rfl rfl ⟨_, _, rfl, rfl, ?_⟩
          refine ik_Wk 0 (pc' := 41) (loc' := [some (.ref 66), some (fI 0), some (fI m), some (fI what), none, none, none, none, none, none, none, none]) (st' := [fI 0]) (h' := h_290) (cl' := 0) (sl' := 0) rfl ?_
          refine fw_if_ne rfl rfl (by omega) (by omega) (fun hc5 => ?_) (fun hc5 => absurd hc5 (by omega))
          refine fw_ld (-1000000003) rfl rfl (by decide) ?_
          exact ik_Wret rfl rfl ⟨_, _, rfl, rfl, rfl, rfl, ⟨(f 24), gt, gd, xs, ys, r1, r2, (congrArg (fun z => [fI z]) (by unfold an_be; (repeat' split) <;> first | rfl | omega)), g_290_66, g_290_77, n77, g_290_78, n78, g_290_79, n79, g_290_80, n80, g_290_81, n81, g_290_82, n82, g_290_70, fr_290⟩⟩
        · refine ik_Wk 2 (pc' := 13) (loc' := [some (.ref 66)]) (st' := [fI 1]) (h' := h_290) (cl' := 0) (sl' := 0) rfl ?_
          refine ik_Wret rfl rfl ⟨_, _, rfl, rfl, ?_⟩
          refine ik_Wk 0 (pc' := 41) (loc' := [some (.ref 66), some (fI 0), some (fI m), some (fI what), none, none, none, none, none, none, none, none]) (st' := [fI 1]) (h' := h_290) (cl' := 0) (sl' := 0) rfl ?_
          refine fw_if_ne rfl rfl (by omega) (by omega) (fun hc6 => absurd hc6 (by omega)) (fun hc6 => ?_)
          refine ik_Wk 1 (pc' := 48) (loc' := [some (.ref 66), some (fI 0), some (fI m), some (fI what), none, none, none, none, none, none, none, none]) (st' := [.ref 66]) (h' := h_290) (cl' := 0) (sl' := 0) rfl ?_
          refine fw_gf rfl rfl g_290_66 rfl ?_
          refine ik_Wk 2 (pc' := 53) (loc' := [some (.ref 66), some (fI 0), some (fI m), some (fI what), none, none, none, none, none, none, none, none]) (st' := [fI 0, fI 3, .ref 70]) (h' := h_290) (cl' := 0) (sl' := 0) rfl ?_
          refine fw_mul rfl ?_
          refine ik_Wk 1 (pc' := 55) (loc' := [some (.ref 66), some (fI 0), some (fI m), some (fI what), none, none, none, none, none, none, none, none]) (st' := [fI 1, fI 0, .ref 70]) (h' := h_290) (cl' := 0) (sl' := 0) rfl ?_
          refine fw_add rfl ?_
          refine fw_ial (z := 1) rfl g_290_70 (by decide) (Nat.le_of_ble_eq_true rfl) (by decide) ?_
          refine ik_Wk 0 (pc' := 57) (loc' := [some (.ref 66), some (fI 0), some (fI m), some (fI what), none, none, none, none, none, none, none, none]) (st' := [fI pa]) (h' := h_290) (cl' := 0) (sl' := 0) rfl ?_
          refine ik_Wk 2 (pc' := 60) (loc' := [some (.ref 66), some (fI 0), some (fI m), some (fI what), some (fI pa), none, none, none, none, none, none, none]) (st' := [.ref 66]) (h' := h_290) (cl' := 0) (sl' := 0) rfl ?_
          refine fw_gf rfl rfl g_290_66 rfl ?_
          refine ik_Wk 2 (pc' := 65) (loc' := [some (.ref 66), some (fI 0), some (fI m), some (fI what), some (fI pa), none, none, none, none, none, none, none]) (st' := [fI 0, fI 3, .ref 70]) (h' := h_290) (cl' := 0) (sl' := 0) rfl ?_
          refine fw_mul rfl ?_
          refine ik_Wk 1 (pc' := 67) (loc' := [some (.ref 66), some (fI 0), some (fI m), some (fI what), some (fI pa), none, none, none, none, none, none, none]) (st' := [fI 2, fI 0, .ref 70]) (h' := h_290) (cl' := 0) (sl' := 0) rfl ?_
          refine fw_add rfl ?_
          refine fw_ial (z := 2) rfl g_290_70 (by decide) (Nat.le_of_ble_eq_true rfl) (by decide) ?_
          refine ik_Wk 0 (pc' := 69) (loc' := [some (.ref 66), some (fI 0), some (fI m), some (fI what), some (fI pa), none, none, none, none, none, none, none]) (st' := [fI fa]) (h' := h_290) (cl' := 0) (sl' := 0) rfl ?_
          refine ik_Wk 7 (pc' := 80) (loc' := [some (.ref 66), some (fI 0), some (fI m), some (fI what), some (fI pa), some (fI fa), some (fI (-1)), some (fI 0), some (fI 0), none, none, none]) (st' := []) (h' := h_290) (cl' := 0) (sl' := 0) rfl ?_
          exact rp_best0L (pl := pl) (f := f) (s := s) (cn := cn) (go := go) (ch := ch) (gt := gt) (gd := gd) (xs := xs) (ys := ys) (ka := ka) (pa := pa) (fa := fa) (kb := kb) (pb := pb) (fb := fb) (r1 := r1) (r2 := r2) (m := m) (what := what) q0 q1 q2 q3 q4 q5 q6 q7 q8 q9 q10 q11 q12 (by omega) (by omega) (by omega) (pl.toNat + 1) 0 pa fa 0 0 1000001 (-1) 0 (f 24) gt gd xs ys r1 r2 none none none h_290 g_290_66 g_290_67 n67 g_290_68 n68 g_290_69 n69 g_290_77 n77 g_290_78 n78 g_290_79 n79 g_290_80 n80 g_290_70 g_290_81 n81 g_290_82 n82 k_290 fr_290 (by omega) (by omega) (by rw [Int.sub_zero]) rfl rfl rfl (by omega)
      · have k_290 := F_290.1.trans k_289
        have fr_290 := hfr_c fr_289 F_290 (by decide)
        have g_290_66 := (F_290.2 66 (by decide +kernel)).trans g_289_66
        have g_290_67 := (F_290.2 67 (by decide +kernel)).trans g_289_67
        have g_290_68 := (F_290.2 68 (by decide +kernel)).trans g_289_68
        have g_290_69 := (F_290.2 69 (by decide +kernel)).trans g_289_69
        have g_290_77 := (F_290.2 77 (by decide +kernel)).trans g_289_77
        have g_290_78 := (F_290.2 78 (by decide +kernel)).trans g_289_78
        have g_290_79 := (F_290.2 79 (by decide +kernel)).trans g_289_79
        have g_290_80 := (F_290.2 80 (by decide +kernel)).trans g_289_80
        have g_290_70 := (F_290.2 70 (by decide +kernel)).trans g_289_70
        have g_290_81 := (F_290.2 81 (by decide +kernel)).trans g_289_81
        have g_290_82 := (F_290.2 82 (by decide +kernel)).trans g_289_82
        refine ik_Wk 0 (pc' := 31) (loc' := [some (.ref 66), some (fI 0), some (fI m), some (fI what), none, none, none, none, none, none, none, none]) (st' := [fI 0]) (h' := h_290) (cl' := 0) (sl' := 0) rfl ?_
        refine fw_if_ne rfl rfl (by omega) (by omega) (fun hc7 => ?_) (fun hc7 => absurd hc7 (by omega))
        refine fw_ld (-1000000002) rfl rfl (by decide) ?_
        exact ik_Wret rfl rfl ⟨_, _, rfl, rfl, rfl, rfl, ⟨(f 24), gt, gd, xs, ys, r1, r2, (congrArg (fun z => [fI z]) (by unfold an_be; (repeat' split) <;> first | rfl | omega)), g_290_66, g_290_77, n77, g_290_78, n78, g_290_79, n79, g_290_80, n80, g_290_81, n81, g_290_82, n82, g_290_70, fr_290⟩⟩
    · have k_289 := F_289.1.trans k_288
      have fr_289 := hfr_c fr_288 F_289 (by decide)
      have g_289_66 := (F_289.2 66 (by decide +kernel)).trans g_288_66
      have g_289_67 := (F_289.2 67 (by decide +kernel)).trans g_288_67
      have g_289_68 := (F_289.2 68 (by decide +kernel)).trans g_288_68
      have g_289_69 := (F_289.2 69 (by decide +kernel)).trans g_288_69
      have g_289_77 := (F_289.2 77 (by decide +kernel)).trans g_288_77
      have g_289_78 := (F_289.2 78 (by decide +kernel)).trans g_288_78
      have g_289_79 := (F_289.2 79 (by decide +kernel)).trans g_288_79
      have g_289_80 := (F_289.2 80 (by decide +kernel)).trans g_288_80
      have g_289_70 := (F_289.2 70 (by decide +kernel)).trans g_288_70
      have g_289_81 := (F_289.2 81 (by decide +kernel)).trans g_288_81
      have g_289_82 := (F_289.2 82 (by decide +kernel)).trans g_288_82
      refine ik_Wk 0 (pc' := 19) (loc' := [some (.ref 66), some (fI 0), some (fI m), some (fI what), none, none, none, none, none, none, none, none]) (st' := [fI 0]) (h' := h_289) (cl' := 0) (sl' := 0) rfl ?_
      refine fw_if_eq rfl rfl (by omega) (by omega) (fun hc8 => ?_) (fun hc8 => absurd hc8 (by omega))
      refine fw_ld (-1000000002) rfl rfl (by decide) ?_
      exact ik_Wret rfl rfl ⟨_, _, rfl, rfl, rfl, rfl, ⟨(f 24), gt, gd, xs, ys, r1, r2, (congrArg (fun z => [fI z]) (by unfold an_be; (repeat' split) <;> first | rfl | omega)), g_289_66, g_289_77, n77, g_289_78, n78, g_289_79, n79, g_289_80, n80, g_289_81, n81, g_289_82, n82, g_289_70, fr_289⟩⟩
  · have k_288 := F_288.1.trans hl
    have fr_288 := hfr_c (hfr_refl [66, 77, 78, 79, 80, 81, 82, 70] h) F_288 (by decide)
    have g_288_66 := (F_288.2 66 (by decide +kernel)).trans h66
    have g_288_67 := (F_288.2 67 (by decide +kernel)).trans h67
    have g_288_68 := (F_288.2 68 (by decide +kernel)).trans h68
    have g_288_69 := (F_288.2 69 (by decide +kernel)).trans h69
    have g_288_77 := (F_288.2 77 (by decide +kernel)).trans h77
    have g_288_78 := (F_288.2 78 (by decide +kernel)).trans h78
    have g_288_79 := (F_288.2 79 (by decide +kernel)).trans h79
    have g_288_80 := (F_288.2 80 (by decide +kernel)).trans h80
    have g_288_70 := (F_288.2 70 (by decide +kernel)).trans h70
    have g_288_81 := (F_288.2 81 (by decide +kernel)).trans h81
    have g_288_82 := (F_288.2 82 (by decide +kernel)).trans h82
    refine ik_Wk 0 (pc' := 7) (loc' := [some (fI 0)]) (st' := [fI 0]) (h' := h_288) (cl' := 0) (sl' := 0) rfl ?_
    refine ik_Wret rfl rfl ⟨_, _, rfl, rfl, ?_⟩
    refine ik_Wk 0 (pc' := 4) (loc' := [some (.ref 66), some (fI 0), some (fI m), some (fI what), none, none, none, none, none, none, none, none]) (st' := [fI 0]) (h' := h_288) (cl' := 0) (sl' := 0) rfl ?_
    refine fw_if_ne rfl rfl (by omega) (by omega) (fun hc9 => ?_) (fun hc9 => absurd hc9 (by omega))
    refine fw_ld (-1000000001) rfl rfl (by decide) ?_
    exact ik_Wret rfl rfl ⟨_, _, rfl, rfl, rfl, rfl, ⟨(f 24), gt, gd, xs, ys, r1, r2, (congrArg (fun z => [fI z]) (by unfold an_be; (repeat' split) <;> first | rfl | omega)), g_288_66, g_288_77, n77, g_288_78, n78, g_288_79, n79, g_288_80, n80, g_288_81, n81, g_288_82, n82, g_288_70, fr_288⟩⟩

theorem rp_best1I {h : List ik_E} {pl : Int} {f : Nat → Int} {s : Nat} {cn : List Int} {go : List Int} {ch : List Int} {gt : List Int} {gd : List Int} {xs : List Int} {ys : List Int} {ka : Int} {pa : Int} {fa : Int} {kb : Int} {pb : Int} {fb : Int} {r1 : List Int} {r2 : List Int} {m : Int} {what : Int} (q0 : 0 ≤ pl ∧ pl ≤ 12) (q1 : s < 4096) (q2 : ∀ x : Int, 0 ≤ x → x < pl - 1 → 0 ≤ cn.getD x.toNat 0 ∧ cn.getD x.toNat 0 ≤ 4) (q3 : ∀ x : Int, 0 ≤ x → x < pl - 1 → 1 ≤ cn.getD x.toNat 0 ∧ ∀ j : Int, 4 * x ≤ j → j < 4 * x + cn.getD x.toNat 0 → 0 ≤ ch.getD j.toNat 0 ∧ ch.getD j.toNat 0 ≤ 100) (q4 : ∀ x : Int, 0 ≤ x → x < pl - 1 → mx_ok pl (mx_w cn go ch s x)) (q5 : 0 ≤ ka ∧ ka ≤ 2) (q6 : 0 ≤ kb ∧ kb ≤ 2) (q7 : 1 < pl → 0 ≤ pa ∧ pa < pl - 1) (q8 : 1 < pl → 0 ≤ pb ∧ pb < pl - 1) (q9 : 0 ≤ fa ∧ fa ≤ 30) (q10 : 0 ≤ fb ∧ fb ≤ 30) (q11 : -2147483648 ≤ m ∧ m < 2147483648) (q12 : -2147483648 ≤ what ∧ what < 2147483648) (hm : 0 ≤ m ∧ m ≤ 10) (p : Int) (hp : 0 ≤ p ∧ p < pl - 1) (X : Int × Int × Int) (w1 : Int) (g1 : List Int) (d1 : List Int) (x1 : List Int) (y1 : List Int) (s1 : List Int) (s2 : List Int) (hr1 : ∀ j : Nat, j ≤ 200 → s1.getD j 0 = (mf_cm (fun x => mx_w cn go ch s x) (pl - 1) ka pa) j) (hr2 : ∀ j : Nat, j ≤ 200 → s2.getD j 0 = (mf_cm (fun x => mx_w cn go ch s x) (pl - 1) kb p) j) {R : List Value → List ik_E → Prop} (K : ∀ (w : List ik_E) (i2 : Int) (mm : Int) (x : Int) (y : Int) (z : Int) (b : Int) (l : Int) (x10 : Option Value) (x11 : Option Value) (w66 : cE w 66 (.inr (10, [fI pl, .ref 67, .ref 68, .ref 69, fI ((s : Nat) : Int), .ref 70, .ref 71, fI (f 7), fI (f 8), .ref 72, fI (f 10), fI (f 11), fI (f 12), fJ (f 13), fI (f 14), fI (f 15), fI (f 16), fI (f 17), .ref 73, .ref 74, .ref 75, .ref 76, .ref 77, .ref 78, fI w1, .ref 79, .ref 80, .ref 81, .ref 82, .ref 83, .ref 84, .ref 85, fJ (f 32), fJ (f 33), .ref 86, .ref 87, fI (f 36), .ref 88, .ref 89, .ref 90, .ref 91, .ref 92, .ref 93]))) (w67 : cE w 67 (.inl (.int, fA cn))) (nw_67 : cn.length = 12) (w68 : cE w 68 (.inl (.int, fA go))) (nw_68 : go.length = 48) (w69 : cE w 69 (.inl (.int, fA ch))) (nw_69 : ch.length = 48) (w77 : cE w 77 (.inl (.int, fA g1))) (nw_77 : g1.length = 5) (w78 : cE w 78 (.inl (.int, fA d1))) (nw_78 : d1.length = 5) (w79 : cE w 79 (.inl (.long, fL x1))) (nw_79 : x1.length = 12) (w80 : cE w 80 (.inl (.long, fL y1))) (nw_80 : y1.length = 12) (w70 : cE w 70 (.inl (.int, fA [ka, pa, fa, kb, p, mm]))) (w81 : cE w 81 (.inl (.long, fL s1))) (nw_81 : s1.length = 201) (w82 : cE w 82 (.inl (.long, fL s2))) (nw_82 : s2.length = 201) (wl : w.length = 94) (F : hfr [66, 77, 78, 79, 80, 81, 82, 70] h w) (hr : b = 100 * x + y ∧ l = z ∧ 0 ≤ x ∧ x < 12 ∧ 0 ≤ y ∧ y ≤ 10 ∧ 0 ≤ z ∧ z ≤ 1000000) (hX : X = (x, y, z)) (v10 : ik_wl 94 x10 = true) (v11 : ik_wl 94 x11 = true), ik_G 171 194 [some (.ref 66), some (fI 1), some (fI m), some (fI what), some (fI pb), some (fI fb), some (fI b), some (fI l), some (fI p), some (fI i2), x10, x11] [] w R) : ∀ (k : Nat) (i : Int) (mm : Int) (x : Int) (y : Int) (z : Int) (b : Int) (l : Int) (x10 : Option Value) (x11 : Option Value) (u : List ik_E) (u66 : cE u 66 (.inr (10, [fI pl, .ref 67, .ref 68, .ref 69, fI ((s : Nat) : Int), .ref 70, .ref 71, fI (f 7), fI (f 8), .ref 72, fI (f 10), fI (f 11), fI (f 12), fJ (f 13), fI (f 14), fI (f 15), fI (f 16), fI (f 17), .ref 73, .ref 74, .ref 75, .ref 76, .ref 77, .ref 78, fI w1, .ref 79, .ref 80, .ref 81, .ref 82, .ref 83, .ref 84, .ref 85, fJ (f 32), fJ (f 33), .ref 86, .ref 87, fI (f 36), .ref 88, .ref 89, .ref 90, .ref 91, .ref 92, .ref 93]))) (u67 : cE u 67 (.inl (.int, fA cn))) (n67 : cn.length = 12) (u68 : cE u 68 (.inl (.int, fA go))) (n68 : go.length = 48) (u69 : cE u 69 (.inl (.int, fA ch))) (n69 : ch.length = 48) (u77 : cE u 77 (.inl (.int, fA g1))) (n77 : g1.length = 5) (u78 : cE u 78 (.inl (.int, fA d1))) (n78 : d1.length = 5) (u79 : cE u 79 (.inl (.long, fL x1))) (n79 : x1.length = 12) (u80 : cE u 80 (.inl (.long, fL y1))) (n80 : y1.length = 12) (u70 : cE u 70 (.inl (.int, fA [ka, pa, fa, kb, p, mm]))) (u81 : cE u 81 (.inl (.long, fL s1))) (n81 : s1.length = 201) (u82 : cE u 82 (.inl (.long, fL s2))) (n82 : s2.length = 201) (ul : u.length = 94) (F : hfr [66, 77, 78, 79, 80, 81, 82, 70] h u) (hi : 0 ≤ i ∧ i ≤ m + 1) (hr : ((-1 ≤ b ∧ b < 0) ∧ p = 0 ∧ i = 0 ∧ x = 0 ∧ y = 0 ∧ z = 1000001) ∨ (b = 100 * x + y ∧ l = z ∧ 0 ≤ x ∧ x < 12 ∧ 0 ≤ y ∧ y ≤ 10 ∧ 0 ≤ z ∧ z ≤ 1000000)) (he : X = (mk_bk (mk_vb (fun x => mx_w cn go ch s x) pl ka pa fa kb pb fb 1) p (m + 1 - i).toNat i x y z)) (v10 : ik_wl 94 x10 = true) (v11 : ik_wl 94 x11 = true) (hk : m + 1 - i < (k : Int)), ik_G 171 110 [some (.ref 66), some (fI 1), some (fI m), some (fI what), some (fI pb), some (fI fb), some (fI b), some (fI l), some (fI p), some (fI i), x10, x11] [] u R := by
  intro k
  induction k with
  | zero => intro i mm x y z b l x10 x11 u u66 u67 n67 u68 n68 u69 n69 u77 n77 u78 n78 u79 n79 u80 n80 u70 u81 n81 u82 n82 ul F hi hr he v10 v11 hk; omega
  | succ k ih =>
    intro i mm x y z b l x10 x11 u u66 u67 n67 u68 n68 u69 n69 u77 n77 u78 n78 u79 n79 u80 n80 u70 u81 n81 u82 n82 ul F hi hr he v10 v11 hk
    have k0 := mr_ok_cm (W := (fun x => mx_w cn go ch s x)) (k := ka) q4 (q7 (by omega))
    have k1 := mr_ok_cm (W := (fun x => mx_w cn go ch s x)) (k := kb) q4 hp
    refine ik_Wk 2 (pc' := 113) (loc' := [some (.ref 66), some (fI 1), some (fI m), some (fI what), some (fI pb), some (fI fb), some (fI b), some (fI l), some (fI p), some (fI i), x10, x11]) (st' := [fI m, fI i]) (h' := u) (cl' := 0) (sl' := 0) rfl ?_
    refine fw_ic_gt rfl rfl (by omega) (by omega) (by omega) (by omega) (fun hc1 => ?_) (fun hc1 => ?_)
    · rw [show (m + 1 - i).toNat = 0 by omega] at he
      exact K u i mm x y z b l x10 x11 u66 u67 n67 u68 n68 u69 n69 u77 n77 u78 n78 u79 n79 u80 n80 u70 u81 n81 u82 n82 ul F (by omega) he v10 v11
    · refine ik_Wk 1 (pc' := 117) (loc' := [some (.ref 66), some (fI 1), some (fI m), some (fI what), some (fI pb), some (fI fb), some (fI b), some (fI l), some (fI p), some (fI i), x10, x11]) (st' := [.ref 66]) (h' := u) (cl' := 0) (sl' := 0) rfl ?_
      refine fw_gf rfl rfl u66 rfl ?_
      refine ik_Wk 2 (pc' := 122) (loc' := [some (.ref 66), some (fI 1), some (fI m), some (fI what), some (fI pb), some (fI fb), some (fI b), some (fI l), some (fI p), some (fI i), x10, x11]) (st' := [fI 1, fI 3, .ref 70]) (h' := u) (cl' := 0) (sl' := 0) rfl ?_
      refine fw_mul rfl ?_
      refine ik_Wk 1 (pc' := 124) (loc' := [some (.ref 66), some (fI 1), some (fI m), some (fI what), some (fI pb), some (fI fb), some (fI b), some (fI l), some (fI p), some (fI i), x10, x11]) (st' := [fI 2, fI 3, .ref 70]) (h' := u) (cl' := 0) (sl' := 0) rfl ?_
      refine fw_add rfl ?_
      refine ik_Wk 1 (pc' := 127) (loc' := [some (.ref 66), some (fI 1), some (fI m), some (fI what), some (fI pb), some (fI fb), some (fI b), some (fI l), some (fI p), some (fI i), x10, x11]) (st' := [fI i, fI 5, .ref 70]) (h' := u) (cl' := 0) (sl' := 0) rfl ?_
      refine fx_ias (z := 5) rfl u70 (by decide) (Nat.le_of_ble_eq_true rfl) (by decide) ?_
      intro h_291 e_291 f_291 l_291
      have k_291 := l_291.trans ul
      have fr_291 := hfr_w F f_291 l_291 (by decide)
      have g_291_66 := (f_291 66 (by decide)).trans u66
      have g_291_67 := (f_291 67 (by decide)).trans u67
      have g_291_68 := (f_291 68 (by decide)).trans u68
      have g_291_69 := (f_291 69 (by decide)).trans u69
      have g_291_77 := (f_291 77 (by decide)).trans u77
      have g_291_78 := (f_291 78 (by decide)).trans u78
      have g_291_79 := (f_291 79 (by decide)).trans u79
      have g_291_80 := (f_291 80 (by decide)).trans u80
      have g_291_81 := (f_291 81 (by decide)).trans u81
      have g_291_82 := (f_291 82 (by decide)).trans u82
      have g_291_70 : cE h_291 70 (.inl (.int, fA [ka, pa, fa, kb, p, i])) := e_291
      refine ik_Wk 2 (pc' := 130) (loc' := [some (.ref 66), some (fI 1), some (fI m), some (fI what), some (fI pb), some (fI fb), some (fI b), some (fI l), some (fI p), some (fI i), x10, x11]) (st' := [fI 1, .ref 66]) (h' := h_291) (cl' := 0) (sl' := 0) rfl ?_
      refine fw_call 168 2 0 [.ref 66, fI 1] [] rfl rfl rfl (by decide) rfl rfl (fw_rec k_291 (fw_ftx rfl wv_n (wl_c rfl (wl_c rfl (wl_c rfl (wl_c rfl (wl_c rfl (wl_c rfl (wl_c rfl (wl_c rfl (wl_c rfl (wl_c rfl (wl_c v10 (wl_c v11 wl_n))))))))))))) g_291_66 rfl (by decide)) (cr_laterBy (f := fun j => ([pl, 0, 0, 0, ((s : Nat) : Int), 0, 0, f 7, f 8, 0, f 10, f 11, f 12, f 13, f 14, f 15, f 16, f 17, 0, 0, 0, 0, 0, 0, w1, 0, 0, 0, 0, 0, 0, 0, f 32, f 33, 0, 0, f 36, 0, 0, 0, 0, 0, 0] : List Int).getD j 0) (wh := 1) (ka := ka) (pa := pa) (fa := fa) (kb := kb) (pb := p) (fb := i) (r1 := s1) (r2 := s2) (c0 := (mf_cm (fun x => mx_w cn go ch s x) (pl - 1) ka pa)) (c1 := (mf_cm (fun x => mx_w cn go ch s x) (pl - 1) kb p)) (by omega) (by omega) (by omega) hr1 hr2 k0 k1 g_291_66 g_291_70 g_291_81 n81 g_291_82 n82 k_291) ?_
      rintro _ h_292 ⟨rfl, F_292⟩
      have k_292 := F_292.1.trans k_291
      have fr_292 := hfr_c fr_291 F_292 (by decide)
      have g_292_66 := (F_292.2 66 (by decide +kernel)).trans g_291_66
      have g_292_67 := (F_292.2 67 (by decide +kernel)).trans g_291_67
      have g_292_68 := (F_292.2 68 (by decide +kernel)).trans g_291_68
      have g_292_69 := (F_292.2 69 (by decide +kernel)).trans g_291_69
      have g_292_77 := (F_292.2 77 (by decide +kernel)).trans g_291_77
      have g_292_78 := (F_292.2 78 (by decide +kernel)).trans g_291_78
      have g_292_79 := (F_292.2 79 (by decide +kernel)).trans g_291_79
      have g_292_80 := (F_292.2 80 (by decide +kernel)).trans g_291_80
      have g_292_70 := (F_292.2 70 (by decide +kernel)).trans g_291_70
      have g_292_81 := (F_292.2 81 (by decide +kernel)).trans g_291_81
      have g_292_82 := (F_292.2 82 (by decide +kernel)).trans g_291_82
      refine ik_Wk 0 (pc' := 133) (loc' := [some (.ref 66), some (fI 1), some (fI m), some (fI what), some (fI pb), some (fI fb), some (fI b), some (fI l), some (fI p), some (fI i), x10, x11]) (st' := [fI (mr_w (mf_cm (fun x => mx_w cn go ch s x) (pl - 1) ka pa) fa (mf_cm (fun x => mx_w cn go ch s x) (pl - 1) kb p) i 1)]) (h' := h_292) (cl' := 0) (sl' := 0) rfl ?_
      have wb_292 := mr_w_b k0 k1 (show 0 ≤ fa by omega) (show 0 ≤ i by omega) 1
      have ev : (mk_vb (fun x => mx_w cn go ch s x) pl ka pa fa kb pb fb 1) p i = mr_w (mf_cm (fun x => mx_w cn go ch s x) (pl - 1) ka pa) fa (mf_cm (fun x => mx_w cn go ch s x) (pl - 1) kb p) i 1 := if_neg (by decide)
      refine ik_Wk 2 (pc' := 137) (loc' := [some (.ref 66), some (fI 1), some (fI m), some (fI what), some (fI pb), some (fI fb), some (fI b), some (fI l), some (fI p), some (fI i), some (fI (mr_w (mf_cm (fun x => mx_w cn go ch s x) (pl - 1) ka pa) fa (mf_cm (fun x => mx_w cn go ch s x) (pl - 1) kb p) i 1)), x11]) (st' := [fI b]) (h' := h_292) (cl' := 0) (sl' := 0) rfl ?_
      refine fw_if_lt rfl rfl (by omega) (by omega) (fun hc2 => ?_) (fun hc2 => ?_)
      · refine ik_Wk 4 (pc' := 156) (loc' := [some (.ref 66), some (fI 1), some (fI m), some (fI what), some (fI pb), some (fI fb), some (fI b), some (fI l), some (fI p), some (fI i), some (fI (mr_w (mf_cm (fun x => mx_w cn go ch s x) (pl - 1) ka pa) fa (mf_cm (fun x => mx_w cn go ch s x) (pl - 1) kb p) i 1)), some (fI 1)]) (st' := [fI 1]) (h' := h_292) (cl' := 0) (sl' := 0) rfl ?_
        refine fw_if_eq rfl rfl (by omega) (by omega) (fun hc3 => absurd hc3 (by omega)) (fun hc3 => ?_)
        refine fw_bi rfl (by decide) ?_
        refine ik_Wk 1 (pc' := 163) (loc' := [some (.ref 66), some (fI 1), some (fI m), some (fI what), some (fI pb), some (fI fb), some (fI b), some (fI l), some (fI p), some (fI i), some (fI (mr_w (mf_cm (fun x => mx_w cn go ch s x) (pl - 1) ka pa) fa (mf_cm (fun x => mx_w cn go ch s x) (pl - 1) kb p) i 1)), some (fI 1)]) (st' := [fI p, fI 100]) (h' := h_292) (cl' := 0) (sl' := 0) rfl ?_
        refine fw_mul rfl ?_
        refine ik_Wk 1 (pc' := 166) (loc' := [some (.ref 66), some (fI 1), some (fI m), some (fI what), some (fI pb), some (fI fb), some (fI b), some (fI l), some (fI p), some (fI i), some (fI (mr_w (mf_cm (fun x => mx_w cn go ch s x) (pl - 1) ka pa) fa (mf_cm (fun x => mx_w cn go ch s x) (pl - 1) kb p) i 1)), some (fI 1)]) (st' := [fI i, fI (100 * p)]) (h' := h_292) (cl' := 0) (sl' := 0) rfl ?_
        refine fw_add rfl ?_
        refine ik_Wk 3 (pc' := 176) (loc' := [some (.ref 66), some (fI 1), some (fI m), some (fI what), some (fI pb), some (fI fb), some (fI ((100 * p) + i)), some (fI l), some (fI p), some (fI i), some (fI (mr_w (mf_cm (fun x => mx_w cn go ch s x) (pl - 1) ka pa) fa (mf_cm (fun x => mx_w cn go ch s x) (pl - 1) kb p) i 1)), some (fI 1)]) (st' := [fI 1]) (h' := h_292) (cl' := 0) (sl' := 0) rfl ?_
        refine fw_if_eq rfl rfl (by omega) (by omega) (fun hc4 => absurd hc4 (by omega)) (fun hc4 => ?_)
        refine ik_Wk 3 (pc' := 188) (loc' := [some (.ref 66), some (fI 1), some (fI m), some (fI what), some (fI pb), some (fI fb), some (fI ((100 * p) + i)), some (fI (mr_w (mf_cm (fun x => mx_w cn go ch s x) (pl - 1) ka pa) fa (mf_cm (fun x => mx_w cn go ch s x) (pl - 1) kb p) i 1)), some (fI p), some (fI i), some (fI (mr_w (mf_cm (fun x => mx_w cn go ch s x) (pl - 1) ka pa) fa (mf_cm (fun x => mx_w cn go ch s x) (pl - 1) kb p) i 1)), some (fI 1)]) (st' := []) (h' := h_292) (cl' := 0) (sl' := 0) rfl ?_
        refine fw_inc (a := i) (loc' := [some (.ref 66), some (fI 1), some (fI m), some (fI what), some (fI pb), some (fI fb), some (fI ((100 * p) + i)), some (fI (mr_w (mf_cm (fun x => mx_w cn go ch s x) (pl - 1) ka pa) fa (mf_cm (fun x => mx_w cn go ch s x) (pl - 1) kb p) i 1)), some (fI p), some (fI (i + 1)), some (fI (mr_w (mf_cm (fun x => mx_w cn go ch s x) (pl - 1) ka pa) fa (mf_cm (fun x => mx_w cn go ch s x) (pl - 1) kb p) i 1)), some (fI 1)]) rfl rfl (Nat.le_of_ble_eq_true rfl) rfl ?_
        refine ik_Wk 1 (pc' := 110) (loc' := [some (.ref 66), some (fI 1), some (fI m), some (fI what), some (fI pb), some (fI fb), some (fI ((100 * p) + i)), some (fI (mr_w (mf_cm (fun x => mx_w cn go ch s x) (pl - 1) ka pa) fa (mf_cm (fun x => mx_w cn go ch s x) (pl - 1) kb p) i 1)), some (fI p), some (fI (i + 1)), some (fI (mr_w (mf_cm (fun x => mx_w cn go ch s x) (pl - 1) ka pa) fa (mf_cm (fun x => mx_w cn go ch s x) (pl - 1) kb p) i 1)), some (fI 1)]) (st' := []) (h' := h_292) (cl' := 0) (sl' := 0) rfl ?_
        have e1 : (m + 1 - i).toNat = (m + 1 - (i + 1)).toNat + 1 := by omega
        have he2 : X = (mk_bk (mk_vb (fun x => mx_w cn go ch s x) pl ka pa fa kb pb fb 1) p (m + 1 - (i + 1)).toNat (i + 1) p i (mr_w (mf_cm (fun x => mx_w cn go ch s x) (pl - 1) ka pa) fa (mf_cm (fun x => mx_w cn go ch s x) (pl - 1) kb p) i 1)) := by
          rw [he, e1]
          show (if (mk_vb (fun x => mx_w cn go ch s x) pl ka pa fa kb pb fb 1) p i < z then _ else _) = _
          rw [ev, if_pos (by omega)]
        exact ih (i + 1) i p i (mr_w (mf_cm (fun x => mx_w cn go ch s x) (pl - 1) ka pa) fa (mf_cm (fun x => mx_w cn go ch s x) (pl - 1) kb p) i 1) ((100 * p) + i) (mr_w (mf_cm (fun x => mx_w cn go ch s x) (pl - 1) ka pa) fa (mf_cm (fun x => mx_w cn go ch s x) (pl - 1) kb p) i 1) (some (fI (mr_w (mf_cm (fun x => mx_w cn go ch s x) (pl - 1) ka pa) fa (mf_cm (fun x => mx_w cn go ch s x) (pl - 1) kb p) i 1))) (some (fI 1)) h_292 g_292_66 g_292_67 n67 g_292_68 n68 g_292_69 n69 g_292_77 n77 g_292_78 n78 g_292_79 n79 g_292_80 n80 g_292_70 g_292_81 n81 g_292_82 n82 k_292 fr_292 (by omega) (by omega) he2 rfl rfl (by omega)
      · refine ik_Wk 2 (pc' := 144) (loc' := [some (.ref 66), some (fI 1), some (fI m), some (fI what), some (fI pb), some (fI fb), some (fI b), some (fI l), some (fI p), some (fI i), some (fI (mr_w (mf_cm (fun x => mx_w cn go ch s x) (pl - 1) ka pa) fa (mf_cm (fun x => mx_w cn go ch s x) (pl - 1) kb p) i 1)), x11]) (st' := [fI l, fI (mr_w (mf_cm (fun x => mx_w cn go ch s x) (pl - 1) ka pa) fa (mf_cm (fun x => mx_w cn go ch s x) (pl - 1) kb p) i 1)]) (h' := h_292) (cl' := 0) (sl' := 0) rfl ?_
        refine fw_ic_ge rfl rfl (by omega) (by omega) (by omega) (by omega) (fun hc5 => ?_) (fun hc5 => ?_)
        · refine ik_Wk 3 (pc' := 156) (loc' := [some (.ref 66), some (fI 1), some (fI m), some (fI what), some (fI pb), some (fI fb), some (fI b), some (fI l), some (fI p), some (fI i), some (fI (mr_w (mf_cm (fun x => mx_w cn go ch s x) (pl - 1) ka pa) fa (mf_cm (fun x => mx_w cn go ch s x) (pl - 1) kb p) i 1)), some (fI 0)]) (st' := [fI 0]) (h' := h_292) (cl' := 0) (sl' := 0) rfl ?_
          refine fw_if_eq rfl rfl (by omega) (by omega) (fun hc6 => ?_) (fun hc6 => absurd hc6 (by omega))
          refine ik_Wk 3 (pc' := 176) (loc' := [some (.ref 66), some (fI 1), some (fI m), some (fI what), some (fI pb), some (fI fb), some (fI b), some (fI l), some (fI p), some (fI i), some (fI (mr_w (mf_cm (fun x => mx_w cn go ch s x) (pl - 1) ka pa) fa (mf_cm (fun x => mx_w cn go ch s x) (pl - 1) kb p) i 1)), some (fI 0)]) (st' := [fI 0]) (h' := h_292) (cl' := 0) (sl' := 0) rfl ?_
          refine fw_if_eq rfl rfl (by omega) (by omega) (fun hc7 => ?_) (fun hc7 => absurd hc7 (by omega))
          refine ik_Wk 2 (pc' := 188) (loc' := [some (.ref 66), some (fI 1), some (fI m), some (fI what), some (fI pb), some (fI fb), some (fI b), some (fI l), some (fI p), some (fI i), some (fI (mr_w (mf_cm (fun x => mx_w cn go ch s x) (pl - 1) ka pa) fa (mf_cm (fun x => mx_w cn go ch s x) (pl - 1) kb p) i 1)), some (fI 0)]) (st' := []) (h' := h_292) (cl' := 0) (sl' := 0) rfl ?_
          refine fw_inc (a := i) (loc' := [some (.ref 66), some (fI 1), some (fI m), some (fI what), some (fI pb), some (fI fb), some (fI b), some (fI l), some (fI p), some (fI (i + 1)), some (fI (mr_w (mf_cm (fun x => mx_w cn go ch s x) (pl - 1) ka pa) fa (mf_cm (fun x => mx_w cn go ch s x) (pl - 1) kb p) i 1)), some (fI 0)]) rfl rfl (Nat.le_of_ble_eq_true rfl) rfl ?_
          refine ik_Wk 1 (pc' := 110) (loc' := [some (.ref 66), some (fI 1), some (fI m), some (fI what), some (fI pb), some (fI fb), some (fI b), some (fI l), some (fI p), some (fI (i + 1)), some (fI (mr_w (mf_cm (fun x => mx_w cn go ch s x) (pl - 1) ka pa) fa (mf_cm (fun x => mx_w cn go ch s x) (pl - 1) kb p) i 1)), some (fI 0)]) (st' := []) (h' := h_292) (cl' := 0) (sl' := 0) rfl ?_
          have e1 : (m + 1 - i).toNat = (m + 1 - (i + 1)).toNat + 1 := by omega
          have he2 : X = (mk_bk (mk_vb (fun x => mx_w cn go ch s x) pl ka pa fa kb pb fb 1) p (m + 1 - (i + 1)).toNat (i + 1) x y z) := by
            rw [he, e1]
            show (if (mk_vb (fun x => mx_w cn go ch s x) pl ka pa fa kb pb fb 1) p i < z then _ else _) = _
            rw [ev, if_neg (by omega)]
          exact ih (i + 1) i x y z b l (some (fI (mr_w (mf_cm (fun x => mx_w cn go ch s x) (pl - 1) ka pa) fa (mf_cm (fun x => mx_w cn go ch s x) (pl - 1) kb p) i 1))) (some (fI 0)) h_292 g_292_66 g_292_67 n67 g_292_68 n68 g_292_69 n69 g_292_77 n77 g_292_78 n78 g_292_79 n79 g_292_80 n80 g_292_70 g_292_81 n81 g_292_82 n82 k_292 fr_292 (by omega) (by omega) he2 rfl rfl (by omega)
        · refine ik_Wk 4 (pc' := 156) (loc' := [some (.ref 66), some (fI 1), some (fI m), some (fI what), some (fI pb), some (fI fb), some (fI b), some (fI l), some (fI p), some (fI i), some (fI (mr_w (mf_cm (fun x => mx_w cn go ch s x) (pl - 1) ka pa) fa (mf_cm (fun x => mx_w cn go ch s x) (pl - 1) kb p) i 1)), some (fI 1)]) (st' := [fI 1]) (h' := h_292) (cl' := 0) (sl' := 0) rfl ?_
          refine fw_if_eq rfl rfl (by omega) (by omega) (fun hc8 => absurd hc8 (by omega)) (fun hc8 => ?_)
          refine fw_bi rfl (by decide) ?_
          refine ik_Wk 1 (pc' := 163) (loc' := [some (.ref 66), some (fI 1), some (fI m), some (fI what), some (fI pb), some (fI fb), some (fI b), some (fI l), some (fI p), some (fI i), some (fI (mr_w (mf_cm (fun x => mx_w cn go ch s x) (pl - 1) ka pa) fa (mf_cm (fun x => mx_w cn go ch s x) (pl - 1) kb p) i 1)), some (fI 1)]) (st' := [fI p, fI 100]) (h' := h_292) (cl' := 0) (sl' := 0) rfl ?_
          refine fw_mul rfl ?_
          refine ik_Wk 1 (pc' := 166) (loc' := [some (.ref 66), some (fI 1), some (fI m), some (fI what), some (fI pb), some (fI fb), some (fI b), some (fI l), some (fI p), some (fI i), some (fI (mr_w (mf_cm (fun x => mx_w cn go ch s x) (pl - 1) ka pa) fa (mf_cm (fun x => mx_w cn go ch s x) (pl - 1) kb p) i 1)), some (fI 1)]) (st' := [fI i, fI (100 * p)]) (h' := h_292) (cl' := 0) (sl' := 0) rfl ?_
          refine fw_add rfl ?_
          refine ik_Wk 3 (pc' := 176) (loc' := [some (.ref 66), some (fI 1), some (fI m), some (fI what), some (fI pb), some (fI fb), some (fI ((100 * p) + i)), some (fI l), some (fI p), some (fI i), some (fI (mr_w (mf_cm (fun x => mx_w cn go ch s x) (pl - 1) ka pa) fa (mf_cm (fun x => mx_w cn go ch s x) (pl - 1) kb p) i 1)), some (fI 1)]) (st' := [fI 1]) (h' := h_292) (cl' := 0) (sl' := 0) rfl ?_
          refine fw_if_eq rfl rfl (by omega) (by omega) (fun hc9 => absurd hc9 (by omega)) (fun hc9 => ?_)
          refine ik_Wk 3 (pc' := 188) (loc' := [some (.ref 66), some (fI 1), some (fI m), some (fI what), some (fI pb), some (fI fb), some (fI ((100 * p) + i)), some (fI (mr_w (mf_cm (fun x => mx_w cn go ch s x) (pl - 1) ka pa) fa (mf_cm (fun x => mx_w cn go ch s x) (pl - 1) kb p) i 1)), some (fI p), some (fI i), some (fI (mr_w (mf_cm (fun x => mx_w cn go ch s x) (pl - 1) ka pa) fa (mf_cm (fun x => mx_w cn go ch s x) (pl - 1) kb p) i 1)), some (fI 1)]) (st' := []) (h' := h_292) (cl' := 0) (sl' := 0) rfl ?_
          refine fw_inc (a := i) (loc' := [some (.ref 66), some (fI 1), some (fI m), some (fI what), some (fI pb), some (fI fb), some (fI ((100 * p) + i)), some (fI (mr_w (mf_cm (fun x => mx_w cn go ch s x) (pl - 1) ka pa) fa (mf_cm (fun x => mx_w cn go ch s x) (pl - 1) kb p) i 1)), some (fI p), some (fI (i + 1)), some (fI (mr_w (mf_cm (fun x => mx_w cn go ch s x) (pl - 1) ka pa) fa (mf_cm (fun x => mx_w cn go ch s x) (pl - 1) kb p) i 1)), some (fI 1)]) rfl rfl (Nat.le_of_ble_eq_true rfl) rfl ?_
          refine ik_Wk 1 (pc' := 110) (loc' := [some (.ref 66), some (fI 1), some (fI m), some (fI what), some (fI pb), some (fI fb), some (fI ((100 * p) + i)), some (fI (mr_w (mf_cm (fun x => mx_w cn go ch s x) (pl - 1) ka pa) fa (mf_cm (fun x => mx_w cn go ch s x) (pl - 1) kb p) i 1)), some (fI p), some (fI (i + 1)), some (fI (mr_w (mf_cm (fun x => mx_w cn go ch s x) (pl - 1) ka pa) fa (mf_cm (fun x => mx_w cn go ch s x) (pl - 1) kb p) i 1)), some (fI 1)]) (st' := []) (h' := h_292) (cl' := 0) (sl' := 0) rfl ?_
          have e1 : (m + 1 - i).toNat = (m + 1 - (i + 1)).toNat + 1 := by omega
          have he2 : X = (mk_bk (mk_vb (fun x => mx_w cn go ch s x) pl ka pa fa kb pb fb 1) p (m + 1 - (i + 1)).toNat (i + 1) p i (mr_w (mf_cm (fun x => mx_w cn go ch s x) (pl - 1) ka pa) fa (mf_cm (fun x => mx_w cn go ch s x) (pl - 1) kb p) i 1)) := by
            rw [he, e1]
            show (if (mk_vb (fun x => mx_w cn go ch s x) pl ka pa fa kb pb fb 1) p i < z then _ else _) = _
            rw [ev, if_pos (by omega)]
          exact ih (i + 1) i p i (mr_w (mf_cm (fun x => mx_w cn go ch s x) (pl - 1) ka pa) fa (mf_cm (fun x => mx_w cn go ch s x) (pl - 1) kb p) i 1) ((100 * p) + i) (mr_w (mf_cm (fun x => mx_w cn go ch s x) (pl - 1) ka pa) fa (mf_cm (fun x => mx_w cn go ch s x) (pl - 1) kb p) i 1) (some (fI (mr_w (mf_cm (fun x => mx_w cn go ch s x) (pl - 1) ka pa) fa (mf_cm (fun x => mx_w cn go ch s x) (pl - 1) kb p) i 1))) (some (fI 1)) h_292 g_292_66 g_292_67 n67 g_292_68 n68 g_292_69 n69 g_292_77 n77 g_292_78 n78 g_292_79 n79 g_292_80 n80 g_292_70 g_292_81 n81 g_292_82 n82 k_292 fr_292 (by omega) (by omega) he2 rfl rfl (by omega)

theorem rp_best1L {h : List ik_E} {pl : Int} {f : Nat → Int} {s : Nat} {cn : List Int} {go : List Int} {ch : List Int} {gt : List Int} {gd : List Int} {xs : List Int} {ys : List Int} {ka : Int} {pa : Int} {fa : Int} {kb : Int} {pb : Int} {fb : Int} {r1 : List Int} {r2 : List Int} {m : Int} {what : Int} (q0 : 0 ≤ pl ∧ pl ≤ 12) (q1 : s < 4096) (q2 : ∀ x : Int, 0 ≤ x → x < pl - 1 → 0 ≤ cn.getD x.toNat 0 ∧ cn.getD x.toNat 0 ≤ 4) (q3 : ∀ x : Int, 0 ≤ x → x < pl - 1 → 1 ≤ cn.getD x.toNat 0 ∧ ∀ j : Int, 4 * x ≤ j → j < 4 * x + cn.getD x.toNat 0 → 0 ≤ ch.getD j.toNat 0 ∧ ch.getD j.toNat 0 ≤ 100) (q4 : ∀ x : Int, 0 ≤ x → x < pl - 1 → mx_ok pl (mx_w cn go ch s x)) (q5 : 0 ≤ ka ∧ ka ≤ 2) (q6 : 0 ≤ kb ∧ kb ≤ 2) (q7 : 1 < pl → 0 ≤ pa ∧ pa < pl - 1) (q8 : 1 < pl → 0 ≤ pb ∧ pb < pl - 1) (q9 : 0 ≤ fa ∧ fa ≤ 30) (q10 : 0 ≤ fb ∧ fb ≤ 30) (q11 : -2147483648 ≤ m ∧ m < 2147483648) (q12 : -2147483648 ≤ what ∧ what < 2147483648) (hpl : 1 < pl) (hm : 0 ≤ m ∧ m ≤ 10) (hw : 0 ≤ what ∧ what ≤ 2) : ∀ (k : Nat) (p : Int) (pm : Int) (mm : Int) (x : Int) (y : Int) (z : Int) (b : Int) (l : Int) (w1 : Int) (g1 : List Int) (d1 : List Int) (x1 : List Int) (y1 : List Int) (s1 : List Int) (s2 : List Int) (x9 : Option Value) (x10 : Option Value) (x11 : Option Value) (u : List ik_E) (u66 : cE u 66 (.inr (10, [fI pl, .ref 67, .ref 68, .ref 69, fI ((s : Nat) : Int), .ref 70, .ref 71, fI (f 7), fI (f 8), .ref 72, fI (f 10), fI (f 11), fI (f 12), fJ (f 13), fI (f 14), fI (f 15), fI (f 16), fI (f 17), .ref 73, .ref 74, .ref 75, .ref 76, .ref 77, .ref 78, fI w1, .ref 79, .ref 80, .ref 81, .ref 82, .ref 83, .ref 84, .ref 85, fJ (f 32), fJ (f 33), .ref 86, .ref 87, fI (f 36), .ref 88, .ref 89, .ref 90, .ref 91, .ref 92, .ref 93]))) (u67 : cE u 67 (.inl (.int, fA cn))) (n67 : cn.length = 12) (u68 : cE u 68 (.inl (.int, fA go))) (n68 : go.length = 48) (u69 : cE u 69 (.inl (.int, fA ch))) (n69 : ch.length = 48) (u77 : cE u 77 (.inl (.int, fA g1))) (n77 : g1.length = 5) (u78 : cE u 78 (.inl (.int, fA d1))) (n78 : d1.length = 5) (u79 : cE u 79 (.inl (.long, fL x1))) (n79 : x1.length = 12) (u80 : cE u 80 (.inl (.long, fL y1))) (n80 : y1.length = 12) (u70 : cE u 70 (.inl (.int, fA [ka, pa, fa, kb, pm, mm]))) (u81 : cE u 81 (.inl (.long, fL s1))) (n81 : s1.length = 201) (u82 : cE u 82 (.inl (.long, fL s2))) (n82 : s2.length = 201) (ul : u.length = 94) (F : hfr [66, 77, 78, 79, 80, 81, 82, 70] h u) (hp : 0 ≤ p ∧ p ≤ pl - 1) (hr : ((-1 ≤ b ∧ b < 0) ∧ p = 0 ∧ x = 0 ∧ y = 0 ∧ z = 1000001) ∨ (b = 100 * x + y ∧ l = z ∧ 0 ≤ x ∧ x < 12 ∧ 0 ≤ y ∧ y ≤ 10 ∧ 0 ≤ z ∧ z ≤ 1000000)) (he : (mk_bp (mk_vb (fun x => mx_w cn go ch s x) pl ka pa fa kb pb fb 1) (m.toNat + 1) (pl - 1).toNat 0 0 0 1000001) = mk_bp (mk_vb (fun x => mx_w cn go ch s x) pl ka pa fa kb pb fb 1) (m.toNat + 1) (pl - 1 - p).toNat p x y z) (v9 : ik_wl 94 x9 = true) (v10 : ik_wl 94 x10 = true) (v11 : ik_wl 94 x11 = true) (hk : pl - p < (k : Int)), ik_G 171 80 [some (.ref 66), some (fI 1), some (fI m), some (fI what), some (fI pb), some (fI fb), some (fI b), some (fI l), some (fI p), x9, x10, x11] [] u (fun rv h' => ∃ (w' : Int) (gt' : List Int) (gd' : List Int) (xs' : List Int) (ys' : List Int) (r1' : List Int) (r2' : List Int), rv = [fI (an_be m what pl (if what = 0 then (mk_bp (mk_vb (fun x => mx_w cn go ch s x) pl ka pa fa kb pb fb 1) (m.toNat + 1) (pl - 1).toNat 0 0 0 1000001).1 else if what = 1 then (mk_bp (mk_vb (fun x => mx_w cn go ch s x) pl ka pa fa kb pb fb 1) (m.toNat + 1) (pl - 1).toNat 0 0 0 1000001).2.1 else (mk_bp (mk_vb (fun x => mx_w cn go ch s x) pl ka pa fa kb pb fb 1) (m.toNat + 1) (pl - 1).toNat 0 0 0 1000001).2.2))] ∧ cE h' 66 (.inr (10, [fI pl, .ref 67, .ref 68, .ref 69, fI ((s : Nat) : Int), .ref 70, .ref 71, fI (f 7), fI (f 8), .ref 72, fI (f 10), fI (f 11), fI (f 12), fJ (f 13), fI (f 14), fI (f 15), fI (f 16), fI (f 17), .ref 73, .ref 74, .ref 75, .ref 76, .ref 77, .ref 78, fI w', .ref 79, .ref 80, .ref 81, .ref 82, .ref 83, .ref 84, .ref 85, fJ (f 32), fJ (f 33), .ref 86, .ref 87, fI (f 36), .ref 88, .ref 89, .ref 90, .ref 91, .ref 92, .ref 93])) ∧ cE h' 77 (.inl (.int, fA gt')) ∧ gt'.length = 5 ∧ cE h' 78 (.inl (.int, fA gd')) ∧ gd'.length = 5 ∧ cE h' 79 (.inl (.long, fL xs')) ∧ xs'.length = 12 ∧ cE h' 80 (.inl (.long, fL ys')) ∧ ys'.length = 12 ∧ cE h' 81 (.inl (.long, fL r1')) ∧ r1'.length = 201 ∧ cE h' 82 (.inl (.long, fL r2')) ∧ r2'.length = 201 ∧ cE h' 70 (.inl (.int, fA [ka, pa, fa, kb, pb, fb])) ∧ hfr [66, 77, 78, 79, 80, 81, 82, 70] h h') := by
  intro k
  induction k with
  | zero => intro p pm mm x y z b l w1 g1 d1 x1 y1 s1 s2 x9 x10 x11 u u66 u67 n67 u68 n68 u69 n69 u77 n77 u78 n78 u79 n79 u80 n80 u70 u81 n81 u82 n82 ul F hp hr he v9 v10 v11 hk; omega
  | succ k ih =>
    intro p pm mm x y z b l w1 g1 d1 x1 y1 s1 s2 x9 x10 x11 u u66 u67 n67 u68 n68 u69 n69 u77 n77 u78 n78 u79 n79 u80 n80 u70 u81 n81 u82 n82 ul F hp hr he v9 v10 v11 hk
    refine ik_Wk 2 (pc' := 83) (loc' := [some (.ref 66), some (fI 1), some (fI m), some (fI what), some (fI pb), some (fI fb), some (fI b), some (fI l), some (fI p), x9, x10, x11]) (st' := [.ref 66, fI p]) (h' := u) (cl' := 0) (sl' := 0) rfl ?_
    refine fw_gf rfl rfl u66 rfl ?_
    refine ik_Wk 1 (pc' := 87) (loc' := [some (.ref 66), some (fI 1), some (fI m), some (fI what), some (fI pb), some (fI fb), some (fI b), some (fI l), some (fI p), x9, x10, x11]) (st' := [fI 1, fI pl, fI p]) (h' := u) (cl' := 0) (sl' := 0) rfl ?_
    refine fw_sub rfl ?_
    refine fw_ic_ge rfl rfl (by omega) (by omega) (by omega) (by omega) (fun hc1 => ?_) (fun hc1 => ?_)
    · refine ik_Wk 1 (pc' := 201) (loc' := [some (.ref 66), some (fI 1), some (fI m), some (fI what), some (fI pb), some (fI fb), some (fI b), some (fI l), some (fI p), x9, x10, x11]) (st' := [.ref 66]) (h' := u) (cl' := 0) (sl' := 0) rfl ?_
      refine fw_gf rfl rfl u66 rfl ?_
      refine ik_Wk 2 (pc' := 206) (loc' := [some (.ref 66), some (fI 1), some (fI m), some (fI what), some (fI pb), some (fI fb), some (fI b), some (fI l), some (fI p), x9, x10, x11]) (st' := [fI 1, fI 3, .ref 70]) (h' := u) (cl' := 0) (sl' := 0) rfl ?_
      refine fw_mul rfl ?_
      refine ik_Wk 1 (pc' := 208) (loc' := [some (.ref 66), some (fI 1), some (fI m), some (fI what), some (fI pb), some (fI fb), some (fI b), some (fI l), some (fI p), x9, x10, x11]) (st' := [fI 1, fI 3, .ref 70]) (h' := u) (cl' := 0) (sl' := 0) rfl ?_
      refine fw_add rfl ?_
      refine ik_Wk 1 (pc' := 211) (loc' := [some (.ref 66), some (fI 1), some (fI m), some (fI what), some (fI pb), some (fI fb), some (fI b), some (fI l), some (fI p), x9, x10, x11]) (st' := [fI pb, fI 4, .ref 70]) (h' := u) (cl' := 0) (sl' := 0) rfl ?_
      refine fx_ias (z := 4) rfl u70 (by decide) (Nat.le_of_ble_eq_true rfl) (by decide) ?_
      intro h_293 e_293 f_293 l_293
      have k_293 := l_293.trans ul
      have fr_293 := hfr_w F f_293 l_293 (by decide)
      have g_293_66 := (f_293 66 (by decide)).trans u66
      have g_293_67 := (f_293 67 (by decide)).trans u67
      have g_293_68 := (f_293 68 (by decide)).trans u68
      have g_293_69 := (f_293 69 (by decide)).trans u69
      have g_293_77 := (f_293 77 (by decide)).trans u77
      have g_293_78 := (f_293 78 (by decide)).trans u78
      have g_293_79 := (f_293 79 (by decide)).trans u79
      have g_293_80 := (f_293 80 (by decide)).trans u80
      have g_293_81 := (f_293 81 (by decide)).trans u81
      have g_293_82 := (f_293 82 (by decide)).trans u82
      have g_293_70 : cE h_293 70 (.inl (.int, fA [ka, pa, fa, kb, pb, mm])) := e_293
      refine ik_Wk 1 (pc' := 213) (loc' := [some (.ref 66), some (fI 1), some (fI m), some (fI what), some (fI pb), some (fI fb), some (fI b), some (fI l), some (fI p), x9, x10, x11]) (st' := [.ref 66]) (h' := h_293) (cl' := 0) (sl' := 0) rfl ?_
      refine fw_gf rfl rfl g_293_66 rfl ?_
      refine ik_Wk 2 (pc' := 218) (loc' := [some (.ref 66), some (fI 1), some (fI m), some (fI what), some (fI pb), some (fI fb), some (fI b), some (fI l), some (fI p), x9, x10, x11]) (st' := [fI 1, fI 3, .ref 70]) (h' := h_293) (cl' := 0) (sl' := 0) rfl ?_
      refine fw_mul rfl ?_
      refine ik_Wk 1 (pc' := 220) (loc' := [some (.ref 66), some (fI 1), some (fI m), some (fI what), some (fI pb), some (fI fb), some (fI b), some (fI l), some (fI p), x9, x10, x11]) (st' := [fI 2, fI 3, .ref 70]) (h' := h_293) (cl' := 0) (sl' := 0) rfl ?_
      refine fw_add rfl ?_
      refine ik_Wk 1 (pc' := 223) (loc' := [some (.ref 66), some (fI 1), some (fI m), some (fI what), some (fI pb), some (fI fb), some (fI b), some (fI l), some (fI p), x9, x10, x11]) (st' := [fI fb, fI 5, .ref 70]) (h' := h_293) (cl' := 0) (sl' := 0) rfl ?_
      refine fx_ias (z := 5) rfl g_293_70 (by decide) (Nat.le_of_ble_eq_true rfl) (by decide) ?_
      intro h_294 e_294 f_294 l_294
      have k_294 := l_294.trans k_293
      have fr_294 := hfr_w fr_293 f_294 l_294 (by decide)
      have g_294_66 := (f_294 66 (by decide)).trans g_293_66
      have g_294_67 := (f_294 67 (by decide)).trans g_293_67
      have g_294_68 := (f_294 68 (by decide)).trans g_293_68
      have g_294_69 := (f_294 69 (by decide)).trans g_293_69
      have g_294_77 := (f_294 77 (by decide)).trans g_293_77
      have g_294_78 := (f_294 78 (by decide)).trans g_293_78
      have g_294_79 := (f_294 79 (by decide)).trans g_293_79
      have g_294_80 := (f_294 80 (by decide)).trans g_293_80
      have g_294_81 := (f_294 81 (by decide)).trans g_293_81
      have g_294_82 := (f_294 82 (by decide)).trans g_293_82
      have g_294_70 : cE h_294 70 (.inl (.int, fA [ka, pa, fa, kb, pb, fb])) := e_294
      refine ik_Wk 1 (pc' := 225) (loc' := [some (.ref 66), some (fI 1), some (fI m), some (fI what), some (fI pb), some (fI fb), some (fI b), some (fI l), some (fI p), x9, x10, x11]) (st' := [fI what]) (h' := h_294) (cl' := 0) (sl' := 0) rfl ?_
      refine fw_if_ne rfl rfl (by omega) (by omega) (fun hc2 => ?_) (fun hc2 => ?_)
      · refine ik_Wk 1 (pc' := 230) (loc' := [some (.ref 66), some (fI 1), some (fI m), some (fI what), some (fI pb), some (fI fb), some (fI b), some (fI l), some (fI p), x9, x10, x11]) (st' := [fI b]) (h' := h_294) (cl' := 0) (sl' := 0) rfl ?_
        refine fw_bi rfl (by decide) ?_
        refine fx_idiv rfl (by omega) (by omega) (by omega) (by omega) ?_
        refine ik_Wk 1 (pc' := 251) (loc' := [some (.ref 66), some (fI 1), some (fI m), some (fI what), some (fI pb), some (fI fb), some (fI b), some (fI l), some (fI p), x9, x10, x11]) (st' := [fI (b / 100)]) (h' := h_294) (cl' := 0) (sl' := 0) rfl ?_
        rw [show (pl - 1 - p).toNat = 0 by omega] at he
        have e0 : (mk_bp (mk_vb (fun x => mx_w cn go ch s x) pl ka pa fa kb pb fb 1) (m.toNat + 1) (pl - 1).toNat 0 0 0 1000001).1 = x := by rw [he]; rfl
        have e1 : (mk_bp (mk_vb (fun x => mx_w cn go ch s x) pl ka pa fa kb pb fb 1) (m.toNat + 1) (pl - 1).toNat 0 0 0 1000001).2.1 = y := by rw [he]; rfl
        have e2 : (mk_bp (mk_vb (fun x => mx_w cn go ch s x) pl ka pa fa kb pb fb 1) (m.toNat + 1) (pl - 1).toNat 0 0 0 1000001).2.2 = z := by rw [he]; rfl
        exact ik_Wret rfl rfl ⟨_, _, rfl, rfl, rfl, rfl, ⟨w1, g1, d1, x1, y1, s1, s2, (congrArg (fun z => [fI z]) (by rw [e0, e1, e2]; unfold an_be; (repeat' split) <;> omega)), g_294_66, g_294_77, n77, g_294_78, n78, g_294_79, n79, g_294_80, n80, g_294_81, n81, g_294_82, n82, g_294_70, fr_294⟩⟩
      · refine ik_Wk 2 (pc' := 238) (loc' := [some (.ref 66), some (fI 1), some (fI m), some (fI what), some (fI pb), some (fI fb), some (fI b), some (fI l), some (fI p), x9, x10, x11]) (st' := [fI 1, fI what]) (h' := h_294) (cl' := 0) (sl' := 0) rfl ?_
        refine fw_ic_ne rfl rfl (by omega) (by omega) (by omega) (by omega) (fun hc3 => ?_) (fun hc3 => ?_)
        · refine ik_Wk 1 (pc' := 243) (loc' := [some (.ref 66), some (fI 1), some (fI m), some (fI what), some (fI pb), some (fI fb), some (fI b), some (fI l), some (fI p), x9, x10, x11]) (st' := [fI b]) (h' := h_294) (cl' := 0) (sl' := 0) rfl ?_
          refine fw_bi rfl (by decide) ?_
          refine fx_irem rfl (by omega) (by omega) (by omega) (by omega) ?_
          refine ik_Wk 1 (pc' := 251) (loc' := [some (.ref 66), some (fI 1), some (fI m), some (fI what), some (fI pb), some (fI fb), some (fI b), some (fI l), some (fI p), x9, x10, x11]) (st' := [fI (b % 100)]) (h' := h_294) (cl' := 0) (sl' := 0) rfl ?_
          rw [show (pl - 1 - p).toNat = 0 by omega] at he
          have e0 : (mk_bp (mk_vb (fun x => mx_w cn go ch s x) pl ka pa fa kb pb fb 1) (m.toNat + 1) (pl - 1).toNat 0 0 0 1000001).1 = x := by rw [he]; rfl
          have e1 : (mk_bp (mk_vb (fun x => mx_w cn go ch s x) pl ka pa fa kb pb fb 1) (m.toNat + 1) (pl - 1).toNat 0 0 0 1000001).2.1 = y := by rw [he]; rfl
          have e2 : (mk_bp (mk_vb (fun x => mx_w cn go ch s x) pl ka pa fa kb pb fb 1) (m.toNat + 1) (pl - 1).toNat 0 0 0 1000001).2.2 = z := by rw [he]; rfl
          exact ik_Wret rfl rfl ⟨_, _, rfl, rfl, rfl, rfl, ⟨w1, g1, d1, x1, y1, s1, s2, (congrArg (fun z => [fI z]) (by rw [e0, e1, e2]; unfold an_be; (repeat' split) <;> omega)), g_294_66, g_294_77, n77, g_294_78, n78, g_294_79, n79, g_294_80, n80, g_294_81, n81, g_294_82, n82, g_294_70, fr_294⟩⟩
        · refine ik_Wk 1 (pc' := 251) (loc' := [some (.ref 66), some (fI 1), some (fI m), some (fI what), some (fI pb), some (fI fb), some (fI b), some (fI l), some (fI p), x9, x10, x11]) (st' := [fI l]) (h' := h_294) (cl' := 0) (sl' := 0) rfl ?_
          rw [show (pl - 1 - p).toNat = 0 by omega] at he
          have e0 : (mk_bp (mk_vb (fun x => mx_w cn go ch s x) pl ka pa fa kb pb fb 1) (m.toNat + 1) (pl - 1).toNat 0 0 0 1000001).1 = x := by rw [he]; rfl
          have e1 : (mk_bp (mk_vb (fun x => mx_w cn go ch s x) pl ka pa fa kb pb fb 1) (m.toNat + 1) (pl - 1).toNat 0 0 0 1000001).2.1 = y := by rw [he]; rfl
          have e2 : (mk_bp (mk_vb (fun x => mx_w cn go ch s x) pl ka pa fa kb pb fb 1) (m.toNat + 1) (pl - 1).toNat 0 0 0 1000001).2.2 = z := by rw [he]; rfl
          exact ik_Wret rfl rfl ⟨_, _, rfl, rfl, rfl, rfl, ⟨w1, g1, d1, x1, y1, s1, s2, (congrArg (fun z => [fI z]) (by rw [e0, e1, e2]; unfold an_be; (repeat' split) <;> omega)), g_294_66, g_294_77, n77, g_294_78, n78, g_294_79, n79, g_294_80, n80, g_294_81, n81, g_294_82, n82, g_294_70, fr_294⟩⟩
    · refine ik_Wk 1 (pc' := 92) (loc' := [some (.ref 66), some (fI 1), some (fI m), some (fI what), some (fI pb), some (fI fb), some (fI b), some (fI l), some (fI p), x9, x10, x11]) (st' := [.ref 66]) (h' := u) (cl' := 0) (sl' := 0) rfl ?_
      refine fw_gf rfl rfl u66 rfl ?_
      refine ik_Wk 2 (pc' := 97) (loc' := [some (.ref 66), some (fI 1), some (fI m), some (fI what), some (fI pb), some (fI fb), some (fI b), some (fI l), some (fI p), x9, x10, x11]) (st' := [fI 1, fI 3, .ref 70]) (h' := u) (cl' := 0) (sl' := 0) rfl ?_
      refine fw_mul rfl ?_
      refine ik_Wk 1 (pc' := 99) (loc' := [some (.ref 66), some (fI 1), some (fI m), some (fI what), some (fI pb), some (fI fb), some (fI b), some (fI l), some (fI p), x9, x10, x11]) (st' := [fI 1, fI 3, .ref 70]) (h' := u) (cl' := 0) (sl' := 0) rfl ?_
      refine fw_add rfl ?_
      refine ik_Wk 1 (pc' := 102) (loc' := [some (.ref 66), some (fI 1), some (fI m), some (fI what), some (fI pb), some (fI fb), some (fI b), some (fI l), some (fI p), x9, x10, x11]) (st' := [fI p, fI 4, .ref 70]) (h' := u) (cl' := 0) (sl' := 0) rfl ?_
      refine fx_ias (z := 4) rfl u70 (by decide) (Nat.le_of_ble_eq_true rfl) (by decide) ?_
      intro h_295 e_295 f_295 l_295
      have k_295 := l_295.trans ul
      have fr_295 := hfr_w F f_295 l_295 (by decide)
      have g_295_66 := (f_295 66 (by decide)).trans u66
      have g_295_67 := (f_295 67 (by decide)).trans u67
      have g_295_68 := (f_295 68 (by decide)).trans u68
      have g_295_69 := (f_295 69 (by decide)).trans u69
      have g_295_77 := (f_295 77 (by decide)).trans u77
      have g_295_78 := (f_295 78 (by decide)).trans u78
      have g_295_79 := (f_295 79 (by decide)).trans u79
      have g_295_80 := (f_295 80 (by decide)).trans u80
      have g_295_81 := (f_295 81 (by decide)).trans u81
      have g_295_82 := (f_295 82 (by decide)).trans u82
      have g_295_70 : cE h_295 70 (.inl (.int, fA [ka, pa, fa, kb, p, mm])) := e_295
      refine ik_Wk 1 (pc' := 104) (loc' := [some (.ref 66), some (fI 1), some (fI m), some (fI what), some (fI pb), some (fI fb), some (fI b), some (fI l), some (fI p), x9, x10, x11]) (st' := [.ref 66]) (h' := h_295) (cl' := 0) (sl' := 0) rfl ?_
      refine fw_call 165 1 0 [.ref 66] [] rfl rfl rfl (by decide) rfl rfl (fw_rec k_295 (fw_ftx rfl wv_n (wl_c rfl (wl_c rfl (wl_c rfl (wl_c rfl (wl_c rfl (wl_c rfl (wl_c rfl (wl_c rfl (wl_c rfl (wl_c v9 (wl_c v10 (wl_c v11 wl_n))))))))))))) g_295_66 rfl (by decide)) (cr_suitRows (pl := pl) (f := fun j => ([0, 0, 0, 0, 0, 0, 0, f 7, f 8, 0, f 10, f 11, f 12, f 13, f 14, f 15, f 16, f 17, 0, 0, 0, 0, 0, 0, w1, 0, 0, 0, 0, 0, 0, 0, f 32, f 33, 0, 0, f 36, 0, 0, 0, 0, 0, 0] : List Int).getD j 0) (s := s) (cn := cn) (go := go) (ch := ch) (gt := g1) (gd := d1) (xs := x1) (ys := y1) (ka := ka) (pa := pa) (fa := fa) (kb := kb) (pb := p) (fb := mm) (r1 := s1) (r2 := s2) (by omega) (by omega) q2 q3 q4 (by omega) (by omega) (by have := q7 hpl; omega) (by omega) g_295_66 g_295_67 n67 g_295_68 n68 g_295_69 n69 g_295_77 n77 g_295_78 n78 g_295_79 n79 g_295_80 n80 g_295_70 g_295_81 n81 g_295_82 n82 k_295) ?_
      rintro _ h_296 ⟨w'_296, gt'_296, gd'_296, xs'_296, ys'_296, r1'_296, r2'_296, rfl, e_296_66, e_296_77, m_296_77, e_296_78, m_296_78, e_296_79, m_296_79, e_296_80, m_296_80, e_296_81, m_296_81, e_296_82, m_296_82, p_296_0, p_296_1, F_296⟩
      have k_296 := F_296.1.trans k_295
      have fr_296 := hfr_c fr_295 F_296 (by decide)
      have g_296_67 := (F_296.2 67 (by decide +kernel)).trans g_295_67
      have g_296_68 := (F_296.2 68 (by decide +kernel)).trans g_295_68
      have g_296_69 := (F_296.2 69 (by decide +kernel)).trans g_295_69
      have g_296_70 := (F_296.2 70 (by decide +kernel)).trans g_295_70
      have g_296_66 : cE h_296 66 (.inr (10, [fI pl, .ref 67, .ref 68, .ref 69, fI ((s : Nat) : Int), .ref 70, .ref 71, fI (f 7), fI (f 8), .ref 72, fI (f 10), fI (f 11), fI (f 12), fJ (f 13), fI (f 14), fI (f 15), fI (f 16), fI (f 17), .ref 73, .ref 74, .ref 75, .ref 76, .ref 77, .ref 78, fI w'_296, .ref 79, .ref 80, .ref 81, .ref 82, .ref 83, .ref 84, .ref 85, fJ (f 32), fJ (f 33), .ref 86, .ref 87, fI (f 36), .ref 88, .ref 89, .ref 90, .ref 91, .ref 92, .ref 93])) := e_296_66
      have g_296_77 : cE h_296 77 (.inl (.int, fA gt'_296)) := e_296_77
      have g_296_78 : cE h_296 78 (.inl (.int, fA gd'_296)) := e_296_78
      have g_296_79 : cE h_296 79 (.inl (.long, fL xs'_296)) := e_296_79
      have g_296_80 : cE h_296 80 (.inl (.long, fL ys'_296)) := e_296_80
      have g_296_81 : cE h_296 81 (.inl (.long, fL r1'_296)) := e_296_81
      have g_296_82 : cE h_296 82 (.inl (.long, fL r2'_296)) := e_296_82
      refine ik_Wk 0 (pc' := 107) (loc' := [some (.ref 66), some (fI 1), some (fI m), some (fI what), some (fI pb), some (fI fb), some (fI b), some (fI l), some (fI p), x9, x10, x11]) (st' := []) (h' := h_296) (cl' := 0) (sl' := 0) rfl ?_
      refine ik_Wk 2 (pc' := 110) (loc' := [some (.ref 66), some (fI 1), some (fI m), some (fI what), some (fI pb), some (fI fb), some (fI b), some (fI l), some (fI p), some (fI 0), x10, x11]) (st' := []) (h' := h_296) (cl' := 0) (sl' := 0) rfl ?_
      refine rp_best1I (pl := pl) (f := f) (s := s) (cn := cn) (go := go) (ch := ch) (gt := gt) (gd := gd) (xs := xs) (ys := ys) (ka := ka) (pa := pa) (fa := fa) (kb := kb) (pb := pb) (fb := fb) (r1 := r1) (r2 := r2) (m := m) (what := what) q0 q1 q2 q3 q4 q5 q6 q7 q8 q9 q10 q11 q12 hm p (by omega) (mk_bk (mk_vb (fun x => mx_w cn go ch s x) pl ka pa fa kb pb fb 1) p (m.toNat + 1) 0 x y z) w'_296 gt'_296 gd'_296 xs'_296 ys'_296 r1'_296 r2'_296 p_296_0 p_296_1 (R := (fun rv h' => ∃ (w' : Int) (gt' : List Int) (gd' : List Int) (xs' : List Int) (ys' : List Int) (r1' : List Int) (r2' : List Int), rv = [fI (an_be m what pl (if what = 0 then (mk_bp (mk_vb (fun x => mx_w cn go ch s x) pl ka pa fa kb pb fb 1) (m.toNat + 1) (pl - 1).toNat 0 0 0 1000001).1 else if what = 1 then (mk_bp (mk_vb (fun x => mx_w cn go ch s x) pl ka pa fa kb pb fb 1) (m.toNat + 1) (pl - 1).toNat 0 0 0 1000001).2.1 else (mk_bp (mk_vb (fun x => mx_w cn go ch s x) pl ka pa fa kb pb fb 1) (m.toNat + 1) (pl - 1).toNat 0 0 0 1000001).2.2))] ∧ cE h' 66 (.inr (10, [fI pl, .ref 67, .ref 68, .ref 69, fI ((s : Nat) : Int), .ref 70, .ref 71, fI (f 7), fI (f 8), .ref 72, fI (f 10), fI (f 11), fI (f 12), fJ (f 13), fI (f 14), fI (f 15), fI (f 16), fI (f 17), .ref 73, .ref 74, .ref 75, .ref 76, .ref 77, .ref 78, fI w', .ref 79, .ref 80, .ref 81, .ref 82, .ref 83, .ref 84, .ref 85, fJ (f 32), fJ (f 33), .ref 86, .ref 87, fI (f 36), .ref 88, .ref 89, .ref 90, .ref 91, .ref 92, .ref 93])) ∧ cE h' 77 (.inl (.int, fA gt')) ∧ gt'.length = 5 ∧ cE h' 78 (.inl (.int, fA gd')) ∧ gd'.length = 5 ∧ cE h' 79 (.inl (.long, fL xs')) ∧ xs'.length = 12 ∧ cE h' 80 (.inl (.long, fL ys')) ∧ ys'.length = 12 ∧ cE h' 81 (.inl (.long, fL r1')) ∧ r1'.length = 201 ∧ cE h' 82 (.inl (.long, fL r2')) ∧ r2'.length = 201 ∧ cE h' 70 (.inl (.int, fA [ka, pa, fa, kb, pb, fb])) ∧ hfr [66, 77, 78, 79, 80, 81, 82, 70] h h')) (fun h_297 i2_297 mm_297 x_297 y_297 z_297 b_297 l_297 x10_297 x11_297 g_297_66 g_297_67 m_297_67 g_297_68 m_297_68 g_297_69 m_297_69 g_297_77 m_297_77 g_297_78 m_297_78 g_297_79 m_297_79 g_297_80 m_297_80 g_297_70 g_297_81 m_297_81 g_297_82 m_297_82 k_297 fr_297 hr_297 hX_297 v10_297 v11_297 => ?_) (m.toNat + 2) 0 mm x y z b l x10 x11 h_296 g_296_66 g_296_67 n67 g_296_68 n68 g_296_69 n69 g_296_77 m_296_77 g_296_78 m_296_78 g_296_79 m_296_79 g_296_80 m_296_80 g_296_70 g_296_81 m_296_81 g_296_82 m_296_82 k_296 fr_296 (by omega) (by omega) (by rw [show (m + 1 - 0).toNat = m.toNat + 1 by omega]) v10 v11 (by omega)
      refine fw_inc (a := p) (loc' := [some (.ref 66), some (fI 1), some (fI m), some (fI what), some (fI pb), some (fI fb), some (fI b_297), some (fI l_297), some (fI (p + 1)), some (fI i2_297), x10_297, x11_297]) rfl rfl (Nat.le_of_ble_eq_true rfl) rfl ?_
      refine ik_Wk 1 (pc' := 80) (loc' := [some (.ref 66), some (fI 1), some (fI m), some (fI what), some (fI pb), some (fI fb), some (fI b_297), some (fI l_297), some (fI (p + 1)), some (fI i2_297), x10_297, x11_297]) (st' := []) (h' := h_297) (cl' := 0) (sl' := 0) rfl ?_
      exact ih  (p + 1) p mm_297 x_297 y_297 z_297 b_297 l_297 w'_296 gt'_296 gd'_296 xs'_296 ys'_296 r1'_296 r2'_296 (some (fI i2_297)) x10_297 x11_297 h_297 g_297_66 g_297_67 m_297_67 g_297_68 m_297_68 g_297_69 m_297_69 g_297_77 m_297_77 g_297_78 m_297_78 g_297_79 m_297_79 g_297_80 m_297_80 g_297_70 g_297_81 m_297_81 g_297_82 m_297_82 k_297 fr_297 (by omega) (Or.inr hr_297) (by rw [he, show (pl - 1 - p).toNat = (pl - 1 - (p + 1)).toNat + 1 by omega]; show mk_bp (mk_vb (fun x => mx_w cn go ch s x) pl ka pa fa kb pb fb 1) (m.toNat + 1) _ (p + 1) _ _ _ = _; rw [hX_297]) rfl v10_297 v11_297 (by omega)

theorem rp_best1 {h : List ik_E} {pl : Int} {f : Nat → Int} {s : Nat} {cn : List Int} {go : List Int} {ch : List Int} {gt : List Int} {gd : List Int} {xs : List Int} {ys : List Int} {ka : Int} {pa : Int} {fa : Int} {kb : Int} {pb : Int} {fb : Int} {r1 : List Int} {r2 : List Int} {m : Int} {what : Int} (q0 : 0 ≤ pl ∧ pl ≤ 12) (q1 : s < 4096) (q2 : ∀ x : Int, 0 ≤ x → x < pl - 1 → 0 ≤ cn.getD x.toNat 0 ∧ cn.getD x.toNat 0 ≤ 4) (q3 : ∀ x : Int, 0 ≤ x → x < pl - 1 → 1 ≤ cn.getD x.toNat 0 ∧ ∀ j : Int, 4 * x ≤ j → j < 4 * x + cn.getD x.toNat 0 → 0 ≤ ch.getD j.toNat 0 ∧ ch.getD j.toNat 0 ≤ 100) (q4 : ∀ x : Int, 0 ≤ x → x < pl - 1 → mx_ok pl (mx_w cn go ch s x)) (q5 : 0 ≤ ka ∧ ka ≤ 2) (q6 : 0 ≤ kb ∧ kb ≤ 2) (q7 : 1 < pl → 0 ≤ pa ∧ pa < pl - 1) (q8 : 1 < pl → 0 ≤ pb ∧ pb < pl - 1) (q9 : 0 ≤ fa ∧ fa ≤ 30) (q10 : 0 ≤ fb ∧ fb ≤ 30) (q11 : -2147483648 ≤ m ∧ m < 2147483648) (q12 : -2147483648 ≤ what ∧ what < 2147483648) (h66 : cE h 66 (.inr (10, [fI pl, .ref 67, .ref 68, .ref 69, fI ((s : Nat) : Int), .ref 70, .ref 71, fI (f 7), fI (f 8), .ref 72, fI (f 10), fI (f 11), fI (f 12), fJ (f 13), fI (f 14), fI (f 15), fI (f 16), fI (f 17), .ref 73, .ref 74, .ref 75, .ref 76, .ref 77, .ref 78, fI (f 24), .ref 79, .ref 80, .ref 81, .ref 82, .ref 83, .ref 84, .ref 85, fJ (f 32), fJ (f 33), .ref 86, .ref 87, fI (f 36), .ref 88, .ref 89, .ref 90, .ref 91, .ref 92, .ref 93]))) (h67 : cE h 67 (.inl (.int, fA cn))) (n67 : cn.length = 12) (h68 : cE h 68 (.inl (.int, fA go))) (n68 : go.length = 48) (h69 : cE h 69 (.inl (.int, fA ch))) (n69 : ch.length = 48) (h77 : cE h 77 (.inl (.int, fA gt))) (n77 : gt.length = 5) (h78 : cE h 78 (.inl (.int, fA gd))) (n78 : gd.length = 5) (h79 : cE h 79 (.inl (.long, fL xs))) (n79 : xs.length = 12) (h80 : cE h 80 (.inl (.long, fL ys))) (n80 : ys.length = 12) (h70 : cE h 70 (.inl (.int, fA [ka, pa, fa, kb, pb, fb]))) (h81 : cE h 81 (.inl (.long, fL r1))) (n81 : r1.length = 201) (h82 : cE h 82 (.inl (.long, fL r2))) (n82 : r2.length = 201) (hl : h.length = 94) : ik_F 171 [.ref 66, fI 1, fI m, fI what] h (fun rv h' => ∃ (w' : Int) (gt' : List Int) (gd' : List Int) (xs' : List Int) (ys' : List Int) (r1' : List Int) (r2' : List Int), rv = [fI (an_be m what pl (if what = 0 then (mk_bp (mk_vb (fun x => mx_w cn go ch s x) pl ka pa fa kb pb fb 1) (m.toNat + 1) (pl - 1).toNat 0 0 0 1000001).1 else if what = 1 then (mk_bp (mk_vb (fun x => mx_w cn go ch s x) pl ka pa fa kb pb fb 1) (m.toNat + 1) (pl - 1).toNat 0 0 0 1000001).2.1 else (mk_bp (mk_vb (fun x => mx_w cn go ch s x) pl ka pa fa kb pb fb 1) (m.toNat + 1) (pl - 1).toNat 0 0 0 1000001).2.2))] ∧ cE h' 66 (.inr (10, [fI pl, .ref 67, .ref 68, .ref 69, fI ((s : Nat) : Int), .ref 70, .ref 71, fI (f 7), fI (f 8), .ref 72, fI (f 10), fI (f 11), fI (f 12), fJ (f 13), fI (f 14), fI (f 15), fI (f 16), fI (f 17), .ref 73, .ref 74, .ref 75, .ref 76, .ref 77, .ref 78, fI w', .ref 79, .ref 80, .ref 81, .ref 82, .ref 83, .ref 84, .ref 85, fJ (f 32), fJ (f 33), .ref 86, .ref 87, fI (f 36), .ref 88, .ref 89, .ref 90, .ref 91, .ref 92, .ref 93])) ∧ cE h' 77 (.inl (.int, fA gt')) ∧ gt'.length = 5 ∧ cE h' 78 (.inl (.int, fA gd')) ∧ gd'.length = 5 ∧ cE h' 79 (.inl (.long, fL xs')) ∧ xs'.length = 12 ∧ cE h' 80 (.inl (.long, fL ys')) ∧ ys'.length = 12 ∧ cE h' 81 (.inl (.long, fL r1')) ∧ r1'.length = 201 ∧ cE h' 82 (.inl (.long, fL r2')) ∧ r2'.length = 201 ∧ cE h' 70 (.inl (.int, fA [ka, pa, fa, kb, pb, fb])) ∧ hfr [66, 77, 78, 79, 80, 81, 82, 70] h h') := by
  refine ik_Wk 1 (pc' := 1) (loc' := [some (.ref 66), some (fI 1), some (fI m), some (fI what), none, none, none, none, none, none, none, none]) (st' := [fI 1]) (h' := h) (cl' := 0) (sl' := 0) rfl ?_
  refine ik_Wc 132 1 3 [fI 1] [] rfl rfl rfl (by decide) rfl rfl (fw_sta hl rfl (by decide)) ?_
  refine ik_Wk 0 (pc' := 0) (loc' := [some (fI 1)]) (st' := []) (h' := h) (cl' := 0) (sl' := 0) rfl ?_
  refine ik_Wk 1 (pc' := 1) (loc' := [some (fI 1)]) (st' := [fI 1]) (h' := h) (cl' := 0) (sl' := 0) rfl ?_
  refine fw_i2l rfl (by omega) (by omega) ?_
  refine fw_lc (z := 0) rfl (by decide) ?_
  refine fw_lc (z := 1) rfl (by decide) ?_
  refine fw_call 127 3 3 [fJ 1, fJ 0, fJ 1] [] rfl rfl rfl (by decide) rfl rfl (fw_sta hl rfl (by decide)) (cr_in (v := 1) (a := 0) (b := 1) (by omega) (by omega) (by omega)  hl) ?_
  rintro _ h_298 (⟨rfl, p_298_0, F_298⟩ | ⟨rfl, p_298_0, F_298⟩)
  · have k_298 := F_298.1.trans hl
    have fr_298 := hfr_c (hfr_refl [66, 77, 78, 79, 80, 81, 82, 70] h) F_298 (by decide)
    have g_298_66 := (F_298.2 66 (by decide +kernel)).trans h66
    have g_298_67 := (F_298.2 67 (by decide +kernel)).trans h67
    have g_298_68 := (F_298.2 68 (by decide +kernel)).trans h68
    have g_298_69 := (F_298.2 69 (by decide +kernel)).trans h69
    have g_298_77 := (F_298.2 77 (by decide +kernel)).trans h77
    have g_298_78 := (F_298.2 78 (by decide +kernel)).trans h78
    have g_298_79 := (F_298.2 79 (by decide +kernel)).trans h79
    have g_298_80 := (F_298.2 80 (by decide +kernel)).trans h80
    have g_298_70 := (F_298.2 70 (by decide +kernel)).trans h70
    have g_298_81 := (F_298.2 81 (by decide +kernel)).trans h81
    have g_298_82 := (F_298.2 82 (by decide +kernel)).trans h82
    refine ik_Wk 0 (pc' := 7) (loc' := [some (fI 1)]) (st' := [fI 1]) (h' := h_298) (cl' := 0) (sl' := 0) rfl ?_
    refine ik_Wret rfl rfl ⟨_, _, rfl, rfl, ?_⟩
    refine ik_Wk 0 (pc' := 4) (loc' := [some (.ref 66), some (fI 1), some (fI m), some (fI what), none, none, none, none, none, none, none, none]) (st' := [fI 1]) (h' := h_298) (cl' := 0) (sl' := 0) rfl ?_
    refine fw_if_ne rfl rfl (by omega) (by omega) (fun hc1 => absurd hc1 (by omega)) (fun hc1 => ?_)
    refine ik_Wk 1 (pc' := 11) (loc' := [some (.ref 66), some (fI 1), some (fI m), some (fI what), none, none, none, none, none, none, none, none]) (st' := [fI m]) (h' := h_298) (cl' := 0) (sl' := 0) rfl ?_
    refine fw_i2l rfl (by omega) (by omega) ?_
    refine fw_lc (z := 0) rfl (by decide) ?_
    refine fw_l2 10 rfl rfl (by decide) ?_
    refine fw_call 127 3 3 [fJ m, fJ 0, fJ 10] [] rfl rfl rfl (by decide) rfl rfl (fw_sta k_298 rfl (by decide)) (cr_in (v := m) (a := 0) (b := 10) (by omega) (by omega) (by omega)  k_298) ?_
    rintro _ h_299 (⟨rfl, p_299_0, F_299⟩ | ⟨rfl, p_299_0, F_299⟩)
    · have k_299 := F_299.1.trans k_298
      have fr_299 := hfr_c fr_298 F_299 (by decide)
      have g_299_66 := (F_299.2 66 (by decide +kernel)).trans g_298_66
      have g_299_67 := (F_299.2 67 (by decide +kernel)).trans g_298_67
      have g_299_68 := (F_299.2 68 (by decide +kernel)).trans g_298_68
      have g_299_69 := (F_299.2 69 (by decide +kernel)).trans g_298_69
      have g_299_77 := (F_299.2 77 (by decide +kernel)).trans g_298_77
      have g_299_78 := (F_299.2 78 (by decide +kernel)).trans g_298_78
      have g_299_79 := (F_299.2 79 (by decide +kernel)).trans g_298_79
      have g_299_80 := (F_299.2 80 (by decide +kernel)).trans g_298_80
      have g_299_70 := (F_299.2 70 (by decide +kernel)).trans g_298_70
      have g_299_81 := (F_299.2 81 (by decide +kernel)).trans g_298_81
      have g_299_82 := (F_299.2 82 (by decide +kernel)).trans g_298_82
      refine ik_Wk 0 (pc' := 19) (loc' := [some (.ref 66), some (fI 1), some (fI m), some (fI what), none, none, none, none, none, none, none, none]) (st' := [fI 1]) (h' := h_299) (cl' := 0) (sl' := 0) rfl ?_
      refine fw_if_eq rfl rfl (by omega) (by omega) (fun hc2 => absurd hc2 (by omega)) (fun hc2 => ?_)
      refine ik_Wk 1 (pc' := 23) (loc' := [some (.ref 66), some (fI 1), some (fI m), some (fI what), none, none, none, none, none, none, none, none]) (st' := [fI what]) (h' := h_299) (cl' := 0) (sl' := 0) rfl ?_
      refine fw_i2l rfl (by omega) (by omega) ?_
      refine fw_lc (z := 0) rfl (by decide) ?_
      refine fw_l2 2 rfl rfl (by decide) ?_
      refine fw_call 127 3 3 [fJ what, fJ 0, fJ 2] [] rfl rfl rfl (by decide) rfl rfl (fw_sta k_299 rfl (by decide)) (cr_in (v := what) (a := 0) (b := 2) (by omega) (by omega) (by omega)  k_299) ?_
      rintro _ h_300 (⟨rfl, p_300_0, F_300⟩ | ⟨rfl, p_300_0, F_300⟩)
      · have k_300 := F_300.1.trans k_299
        have fr_300 := hfr_c fr_299 F_300 (by decide)
        have g_300_66 := (F_300.2 66 (by decide +kernel)).trans g_299_66
        have g_300_67 := (F_300.2 67 (by decide +kernel)).trans g_299_67
        have g_300_68 := (F_300.2 68 (by decide +kernel)).trans g_299_68
        have g_300_69 := (F_300.2 69 (by decide +kernel)).trans g_299_69
        have g_300_77 := (F_300.2 77 (by decide +kernel)).trans g_299_77
        have g_300_78 := (F_300.2 78 (by decide +kernel)).trans g_299_78
        have g_300_79 := (F_300.2 79 (by decide +kernel)).trans g_299_79
        have g_300_80 := (F_300.2 80 (by decide +kernel)).trans g_299_80
        have g_300_70 := (F_300.2 70 (by decide +kernel)).trans g_299_70
        have g_300_81 := (F_300.2 81 (by decide +kernel)).trans g_299_81
        have g_300_82 := (F_300.2 82 (by decide +kernel)).trans g_299_82
        refine ik_Wk 0 (pc' := 31) (loc' := [some (.ref 66), some (fI 1), some (fI m), some (fI what), none, none, none, none, none, none, none, none]) (st' := [fI 1]) (h' := h_300) (cl' := 0) (sl' := 0) rfl ?_
        refine fw_if_ne rfl rfl (by omega) (by omega) (fun hc3 => absurd hc3 (by omega)) (fun hc3 => ?_)
        refine ik_Wk 1 (pc' := 38) (loc' := [some (.ref 66), some (fI 1), some (fI m), some (fI what), none, none, none, none, none, none, none, none]) (st' := [.ref 66]) (h' := h_300) (cl' := 0) (sl' := 0) rfl ?_
        refine ik_Wc 134 1 0 [.ref 66] [] rfl rfl rfl (by decide) rfl rfl (fw_rec k_300 rfl g_300_66 rfl (by decide)) ?_
        refine ik_Wk 0 (pc' := 0) (loc' := [some (.ref 66)]) (st' := []) (h' := h_300) (cl' := 0) (sl' := 0) rfl ?_
        refine ik_Wk 1 (pc' := 1) (loc' := [some (.ref 66)]) (st' := [.ref 66]) (h' := h_300) (cl' := 0) (sl' := 0) rfl ?_
        refine fw_gf rfl rfl g_300_66 rfl ?_
        refine ik_Wk 1 (pc' := 5) (loc' := [some (.ref 66)]) (st' := [fI 1, fI pl]) (h' := h_300) (cl' := 0) (sl' := 0) rfl ?_
        refine fw_ic_le rfl rfl (by omega) (by omega) (by omega) (by omega) (fun hc4 => ?_) (fun hc4 => ?_)
        · refine ik_Wk 1 (pc' := 13) (loc' := [some (.ref 66)]) (st' := [fI 0]) (h' := h_300) (cl' := 0) (sl' := 0) rfl ?_
          refine ik_Wret rfl rfl ⟨_, _, rfl, rfl, ?_⟩
          refine ik_Wk 0 (pc' := 41) (loc' := [some (.ref 66), some (fI 1), some (fI m), some (fI what), none, none, none, none, none, none, none, none]) (st' := [fI 0]) (h' := h_300) (cl' := 0) (sl' := 0) rfl ?_
          refine fw_if_ne rfl rfl (by omega) (by omega) (fun hc5 => ?_) (fun hc5 => absurd hc5 (by omega))
          refine fw_ld (-1000000003) rfl rfl (by decide) ?_
          exact ik_Wret rfl rfl ⟨_, _, rfl, rfl, rfl, rfl, ⟨(f 24), gt, gd, xs, ys, r1, r2, (congrArg (fun z => [fI z]) (by unfold an_be; (repeat' split) <;> first | rfl | omega)), g_300_66, g_300_77, n77, g_300_78, n78, g_300_79, n79, g_300_80, n80, g_300_81, n81, g_300_82, n82, g_300_70, fr_300⟩⟩
        · refine ik_Wk 2 (pc' := 13) (loc' := [some (.ref 66)]) (st' := [fI 1]) (h' := h_300) (cl' := 0) (sl' := 0) rfl ?_
          refine ik_Wret rfl rfl ⟨_, _, rfl, rfl, ?_⟩
          refine ik_Wk 0 (pc' := 41) (loc' := [some (.ref 66), some (fI 1), some (fI m), some (fI what), none, none, none, none, none, none, none, none]) (st' := [fI 1]) (h' := h_300) (cl' := 0) (sl' := 0) rfl ?_
          refine fw_if_ne rfl rfl (by omega) (by omega) (fun hc6 => absurd hc6 (by omega)) (fun hc6 => ?_)
          refine ik_Wk 1 (pc' := 48) (loc' := [some (.ref 66), some (fI 1), some (fI m), some (fI what), none, none, none, none, none, none, none, none]) (st' := [.ref 66]) (h' := h_300) (cl' := 0) (sl' := 0) rfl ?_
          refine fw_gf rfl rfl g_300_66 rfl ?_
          refine ik_Wk 2 (pc' := 53) (loc' := [some (.ref 66), some (fI 1), some (fI m), some (fI what), none, none, none, none, none, none, none, none]) (st' := [fI 1, fI 3, .ref 70]) (h' := h_300) (cl' := 0) (sl' := 0) rfl ?_
          refine fw_mul rfl ?_
          refine ik_Wk 1 (pc' := 55) (loc' := [some (.ref 66), some (fI 1), some (fI m), some (fI what), none, none, none, none, none, none, none, none]) (st' := [fI 1, fI 3, .ref 70]) (h' := h_300) (cl' := 0) (sl' := 0) rfl ?_
          refine fw_add rfl ?_
          refine fw_ial (z := 4) rfl g_300_70 (by decide) (Nat.le_of_ble_eq_true rfl) (by decide) ?_
          refine ik_Wk 0 (pc' := 57) (loc' := [some (.ref 66), some (fI 1), some (fI m), some (fI what), none, none, none, none, none, none, none, none]) (st' := [fI pb]) (h' := h_300) (cl' := 0) (sl' := 0) rfl ?_
          refine ik_Wk 2 (pc' := 60) (loc' := [some (.ref 66), some (fI 1), some (fI m), some (fI what), some (fI pb), none, none, none, none, none, none, none]) (st' := [.ref 66]) (h' := h_300) (cl' := 0) (sl' := 0) rfl ?_
          refine fw_gf rfl rfl g_300_66 rfl ?_
          refine ik_Wk 2 (pc' := 65) (loc' := [some (.ref 66), some (fI 1), some (fI m), some (fI what), some (fI pb), none, none, none, none, none, none, none]) (st' := [fI 1, fI 3, .ref 70]) (h' := h_300) (cl' := 0) (sl' := 0) rfl ?_
          refine fw_mul rfl ?_
          refine ik_Wk 1 (pc' := 67) (loc' := [some (.ref 66), some (fI 1), some (fI m), some (fI what), some (fI pb), none, none, none, none, none, none, none]) (st' := [fI 2, fI 3, .ref 70]) (h' := h_300) (cl' := 0) (sl' := 0) rfl ?_
          refine fw_add rfl ?_
          refine fw_ial (z := 5) rfl g_300_70 (by decide) (Nat.le_of_ble_eq_true rfl) (by decide) ?_
          refine ik_Wk 0 (pc' := 69) (loc' := [some (.ref 66), some (fI 1), some (fI m), some (fI what), some (fI pb), none, none, none, none, none, none, none]) (st' := [fI fb]) (h' := h_300) (cl' := 0) (sl' := 0) rfl ?_
          refine ik_Wk 7 (pc' := 80) (loc' := [some (.ref 66), some (fI 1), some (fI m), some (fI what), some (fI pb), some (fI fb), some (fI (-1)), some (fI 0), some (fI 0), none, none, none]) (st' := []) (h' := h_300) (cl' := 0) (sl' := 0) rfl ?_
          exact rp_best1L (pl := pl) (f := f) (s := s) (cn := cn) (go := go) (ch := ch) (gt := gt) (gd := gd) (xs := xs) (ys := ys) (ka := ka) (pa := pa) (fa := fa) (kb := kb) (pb := pb) (fb := fb) (r1 := r1) (r2 := r2) (m := m) (what := what) q0 q1 q2 q3 q4 q5 q6 q7 q8 q9 q10 q11 q12 (by omega) (by omega) (by omega) (pl.toNat + 1) 0 pb fb 0 0 1000001 (-1) 0 (f 24) gt gd xs ys r1 r2 none none none h_300 g_300_66 g_300_67 n67 g_300_68 n68 g_300_69 n69 g_300_77 n77 g_300_78 n78 g_300_79 n79 g_300_80 n80 g_300_70 g_300_81 n81 g_300_82 n82 k_300 fr_300 (by omega) (by omega) (by rw [Int.sub_zero]) rfl rfl rfl (by omega)
      · have k_300 := F_300.1.trans k_299
        have fr_300 := hfr_c fr_299 F_300 (by decide)
        have g_300_66 := (F_300.2 66 (by decide +kernel)).trans g_299_66
        have g_300_67 := (F_300.2 67 (by decide +kernel)).trans g_299_67
        have g_300_68 := (F_300.2 68 (by decide +kernel)).trans g_299_68
        have g_300_69 := (F_300.2 69 (by decide +kernel)).trans g_299_69
        have g_300_77 := (F_300.2 77 (by decide +kernel)).trans g_299_77
        have g_300_78 := (F_300.2 78 (by decide +kernel)).trans g_299_78
        have g_300_79 := (F_300.2 79 (by decide +kernel)).trans g_299_79
        have g_300_80 := (F_300.2 80 (by decide +kernel)).trans g_299_80
        have g_300_70 := (F_300.2 70 (by decide +kernel)).trans g_299_70
        have g_300_81 := (F_300.2 81 (by decide +kernel)).trans g_299_81
        have g_300_82 := (F_300.2 82 (by decide +kernel)).trans g_299_82
        refine ik_Wk 0 (pc' := 31) (loc' := [some (.ref 66), some (fI 1), some (fI m), some (fI what), none, none, none, none, none, none, none, none]) (st' := [fI 0]) (h' := h_300) (cl' := 0) (sl' := 0) rfl ?_
        refine fw_if_ne rfl rfl (by omega) (by omega) (fun hc7 => ?_) (fun hc7 => absurd hc7 (by omega))
        refine fw_ld (-1000000002) rfl rfl (by decide) ?_
        exact ik_Wret rfl rfl ⟨_, _, rfl, rfl, rfl, rfl, ⟨(f 24), gt, gd, xs, ys, r1, r2, (congrArg (fun z => [fI z]) (by unfold an_be; (repeat' split) <;> first | rfl | omega)), g_300_66, g_300_77, n77, g_300_78, n78, g_300_79, n79, g_300_80, n80, g_300_81, n81, g_300_82, n82, g_300_70, fr_300⟩⟩
    · have k_299 := F_299.1.trans k_298
      have fr_299 := hfr_c fr_298 F_299 (by decide)
      have g_299_66 := (F_299.2 66 (by decide +kernel)).trans g_298_66
      have g_299_67 := (F_299.2 67 (by decide +kernel)).trans g_298_67
      have g_299_68 := (F_299.2 68 (by decide +kernel)).trans g_298_68
      have g_299_69 := (F_299.2 69 (by decide +kernel)).trans g_298_69
      have g_299_77 := (F_299.2 77 (by decide +kernel)).trans g_298_77
      have g_299_78 := (F_299.2 78 (by decide +kernel)).trans g_298_78
      have g_299_79 := (F_299.2 79 (by decide +kernel)).trans g_298_79
      have g_299_80 := (F_299.2 80 (by decide +kernel)).trans g_298_80
      have g_299_70 := (F_299.2 70 (by decide +kernel)).trans g_298_70
      have g_299_81 := (F_299.2 81 (by decide +kernel)).trans g_298_81
      have g_299_82 := (F_299.2 82 (by decide +kernel)).trans g_298_82
      refine ik_Wk 0 (pc' := 19) (loc' := [some (.ref 66), some (fI 1), some (fI m), some (fI what), none, none, none, none, none, none, none, none]) (st' := [fI 0]) (h' := h_299) (cl' := 0) (sl' := 0) rfl ?_
      refine fw_if_eq rfl rfl (by omega) (by omega) (fun hc8 => ?_) (fun hc8 => absurd hc8 (by omega))
      refine fw_ld (-1000000002) rfl rfl (by decide) ?_
      exact ik_Wret rfl rfl ⟨_, _, rfl, rfl, rfl, rfl, ⟨(f 24), gt, gd, xs, ys, r1, r2, (congrArg (fun z => [fI z]) (by unfold an_be; (repeat' split) <;> first | rfl | omega)), g_299_66, g_299_77, n77, g_299_78, n78, g_299_79, n79, g_299_80, n80, g_299_81, n81, g_299_82, n82, g_299_70, fr_299⟩⟩
  · have k_298 := F_298.1.trans hl
    have fr_298 := hfr_c (hfr_refl [66, 77, 78, 79, 80, 81, 82, 70] h) F_298 (by decide)
    have g_298_66 := (F_298.2 66 (by decide +kernel)).trans h66
    have g_298_67 := (F_298.2 67 (by decide +kernel)).trans h67
    have g_298_68 := (F_298.2 68 (by decide +kernel)).trans h68
    have g_298_69 := (F_298.2 69 (by decide +kernel)).trans h69
    have g_298_77 := (F_298.2 77 (by decide +kernel)).trans h77
    have g_298_78 := (F_298.2 78 (by decide +kernel)).trans h78
    have g_298_79 := (F_298.2 79 (by decide +kernel)).trans h79
    have g_298_80 := (F_298.2 80 (by decide +kernel)).trans h80
    have g_298_70 := (F_298.2 70 (by decide +kernel)).trans h70
    have g_298_81 := (F_298.2 81 (by decide +kernel)).trans h81
    have g_298_82 := (F_298.2 82 (by decide +kernel)).trans h82
    refine ik_Wk 0 (pc' := 7) (loc' := [some (fI 1)]) (st' := [fI 0]) (h' := h_298) (cl' := 0) (sl' := 0) rfl ?_
    refine ik_Wret rfl rfl ⟨_, _, rfl, rfl, ?_⟩
    refine ik_Wk 0 (pc' := 4) (loc' := [some (.ref 66), some (fI 1), some (fI m), some (fI what), none, none, none, none, none, none, none, none]) (st' := [fI 0]) (h' := h_298) (cl' := 0) (sl' := 0) rfl ?_
    refine fw_if_ne rfl rfl (by omega) (by omega) (fun hc9 => ?_) (fun hc9 => absurd hc9 (by omega))
    refine fw_ld (-1000000001) rfl rfl (by decide) ?_
    exact ik_Wret rfl rfl ⟨_, _, rfl, rfl, rfl, rfl, ⟨(f 24), gt, gd, xs, ys, r1, r2, (congrArg (fun z => [fI z]) (by unfold an_be; (repeat' split) <;> first | rfl | omega)), g_298_66, g_298_77, n77, g_298_78, n78, g_298_79, n79, g_298_80, n80, g_298_81, n81, g_298_82, n82, g_298_70, fr_298⟩⟩

end