noncomputable section
theorem cr_fitNowL {h : List ik_E} {pl : Int} {f : Nat → Int} {s : Nat} {cn : List Int} {go : List Int} {ch : List Int} {gt : List Int} {gd : List Int} {xs : List Int} {ys : List Int} {r : Int} {rp : List Int} {rt : List Int} (q0 : 0 ≤ pl ∧ pl ≤ 12) (q1 : s < 4096) (q2 : mx_rw pl cn go ch) (q3 : 0 ≤ r ∧ r ≤ 12) (q4 : mk_rr pl r rp rt)  : ∀ (k : Nat) (i : Int) (hw : Int) (w1 : Int) (g1 : List Int) (d1 : List Int) (x1 : List Int) (y1 : List Int) (x4 : Option Value) (u : List ik_E) (u66 : cE u 66 (.inr (10, [fI pl, .ref 67, .ref 68, .ref 69, fI ((s : Nat) : Int), .ref 70, .ref 71, fI (f 7), fI (f 8), .ref 72, fI (f 10), fI (f 11), fI (f 12), fJ (f 13), fI (f 14), fI (f 15), fI (f 16), fI (f 17), .ref 73, .ref 74, .ref 75, .ref 76, .ref 77, .ref 78, fI w1, .ref 79, .ref 80, .ref 81, .ref 82, .ref 83, .ref 84, .ref 85, fJ (f 32), fJ (f 33), .ref 86, .ref 87, fI r, .ref 88, .ref 89, .ref 90, .ref 91, .ref 92, .ref 93]))) (u67 : cE u 67 (.inl (.int, fA cn))) (n67 : cn.length = 12) (u68 : cE u 68 (.inl (.int, fA go))) (n68 : go.length = 48) (u69 : cE u 69 (.inl (.int, fA ch))) (n69 : ch.length = 48) (u77 : cE u 77 (.inl (.int, fA g1))) (n77 : g1.length = 5) (u78 : cE u 78 (.inl (.int, fA d1))) (n78 : d1.length = 5) (u79 : cE u 79 (.inl (.long, fL x1))) (n79 : x1.length = 12) (u80 : cE u 80 (.inl (.long, fL y1))) (n80 : y1.length = 12) (u88 : cE u 88 (.inl (.int, fA rp))) (n88 : rp.length = 12) (u89 : cE u 89 (.inl (.int, fA rt))) (n89 : rt.length = 12) (ul : u.length = 94) (F : hfr [66, 77, 78, 79, 80] h u) (hi : 0 ≤ i ∧ i ≤ r) (he : hw = mk_ft (mk_J (fun x => mx_w cn go ch s x) pl rp rt) i.toNat) (w4 : ik_wl 94 x4 = true) (hk : r - i < (k : Int)), ik_G 185 6 [some (.ref 66), some (fJ hw), none, some (fI i), x4, none] [] u (fun rv h' => ∃ (w' : Int) (gt' : List Int) (gd' : List Int) (xs' : List Int) (ys' : List Int), rv = [fI (mk_fv cn go ch s pl rp rt r)] ∧ cE h' 66 (.inr (10, [fI pl, .ref 67, .ref 68, .ref 69, fI ((s : Nat) : Int), .ref 70, .ref 71, fI (f 7), fI (f 8), .ref 72, fI (f 10), fI (f 11), fI (f 12), fJ (f 13), fI (f 14), fI (f 15), fI (f 16), fI (f 17), .ref 73, .ref 74, .ref 75, .ref 76, .ref 77, .ref 78, fI w', .ref 79, .ref 80, .ref 81, .ref 82, .ref 83, .ref 84, .ref 85, fJ (f 32), fJ (f 33), .ref 86, .ref 87, fI r, .ref 88, .ref 89, .ref 90, .ref 91, .ref 92, .ref 93])) ∧ cE h' 77 (.inl (.int, fA gt')) ∧ gt'.length = 5 ∧ cE h' 78 (.inl (.int, fA gd')) ∧ gd'.length = 5 ∧ cE h' 79 (.inl (.long, fL xs')) ∧ xs'.length = 12 ∧ cE h' 80 (.inl (.long, fL ys')) ∧ ys'.length = 12 ∧ hfr [66, 77, 78, 79, 80] h h') := by
  intro k
  induction k with
  | zero => intro i hw w1 g1 d1 x1 y1 x4 u u66 u67 n67 u68 n68 u69 n69 u77 n77 u78 n78 u79 n79 u80 n80 u88 n88 u89 n89 ul F hi he w4 hk; omega
  | succ k ih =>
    intro i hw w1 g1 d1 x1 y1 x4 u u66 u67 n67 u68 n68 u69 n69 u77 n77 u78 n78 u79 n79 u80 n80 u88 n88 u89 n89 ul F hi he w4 hk
    refine ik_Wk 2 (pc' := 8) (loc' := [some (.ref 66), some (fJ hw), none, some (fI i), x4, none]) (st' := [.ref 66, fI i]) (h' := u) (cl' := 0) (sl' := 0) rfl ?_
    refine fw_gf rfl rfl u66 rfl ?_
    refine fw_ic_ge rfl rfl (by omega) (by omega) (by omega) (by omega) (fun hc1 => ?_) (fun hc1 => ?_)
    · refine ik_Wk 1 (pc' := 90) (loc' := [some (.ref 66), some (fJ hw), none, some (fI i), x4, none]) (st' := [fJ hw]) (h' := u) (cl' := 0) (sl' := 0) rfl ?_
      refine fx_l2i rfl ?_
      have ei : i = r := by omega
      rw [ei] at he
      exact ik_Wret rfl rfl ⟨_, _, rfl, rfl, rfl, rfl, ⟨w1, g1, d1, x1, y1, (congrArg (fun z => [fI z]) he), u66, u77, n77, u78, n78, u79, n79, u80, n80, F⟩⟩
    · refine ik_Wk 3 (pc' := 17) (loc' := [some (.ref 66), some (fJ hw), none, some (fI i), x4, none]) (st' := [.ref 66, fI 0, .ref 66]) (h' := u) (cl' := 0) (sl' := 0) rfl ?_
      refine fw_gf rfl rfl u66 rfl ?_
      refine ik_Wk 1 (pc' := 21) (loc' := [some (.ref 66), some (fJ hw), none, some (fI i), x4, none]) (st' := [fI i, .ref 88, fI 0, .ref 66]) (h' := u) (cl' := 0) (sl' := 0) rfl ?_
      refine fw_ial rfl u88 (by omega) (by omega) (by omega) ?_
      have hr := q4 i.toNat (by omega)
      refine ik_Wk 1 (pc' := 23) (loc' := [some (.ref 66), some (fJ hw), none, some (fI i), x4, none]) (st' := [.ref 66, fI (rp.getD i.toNat 0), fI 0, .ref 66]) (h' := u) (cl' := 0) (sl' := 0) rfl ?_
      refine fw_gf rfl rfl u66 rfl ?_
      refine ik_Wk 1 (pc' := 27) (loc' := [some (.ref 66), some (fJ hw), none, some (fI i), x4, none]) (st' := [fI i, .ref 89, fI (rp.getD i.toNat 0), fI 0, .ref 66]) (h' := u) (cl' := 0) (sl' := 0) rfl ?_
      refine fw_ial rfl u89 (by omega) (by omega) (by omega) ?_
      refine ik_Wk 1 (pc' := 29) (loc' := [some (.ref 66), some (fJ hw), none, some (fI i), x4, none]) (st' := [fI 1, fI (rt.getD i.toNat 0), fI (rp.getD i.toNat 0), fI 0, .ref 66]) (h' := u) (cl' := 0) (sl' := 0) rfl ?_
      refine fw_sub rfl ?_
      refine fw_call 156 4 0 [.ref 66, fI 0, fI (rp.getD i.toNat 0), fI ((rt.getD i.toNat 0) - 1)] [] rfl rfl rfl (by decide) rfl rfl (fw_rec ul (fw_ftx rfl wv_n (wl_c rfl (wl_c rfl (wl_c rfl (wl_c rfl (wl_c w4 (wl_c rfl wl_n))))))) u66 rfl (by decide)) (cr_oddsAt (pl := pl) (f := fun j => ([0, 0, 0, 0, 0, 0, 0, f 7, f 8, 0, f 10, f 11, f 12, f 13, f 14, f 15, f 16, f 17, 0, 0, 0, 0, 0, 0, w1, 0, 0, 0, 0, 0, 0, 0, f 32, f 33, 0, 0, r, 0, 0, 0, 0, 0, 0] : List Int).getD j 0) (s := s) (cn := cn) (go := go) (ch := ch) (gt := g1) (gd := d1) (xs := x1) (ys := y1) (kd := 0) (qp := rp.getD i.toNat 0) (t := (rt.getD i.toNat 0) - 1) (by omega) (by omega) (fun x h0 h1 => by have := (q2 x h0 h1).1; omega) (mx_rw_ch q2) (mx_rw_ok q2 _) (by omega) (by omega) (by omega) u66 u67 n67 u68 n68 u69 n69 u77 n77 u78 n78 u79 n79 u80 n80 ul) ?_
      rintro _ h_301 ⟨w'_301, gt'_301, gd'_301, xs'_301, ys'_301, rfl, e_301_66, e_301_77, m_301_77, e_301_78, m_301_78, e_301_79, m_301_79, e_301_80, m_301_80, p_301_0, F_301⟩
      have k_301 := F_301.1.trans ul
      have fr_301 := hfr_c F F_301 (by decide)
      have g_301_67 := (F_301.2 67 (by decide +kernel)).trans u67
      have g_301_68 := (F_301.2 68 (by decide +kernel)).trans u68
      have g_301_69 := (F_301.2 69 (by decide +kernel)).trans u69
      have g_301_88 := (F_301.2 88 (by decide +kernel)).trans u88
      have g_301_89 := (F_301.2 89 (by decide +kernel)).trans u89
      have g_301_66 : cE h_301 66 (.inr (10, [fI pl, .ref 67, .ref 68, .ref 69, fI ((s : Nat) : Int), .ref 70, .ref 71, fI (f 7), fI (f 8), .ref 72, fI (f 10), fI (f 11), fI (f 12), fJ (f 13), fI (f 14), fI (f 15), fI (f 16), fI (f 17), .ref 73, .ref 74, .ref 75, .ref 76, .ref 77, .ref 78, fI w'_301, .ref 79, .ref 80, .ref 81, .ref 82, .ref 83, .ref 84, .ref 85, fJ (f 32), fJ (f 33), .ref 86, .ref 87, fI r, .ref 88, .ref 89, .ref 90, .ref 91, .ref 92, .ref 93])) := e_301_66
      have g_301_77 : cE h_301 77 (.inl (.int, fA gt'_301)) := e_301_77
      have g_301_78 : cE h_301 78 (.inl (.int, fA gd'_301)) := e_301_78
      have g_301_79 : cE h_301 79 (.inl (.long, fL xs'_301)) := e_301_79
      have g_301_80 : cE h_301 80 (.inl (.long, fL ys'_301)) := e_301_80
      refine ik_Wk 0 (pc' := 33) (loc' := [some (.ref 66), some (fJ hw), none, some (fI i), x4, none]) (st' := []) (h' := h_301) (cl' := 0) (sl' := 0) rfl ?_
      have gd_301 := mf_od_gd (W := (fun x => mx_w cn go ch s x)) (k := 0) (q := rp.getD i.toNat 0) (mx_rw_ok q2 _) (by omega) (rt.getD i.toNat 0 - 1).toNat
      have eo_301 : xs'_301.getD (pl - 1).toNat 0 = mf_cm (fun x => mx_w cn go ch s x) (pl - 1) 0 (rp.getD i.toNat 0) (rt.getD i.toNat 0 - 1).toNat := p_301_0 _ (by omega)
      refine ik_Wk 1 (pc' := 34) (loc' := [some (.ref 66), some (fJ hw), none, some (fI i), x4, none]) (st' := [.ref 66]) (h' := h_301) (cl' := 0) (sl' := 0) rfl ?_
      refine fw_gf rfl rfl g_301_66 rfl ?_
      refine ik_Wk 1 (pc' := 38) (loc' := [some (.ref 66), some (fJ hw), none, some (fI i), x4, none]) (st' := [.ref 66, .ref 79]) (h' := h_301) (cl' := 0) (sl' := 0) rfl ?_
      refine ik_Wc 130 1 0 [.ref 66] [.ref 79] rfl rfl rfl (by decide) rfl rfl (fw_rec k_301 (fw_ftx rfl (wv_c rfl wv_n) (wl_c rfl (wl_c rfl (wl_c rfl (wl_c rfl (wl_c w4 (wl_c rfl wl_n))))))) g_301_66 rfl (by decide)) ?_
      refine ik_Wk 0 (pc' := 0) (loc' := [some (.ref 66)]) (st' := []) (h' := h_301) (cl' := 0) (sl' := 0) rfl ?_
      refine ik_Wk 1 (pc' := 1) (loc' := [some (.ref 66)]) (st' := [.ref 66]) (h' := h_301) (cl' := 0) (sl' := 0) rfl ?_
      refine fw_gf rfl rfl g_301_66 rfl ?_
      refine ik_Wk 1 (pc' := 5) (loc' := [some (.ref 66)]) (st' := [fI 1, fI pl]) (h' := h_301) (cl' := 0) (sl' := 0) rfl ?_
      refine fw_sub rfl ?_
      refine ik_Wret rfl rfl ⟨_, _, rfl, rfl, ?_⟩
      refine ik_Wk 0 (pc' := 41) (loc' := [some (.ref 66), some (fJ hw), none, some (fI i), x4, none]) (st' := [fI (pl - 1), .ref 79]) (h' := h_301) (cl' := 0) (sl' := 0) rfl ?_
      refine fx_lal rfl g_301_79 (by omega) (by omega) (by omega) ?_
      refine ik_Wk 2 (pc' := 45) (loc' := [some (.ref 66), some (fJ hw), none, some (fI i), some (fJ (xs'_301.getD (pl - 1).toNat 0)), none]) (st' := [.ref 66]) (h' := h_301) (cl' := 0) (sl' := 0) rfl ?_
      refine fw_call 153 1 0 [.ref 66] [] rfl rfl rfl (by decide) rfl rfl (fw_rec k_301 rfl g_301_66 rfl (by decide)) (cr_flow (pl := pl) (f := fun j => ([0, 0, 0, 0, 0, 0, 0, (f 7), (f 8), 0, (f 10), (f 11), (f 12), (f 13), (f 14), (f 15), (f 16), (f 17), 0, 0, 0, 0, 0, 0, w'_301, 0, 0, 0, 0, 0, 0, 0, (f 32), (f 33), 0, 0, r, 0, 0, 0, 0, 0, 0] : List Int).getD j 0) (s := s) (cn := cn) (go := go) (ch := ch) (gt := gt'_301) (gd := gd'_301) (xs := xs'_301) (ys := ys'_301) (o := mf_od (fun x => mx_w cn go ch s x) (pl - 1) 0 (rp.getD i.toNat 0) (rt.getD i.toNat 0 - 1).toNat) (by omega) (by omega) (fun x h0 h1 => by have := (q2 x h0 h1).1; omega) (mx_rw_ch q2) (mx_rw_ok q2 _) p_301_0 gd_301 g_301_66 g_301_67 n67 g_301_68 n68 g_301_69 n69 g_301_77 m_301_77 g_301_78 m_301_78 g_301_79 m_301_79 g_301_80 m_301_80 k_301) ?_
      rintro _ h_302 ⟨w'_302, gt'_302, gd'_302, xs'_302, ys'_302, rfl, e_302_66, e_302_77, m_302_77, e_302_78, m_302_78, e_302_79, m_302_79, e_302_80, m_302_80, p_302_0, F_302⟩
      have k_302 := F_302.1.trans k_301
      have fr_302 := hfr_c fr_301 F_302 (by decide)
      have g_302_67 := (F_302.2 67 (by decide +kernel)).trans g_301_67
      have g_302_68 := (F_302.2 68 (by decide +kernel)).trans g_301_68
      have g_302_69 := (F_302.2 69 (by decide +kernel)).trans g_301_69
      have g_302_88 := (F_302.2 88 (by decide +kernel)).trans g_301_88
      have g_302_89 := (F_302.2 89 (by decide +kernel)).trans g_301_89
      have g_302_66 : cE h_302 66 (.inr (10, [fI pl, .ref 67, .ref 68, .ref 69, fI ((s : Nat) : Int), .ref 70, .ref 71, fI (f 7), fI (f 8), .ref 72, fI (f 10), fI (f 11), fI (f 12), fJ (f 13), fI (f 14), fI (f 15), fI (f 16), fI (f 17), .ref 73, .ref 74, .ref 75, .ref 76, .ref 77, .ref 78, fI w'_302, .ref 79, .ref 80, .ref 81, .ref 82, .ref 83, .ref 84, .ref 85, fJ (f 32), fJ (f 33), .ref 86, .ref 87, fI r, .ref 88, .ref 89, .ref 90, .ref 91, .ref 92, .ref 93])) := e_302_66
      have g_302_77 : cE h_302 77 (.inl (.int, fA gt'_302)) := e_302_77
      have g_302_78 : cE h_302 78 (.inl (.int, fA gd'_302)) := e_302_78
      have g_302_79 : cE h_302 79 (.inl (.long, fL xs'_302)) := e_302_79
      have g_302_80 : cE h_302 80 (.inl (.long, fL ys'_302)) := e_302_80
      refine ik_Wk 0 (pc' := 48) (loc' := [some (.ref 66), some (fJ hw), none, some (fI i), some (fJ (xs'_301.getD (pl - 1).toNat 0)), none]) (st' := []) (h' := h_302) (cl' := 0) (sl' := 0) rfl ?_
      have ef_302 : xs'_302.getD (pl - 1).toNat 0 = mf_cm (fun x => mx_w cn go ch s x) (pl - 1) 0 (rp.getD i.toNat 0) (rt.getD i.toNat 0).toNat := by
        have e := mf_od_s (W := (fun x => mx_w cn go ch s x)) (br := pl - 1) (k := 0) (q := rp.getD i.toNat 0) (u := rt.getD i.toNat 0 - 1) (by omega)
        rw [show rt.getD i.toNat 0 - 1 + 1 = rt.getD i.toNat 0 by omega] at e
        show _ = mf_od _ _ _ _ _ _
        rw [e]
        exact p_302_0 _ (by omega)
      have hJ : mk_J (fun x => mx_w cn go ch s x) pl rp rt i.toNat = xs'_302.getD (pl - 1).toNat 0 - (xs'_301.getD (pl - 1).toNat 0) := by unfold mk_J; rw [ef_302, eo_301]
      have hJ2 := hJ
      have hJb := mk_J_b (W := (fun x => mx_w cn go ch s x)) (mx_rw_ok q2 _) q4 i.toNat (by omega)
      have hfb := mk_ft_b (J := mk_J (fun x => mx_w cn go ch s x) pl rp rt) i.toNat (fun j hj => mk_J_b (mx_rw_ok q2 _) q4 j (by omega))
      refine ik_Wk 2 (pc' := 50) (loc' := [some (.ref 66), some (fJ hw), none, some (fI i), some (fJ (xs'_301.getD (pl - 1).toNat 0)), none]) (st' := [.ref 66, fJ hw]) (h' := h_302) (cl' := 0) (sl' := 0) rfl ?_
      refine fw_gf rfl rfl g_302_66 rfl ?_
      refine ik_Wk 1 (pc' := 54) (loc' := [some (.ref 66), some (fJ hw), none, some (fI i), some (fJ (xs'_301.getD (pl - 1).toNat 0)), none]) (st' := [.ref 66, .ref 79, fJ hw]) (h' := h_302) (cl' := 0) (sl' := 0) rfl ?_
      refine ik_Wc 130 1 0 [.ref 66] [.ref 79, fJ hw] rfl rfl rfl (by decide) rfl rfl (fw_rec k_302 rfl g_302_66 rfl (by decide)) ?_
      refine ik_Wk 0 (pc' := 0) (loc' := [some (.ref 66)]) (st' := []) (h' := h_302) (cl' := 0) (sl' := 0) rfl ?_
      refine ik_Wk 1 (pc' := 1) (loc' := [some (.ref 66)]) (st' := [.ref 66]) (h' := h_302) (cl' := 0) (sl' := 0) rfl ?_
      refine fw_gf rfl rfl g_302_66 rfl ?_
      refine ik_Wk 1 (pc' := 5) (loc' := [some (.ref 66)]) (st' := [fI 1, fI pl]) (h' := h_302) (cl' := 0) (sl' := 0) rfl ?_
      refine fw_sub rfl ?_
      refine ik_Wret rfl rfl ⟨_, _, rfl, rfl, ?_⟩
      refine ik_Wk 0 (pc' := 57) (loc' := [some (.ref 66), some (fJ hw), none, some (fI i), some (fJ (xs'_301.getD (pl - 1).toNat 0)), none]) (st' := [fI (pl - 1), .ref 79, fJ hw]) (h' := h_302) (cl' := 0) (sl' := 0) rfl ?_
      refine fx_lal rfl g_302_79 (by omega) (by omega) (by omega) ?_
      refine ik_Wk 1 (pc' := 60) (loc' := [some (.ref 66), some (fJ hw), none, some (fI i), some (fJ (xs'_301.getD (pl - 1).toNat 0)), none]) (st' := [fJ (xs'_301.getD (pl - 1).toNat 0), fJ (xs'_302.getD (pl - 1).toNat 0), fJ hw]) (h' := h_302) (cl' := 0) (sl' := 0) rfl ?_
      refine fw_lsub rfl ?_
      refine fw_l2 1000 rfl rfl (by decide) ?_
      refine fx_ldiv rfl (by omega) (by omega) (by omega) (by omega) ?_
      refine fw_lmul rfl ?_
      refine fw_l2 1000000 rfl rfl (by decide) ?_
      have hmm := mk_mul_b (v := hw) (j := (((xs'_302.getD (pl - 1).toNat 0) - (xs'_301.getD (pl - 1).toNat 0)) / 1000)) (by omega) (by omega) (by omega) (by omega)
      refine fx_ldiv rfl (by omega) (by omega) (by omega) (by omega) ?_
      refine ik_Wk 2 (pc' := 72) (loc' := [some (.ref 66), some (fJ ((hw * (((xs'_302.getD (pl - 1).toNat 0) - (xs'_301.getD (pl - 1).toNat 0)) / 1000)) / 1000000)), none, some (fI i), some (fJ (xs'_301.getD (pl - 1).toNat 0)), none]) (st' := [fJ ((hw * (((xs'_302.getD (pl - 1).toNat 0) - (xs'_301.getD (pl - 1).toNat 0)) / 1000)) / 1000000)]) (h' := h_302) (cl' := 0) (sl' := 0) rfl ?_
      refine fw_lc (z := 1) rfl (by decide) ?_
      refine fw_lcmp_ge rfl rfl rfl (by omega) (by omega) (by omega) (by omega) (fun hc2 => ?_) (fun hc2 => ?_)
      · refine ik_Wk 2 (pc' := 83) (loc' := [some (.ref 66), some (fJ ((hw * (((xs'_302.getD (pl - 1).toNat 0) - (xs'_301.getD (pl - 1).toNat 0)) / 1000)) / 1000000)), none, some (fI i), some (fJ (xs'_301.getD (pl - 1).toNat 0)), none]) (st' := []) (h' := h_302) (cl' := 0) (sl' := 0) rfl ?_
        refine fw_inc (a := i) (loc' := [some (.ref 66), some (fJ ((hw * (((xs'_302.getD (pl - 1).toNat 0) - (xs'_301.getD (pl - 1).toNat 0)) / 1000)) / 1000000)), none, some (fI (i + 1)), some (fJ (xs'_301.getD (pl - 1).toNat 0)), none]) rfl rfl (Nat.le_of_ble_eq_true rfl) rfl ?_
        refine ik_Wk 1 (pc' := 6) (loc' := [some (.ref 66), some (fJ ((hw * (((xs'_302.getD (pl - 1).toNat 0) - (xs'_301.getD (pl - 1).toNat 0)) / 1000)) / 1000000)), none, some (fI (i + 1)), some (fJ (xs'_301.getD (pl - 1).toNat 0)), none]) (st' := []) (h' := h_302) (cl' := 0) (sl' := 0) rfl ?_
        exact ih  (i + 1) ((hw * (((xs'_302.getD (pl - 1).toNat 0) - (xs'_301.getD (pl - 1).toNat 0)) / 1000)) / 1000000) w'_302 gt'_302 gd'_302 xs'_302 ys'_302 (some (fJ (xs'_301.getD (pl - 1).toNat 0))) h_302 g_302_66 g_302_67 n67 g_302_68 n68 g_302_69 n69 g_302_77 m_302_77 g_302_78 m_302_78 g_302_79 m_302_79 g_302_80 m_302_80 g_302_88 n88 g_302_89 n89 k_302 fr_302 (by omega) (by rw [mk_ft_s (by omega), hJ2, ← he]; split <;> first | rfl | omega) rfl (by omega)
      · refine fw_lc (z := 1) rfl (by decide) ?_
        refine ik_Wk 2 (pc' := 83) (loc' := [some (.ref 66), some (fJ 1), none, some (fI i), some (fJ (xs'_301.getD (pl - 1).toNat 0)), none]) (st' := []) (h' := h_302) (cl' := 0) (sl' := 0) rfl ?_
        refine fw_inc (a := i) (loc' := [some (.ref 66), some (fJ 1), none, some (fI (i + 1)), some (fJ (xs'_301.getD (pl - 1).toNat 0)), none]) rfl rfl (Nat.le_of_ble_eq_true rfl) rfl ?_
        refine ik_Wk 1 (pc' := 6) (loc' := [some (.ref 66), some (fJ 1), none, some (fI (i + 1)), some (fJ (xs'_301.getD (pl - 1).toNat 0)), none]) (st' := []) (h' := h_302) (cl' := 0) (sl' := 0) rfl ?_
        exact ih  (i + 1) 1 w'_302 gt'_302 gd'_302 xs'_302 ys'_302 (some (fJ (xs'_301.getD (pl - 1).toNat 0))) h_302 g_302_66 g_302_67 n67 g_302_68 n68 g_302_69 n69 g_302_77 m_302_77 g_302_78 m_302_78 g_302_79 m_302_79 g_302_80 m_302_80 g_302_88 n88 g_302_89 n89 k_302 fr_302 (by omega) (by rw [mk_ft_s (by omega), hJ2, ← he]; split <;> first | rfl | omega) rfl (by omega)

theorem cr_fitNow {h : List ik_E} {pl : Int} {f : Nat → Int} {s : Nat} {cn : List Int} {go : List Int} {ch : List Int} {gt : List Int} {gd : List Int} {xs : List Int} {ys : List Int} {r : Int} {rp : List Int} {rt : List Int} (q0 : 0 ≤ pl ∧ pl ≤ 12) (q1 : s < 4096) (q2 : mx_rw pl cn go ch) (q3 : 0 ≤ r ∧ r ≤ 12) (q4 : mk_rr pl r rp rt) (h66 : cE h 66 (.inr (10, [fI pl, .ref 67, .ref 68, .ref 69, fI ((s : Nat) : Int), .ref 70, .ref 71, fI (f 7), fI (f 8), .ref 72, fI (f 10), fI (f 11), fI (f 12), fJ (f 13), fI (f 14), fI (f 15), fI (f 16), fI (f 17), .ref 73, .ref 74, .ref 75, .ref 76, .ref 77, .ref 78, fI (f 24), .ref 79, .ref 80, .ref 81, .ref 82, .ref 83, .ref 84, .ref 85, fJ (f 32), fJ (f 33), .ref 86, .ref 87, fI r, .ref 88, .ref 89, .ref 90, .ref 91, .ref 92, .ref 93]))) (h67 : cE h 67 (.inl (.int, fA cn))) (n67 : cn.length = 12) (h68 : cE h 68 (.inl (.int, fA go))) (n68 : go.length = 48) (h69 : cE h 69 (.inl (.int, fA ch))) (n69 : ch.length = 48) (h77 : cE h 77 (.inl (.int, fA gt))) (n77 : gt.length = 5) (h78 : cE h 78 (.inl (.int, fA gd))) (n78 : gd.length = 5) (h79 : cE h 79 (.inl (.long, fL xs))) (n79 : xs.length = 12) (h80 : cE h 80 (.inl (.long, fL ys))) (n80 : ys.length = 12) (h88 : cE h 88 (.inl (.int, fA rp))) (n88 : rp.length = 12) (h89 : cE h 89 (.inl (.int, fA rt))) (n89 : rt.length = 12) (hl : h.length = 94) : ik_F 185 [.ref 66] h (fun rv h' => ∃ (w' : Int) (gt' : List Int) (gd' : List Int) (xs' : List Int) (ys' : List Int), rv = [fI (mk_fv cn go ch s pl rp rt r)] ∧ cE h' 66 (.inr (10, [fI pl, .ref 67, .ref 68, .ref 69, fI ((s : Nat) : Int), .ref 70, .ref 71, fI (f 7), fI (f 8), .ref 72, fI (f 10), fI (f 11), fI (f 12), fJ (f 13), fI (f 14), fI (f 15), fI (f 16), fI (f 17), .ref 73, .ref 74, .ref 75, .ref 76, .ref 77, .ref 78, fI w', .ref 79, .ref 80, .ref 81, .ref 82, .ref 83, .ref 84, .ref 85, fJ (f 32), fJ (f 33), .ref 86, .ref 87, fI r, .ref 88, .ref 89, .ref 90, .ref 91, .ref 92, .ref 93])) ∧ cE h' 77 (.inl (.int, fA gt')) ∧ gt'.length = 5 ∧ cE h' 78 (.inl (.int, fA gd')) ∧ gd'.length = 5 ∧ cE h' 79 (.inl (.long, fL xs')) ∧ xs'.length = 12 ∧ cE h' 80 (.inl (.long, fL ys')) ∧ ys'.length = 12 ∧ hfr [66, 77, 78, 79, 80] h h') := by
  refine fw_l2 1000000000 rfl rfl (by decide) ?_
  refine ik_Wk 3 (pc' := 6) (loc' := [some (.ref 66), some (fJ 1000000000), none, some (fI 0), none, none]) (st' := []) (h' := h) (cl' := 0) (sl' := 0) rfl ?_
  exact cr_fitNowL (pl := pl) (f := f) (s := s) (cn := cn) (go := go) (ch := ch) (gt := gt) (gd := gd) (xs := xs) (ys := ys) (r := r) (rp := rp) (rt := rt) q0 q1 q2 q3 q4  (r.toNat + 1) 0 1000000000 (f 24) gt gd xs ys none h h66 h67 n67 h68 n68 h69 n69 h77 n77 h78 n78 h79 n79 h80 n80 h88 n88 h89 n89 hl (hfr_refl [66, 77, 78, 79, 80] h) (by omega) rfl rfl (by omega)

theorem cr_fitOf0 {h : List ik_E} {pl : Int} {f : Nat → Int} {s : Nat} {cn : List Int} {go : List Int} {ch : List Int} {gt : List Int} {gd : List Int} {xs : List Int} {ys : List Int} {r : Int} {rp : List Int} {rt : List Int} (q0 : 0 ≤ pl ∧ pl ≤ 12) (q1 : s < 4096) (q2 : mx_rw pl cn go ch) (q3 : 0 ≤ r ∧ r ≤ 12) (q4 : mk_rr pl r rp rt) (h66 : cE h 66 (.inr (10, [fI pl, .ref 67, .ref 68, .ref 69, fI ((s : Nat) : Int), .ref 70, .ref 71, fI (f 7), fI (f 8), .ref 72, fI (f 10), fI (f 11), fI (f 12), fJ (f 13), fI (f 14), fI (f 15), fI (f 16), fI (f 17), .ref 73, .ref 74, .ref 75, .ref 76, .ref 77, .ref 78, fI (f 24), .ref 79, .ref 80, .ref 81, .ref 82, .ref 83, .ref 84, .ref 85, fJ (f 32), fJ (f 33), .ref 86, .ref 87, fI r, .ref 88, .ref 89, .ref 90, .ref 91, .ref 92, .ref 93]))) (h67 : cE h 67 (.inl (.int, fA cn))) (n67 : cn.length = 12) (h68 : cE h 68 (.inl (.int, fA go))) (n68 : go.length = 48) (h69 : cE h 69 (.inl (.int, fA ch))) (n69 : ch.length = 48) (h77 : cE h 77 (.inl (.int, fA gt))) (n77 : gt.length = 5) (h78 : cE h 78 (.inl (.int, fA gd))) (n78 : gd.length = 5) (h79 : cE h 79 (.inl (.long, fL xs))) (n79 : xs.length = 12) (h80 : cE h 80 (.inl (.long, fL ys))) (n80 : ys.length = 12) (h88 : cE h 88 (.inl (.int, fA rp))) (n88 : rp.length = 12) (h89 : cE h 89 (.inl (.int, fA rt))) (n89 : rt.length = 12) (hl : h.length = 94) : ik_F 186 [.ref 66, fI (-1)] h (fun rv h' => ∃ (w' : Int) (gt' : List Int) (gd' : List Int) (xs' : List Int) (ys' : List Int), rv = [fI (mk_fv cn go ch s pl rp rt r)] ∧ cE h' 66 (.inr (10, [fI pl, .ref 67, .ref 68, .ref 69, fI ((s : Nat) : Int), .ref 70, .ref 71, fI (f 7), fI (f 8), .ref 72, fI (f 10), fI (f 11), fI (f 12), fJ (f 13), fI (f 14), fI (f 15), fI (f 16), fI (f 17), .ref 73, .ref 74, .ref 75, .ref 76, .ref 77, .ref 78, fI w', .ref 79, .ref 80, .ref 81, .ref 82, .ref 83, .ref 84, .ref 85, fJ (f 32), fJ (f 33), .ref 86, .ref 87, fI r, .ref 88, .ref 89, .ref 90, .ref 91, .ref 92, .ref 93])) ∧ cE h' 77 (.inl (.int, fA gt')) ∧ gt'.length = 5 ∧ cE h' 78 (.inl (.int, fA gd')) ∧ gd'.length = 5 ∧ cE h' 79 (.inl (.long, fL xs')) ∧ xs'.length = 12 ∧ cE h' 80 (.inl (.long, fL ys')) ∧ ys'.length = 12 ∧ hfr [66, 77, 78, 79, 80] h h') := by
  refine ik_Wk 1 (pc' := 1) (loc' := [some (.ref 66), some (fI (-1)), none, none]) (st' := [.ref 66]) (h' := h) (cl' := 0) (sl' := 0) rfl ?_
  refine fw_gf rfl rfl h66 rfl ?_
  refine ik_Wk 3 (pc' := 7) (loc' := [some (.ref 66), some (fI (-1)), some (fI ((s : Nat) : Int)), none]) (st' := [fI (-1), .ref 66]) (h' := h) (cl' := 0) (sl' := 0) rfl ?_
  refine fw_if_ge rfl rfl (by omega) (by omega) (fun hc1 => absurd hc1 (by omega)) (fun hc1 => ?_)
  refine ik_Wk 1 (pc' := 11) (loc' := [some (.ref 66), some (fI (-1)), some (fI ((s : Nat) : Int)), none]) (st' := [.ref 66, .ref 66]) (h' := h) (cl' := 0) (sl' := 0) rfl ?_
  refine fw_gf rfl rfl h66 rfl ?_
  refine ik_Wk 1 (pc' := 25) (loc' := [some (.ref 66), some (fI (-1)), some (fI ((s : Nat) : Int)), none]) (st' := [fI ((s : Nat) : Int), .ref 66]) (h' := h) (cl' := 0) (sl' := 0) rfl ?_
  refine fx_pf rfl rfl h66 (Nat.le_of_ble_eq_true rfl) rfl rfl ?_
  intro h_303 e_303 f_303 l_303
  have k_303 := l_303.trans hl
  have fr_303 := hfr_w (hfr_refl [66, 77, 78, 79, 80] h) f_303 l_303 (by decide)
  have g_303_67 := (f_303 67 (by decide)).trans h67
  have g_303_68 := (f_303 68 (by decide)).trans h68
  have g_303_69 := (f_303 69 (by decide)).trans h69
  have g_303_77 := (f_303 77 (by decide)).trans h77
  have g_303_78 := (f_303 78 (by decide)).trans h78
  have g_303_79 := (f_303 79 (by decide)).trans h79
  have g_303_80 := (f_303 80 (by decide)).trans h80
  have g_303_88 := (f_303 88 (by decide)).trans h88
  have g_303_89 := (f_303 89 (by decide)).trans h89
  have g_303_66 : cE h_303 66 (.inr (10, [fI pl, .ref 67, .ref 68, .ref 69, fI ((s : Nat) : Int), .ref 70, .ref 71, fI (f 7), fI (f 8), .ref 72, fI (f 10), fI (f 11), fI (f 12), fJ (f 13), fI (f 14), fI (f 15), fI (f 16), fI (f 17), .ref 73, .ref 74, .ref 75, .ref 76, .ref 77, .ref 78, fI (f 24), .ref 79, .ref 80, .ref 81, .ref 82, .ref 83, .ref 84, .ref 85, fJ (f 32), fJ (f 33), .ref 86, .ref 87, fI r, .ref 88, .ref 89, .ref 90, .ref 91, .ref 92, .ref 93])) := e_303
  refine ik_Wk 1 (pc' := 29) (loc' := [some (.ref 66), some (fI (-1)), some (fI ((s : Nat) : Int)), none]) (st' := [.ref 66]) (h' := h_303) (cl' := 0) (sl' := 0) rfl ?_
  refine fw_call 185 1 0 [.ref 66] [] rfl rfl rfl (by decide) rfl rfl (fw_rec k_303 rfl g_303_66 rfl (by decide)) (cr_fitNow (pl := pl) (f := fun j => ([0, 0, 0, 0, 0, 0, 0, f 7, f 8, 0, f 10, f 11, f 12, f 13, f 14, f 15, f 16, f 17, 0, 0, 0, 0, 0, 0, f 24, 0, 0, 0, 0, 0, 0, 0, f 32, f 33, 0, 0, 0, 0, 0, 0, 0, 0, 0] : List Int).getD j 0) (s := s) (cn := cn) (go := go) (ch := ch) (gt := gt) (gd := gd) (xs := xs) (ys := ys) (r := r) (rp := rp) (rt := rt) (by omega) (by omega) q2 (by omega) q4 g_303_66 g_303_67 n67 g_303_68 n68 g_303_69 n69 g_303_77 n77 g_303_78 n78 g_303_79 n79 g_303_80 n80 g_303_88 n88 g_303_89 n89 k_303) ?_
  rintro _ h_304 ⟨w'_304, gt'_304, gd'_304, xs'_304, ys'_304, rfl, e_304_66, e_304_77, m_304_77, e_304_78, m_304_78, e_304_79, m_304_79, e_304_80, m_304_80, F_304⟩
  have k_304 := F_304.1.trans k_303
  have fr_304 := hfr_c fr_303 F_304 (by decide)
  have g_304_67 := (F_304.2 67 (by decide +kernel)).trans g_303_67
  have g_304_68 := (F_304.2 68 (by decide +kernel)).trans g_303_68
  have g_304_69 := (F_304.2 69 (by decide +kernel)).trans g_303_69
  have g_304_88 := (F_304.2 88 (by decide +kernel)).trans g_303_88
  have g_304_89 := (F_304.2 89 (by decide +kernel)).trans g_303_89
  have g_304_66 : cE h_304 66 (.inr (10, [fI pl, .ref 67, .ref 68, .ref 69, fI ((s : Nat) : Int), .ref 70, .ref 71, fI (f 7), fI (f 8), .ref 72, fI (f 10), fI (f 11), fI (f 12), fJ (f 13), fI (f 14), fI (f 15), fI (f 16), fI (f 17), .ref 73, .ref 74, .ref 75, .ref 76, .ref 77, .ref 78, fI w'_304, .ref 79, .ref 80, .ref 81, .ref 82, .ref 83, .ref 84, .ref 85, fJ (f 32), fJ (f 33), .ref 86, .ref 87, fI r, .ref 88, .ref 89, .ref 90, .ref 91, .ref 92, .ref 93])) := e_304_66
  have g_304_77 : cE h_304 77 (.inl (.int, fA gt'_304)) := e_304_77
  have g_304_78 : cE h_304 78 (.inl (.int, fA gd'_304)) := e_304_78
  have g_304_79 : cE h_304 79 (.inl (.long, fL xs'_304)) := e_304_79
  have g_304_80 : cE h_304 80 (.inl (.long, fL ys'_304)) := e_304_80
  refine ik_Wk 0 (pc' := 32) (loc' := [some (.ref 66), some (fI (-1)), some (fI ((s : Nat) : Int)), none]) (st' := [fI (mk_fv cn go ch s pl rp rt r)]) (h' := h_304) (cl' := 0) (sl' := 0) rfl ?_
  refine ik_Wk 3 (pc' := 35) (loc' := [some (.ref 66), some (fI (-1)), some (fI ((s : Nat) : Int)), some (fI (mk_fv cn go ch s pl rp rt r))]) (st' := [fI ((s : Nat) : Int), .ref 66]) (h' := h_304) (cl' := 0) (sl' := 0) rfl ?_
  refine fx_pf rfl rfl g_304_66 (Nat.le_of_ble_eq_true rfl) rfl rfl ?_
  intro h_305 e_305 f_305 l_305
  have k_305 := l_305.trans k_304
  have fr_305 := hfr_w fr_304 f_305 l_305 (by decide)
  have g_305_67 := (f_305 67 (by decide)).trans g_304_67
  have g_305_68 := (f_305 68 (by decide)).trans g_304_68
  have g_305_69 := (f_305 69 (by decide)).trans g_304_69
  have g_305_77 := (f_305 77 (by decide)).trans g_304_77
  have g_305_78 := (f_305 78 (by decide)).trans g_304_78
  have g_305_79 := (f_305 79 (by decide)).trans g_304_79
  have g_305_80 := (f_305 80 (by decide)).trans g_304_80
  have g_305_88 := (f_305 88 (by decide)).trans g_304_88
  have g_305_89 := (f_305 89 (by decide)).trans g_304_89
  have g_305_66 : cE h_305 66 (.inr (10, [fI pl, .ref 67, .ref 68, .ref 69, fI ((s : Nat) : Int), .ref 70, .ref 71, fI (f 7), fI (f 8), .ref 72, fI (f 10), fI (f 11), fI (f 12), fJ (f 13), fI (f 14), fI (f 15), fI (f 16), fI (f 17), .ref 73, .ref 74, .ref 75, .ref 76, .ref 77, .ref 78, fI w'_304, .ref 79, .ref 80, .ref 81, .ref 82, .ref 83, .ref 84, .ref 85, fJ (f 32), fJ (f 33), .ref 86, .ref 87, fI r, .ref 88, .ref 89, .ref 90, .ref 91, .ref 92, .ref 93])) := e_305
  refine ik_Wk 1 (pc' := 39) (loc' := [some (.ref 66), some (fI (-1)), some (fI ((s : Nat) : Int)), some (fI (mk_fv cn go ch s pl rp rt r))]) (st' := [fI (mk_fv cn go ch s pl rp rt r)]) (h' := h_305) (cl' := 0) (sl' := 0) rfl ?_
  exact ik_Wret rfl rfl ⟨_, _, rfl, rfl, rfl, rfl, ⟨w'_304, gt'_304, gd'_304, xs'_304, ys'_304, rfl, g_305_66, g_305_77, m_304_77, g_305_78, m_304_78, g_305_79, m_304_79, g_305_80, m_304_80, fr_305⟩⟩

theorem cr_fitOf {h : List ik_E} {pl : Int} {f : Nat → Int} {s : Nat} {cn : List Int} {go : List Int} {ch : List Int} {gt : List Int} {gd : List Int} {xs : List Int} {ys : List Int} {r : Int} {rp : List Int} {rt : List Int} {p : Int} (q0 : 0 ≤ pl ∧ pl ≤ 12) (q1 : s < 4096) (q2 : mx_rw pl cn go ch) (q3 : 0 ≤ r ∧ r ≤ 12) (q4 : mk_rr pl r rp rt) (q5 : 0 ≤ p ∧ p < pl - 1) (h66 : cE h 66 (.inr (10, [fI pl, .ref 67, .ref 68, .ref 69, fI ((s : Nat) : Int), .ref 70, .ref 71, fI (f 7), fI (f 8), .ref 72, fI (f 10), fI (f 11), fI (f 12), fJ (f 13), fI (f 14), fI (f 15), fI (f 16), fI (f 17), .ref 73, .ref 74, .ref 75, .ref 76, .ref 77, .ref 78, fI (f 24), .ref 79, .ref 80, .ref 81, .ref 82, .ref 83, .ref 84, .ref 85, fJ (f 32), fJ (f 33), .ref 86, .ref 87, fI r, .ref 88, .ref 89, .ref 90, .ref 91, .ref 92, .ref 93]))) (h67 : cE h 67 (.inl (.int, fA cn))) (n67 : cn.length = 12) (h68 : cE h 68 (.inl (.int, fA go))) (n68 : go.length = 48) (h69 : cE h 69 (.inl (.int, fA ch))) (n69 : ch.length = 48) (h77 : cE h 77 (.inl (.int, fA gt))) (n77 : gt.length = 5) (h78 : cE h 78 (.inl (.int, fA gd))) (n78 : gd.length = 5) (h79 : cE h 79 (.inl (.long, fL xs))) (n79 : xs.length = 12) (h80 : cE h 80 (.inl (.long, fL ys))) (n80 : ys.length = 12) (h88 : cE h 88 (.inl (.int, fA rp))) (n88 : rp.length = 12) (h89 : cE h 89 (.inl (.int, fA rt))) (n89 : rt.length = 12) (hl : h.length = 94) : ik_F 186 [.ref 66, fI p] h (fun rv h' => ∃ (w' : Int) (gt' : List Int) (gd' : List Int) (xs' : List Int) (ys' : List Int), rv = [fI (mk_vs cn go ch s pl rp rt r p)] ∧ cE h' 66 (.inr (10, [fI pl, .ref 67, .ref 68, .ref 69, fI ((s : Nat) : Int), .ref 70, .ref 71, fI (f 7), fI (f 8), .ref 72, fI (f 10), fI (f 11), fI (f 12), fJ (f 13), fI (f 14), fI (f 15), fI (f 16), fI (f 17), .ref 73, .ref 74, .ref 75, .ref 76, .ref 77, .ref 78, fI w', .ref 79, .ref 80, .ref 81, .ref 82, .ref 83, .ref 84, .ref 85, fJ (f 32), fJ (f 33), .ref 86, .ref 87, fI r, .ref 88, .ref 89, .ref 90, .ref 91, .ref 92, .ref 93])) ∧ cE h' 77 (.inl (.int, fA gt')) ∧ gt'.length = 5 ∧ cE h' 78 (.inl (.int, fA gd')) ∧ gd'.length = 5 ∧ cE h' 79 (.inl (.long, fL xs')) ∧ xs'.length = 12 ∧ cE h' 80 (.inl (.long, fL ys')) ∧ ys'.length = 12 ∧ hfr [66, 77, 78, 79, 80] h h') := by
  refine ik_Wk 1 (pc' := 1) (loc' := [some (.ref 66), some (fI p), none, none]) (st' := [.ref 66]) (h' := h) (cl' := 0) (sl' := 0) rfl ?_
  refine fw_gf rfl rfl h66 rfl ?_
  refine ik_Wk 3 (pc' := 7) (loc' := [some (.ref 66), some (fI p), some (fI ((s : Nat) : Int)), none]) (st' := [fI p, .ref 66]) (h' := h) (cl' := 0) (sl' := 0) rfl ?_
  refine fw_if_ge rfl rfl (by omega) (by omega) (fun hc1 => ?_) (fun hc1 => absurd hc1 (by omega))
  refine ik_Wk 1 (pc' := 18) (loc' := [some (.ref 66), some (fI p), some (fI ((s : Nat) : Int)), none]) (st' := [.ref 66, .ref 66]) (h' := h) (cl' := 0) (sl' := 0) rfl ?_
  refine fw_gf rfl rfl h66 rfl ?_
  refine ik_Wk 2 (pc' := 23) (loc' := [some (.ref 66), some (fI p), some (fI ((s : Nat) : Int)), none]) (st' := [fI p, fI 1, fI ((s : Nat) : Int), .ref 66]) (h' := h) (cl' := 0) (sl' := 0) rfl ?_
  refine fx_shl rfl (by omega) (by omega) ?_
  refine fx_xor (m := s) (n := 1 <<< p.toNat) rfl ?_
  refine fx_pf rfl rfl h66 (Nat.le_of_ble_eq_true rfl) rfl rfl ?_
  intro h_306 e_306 f_306 l_306
  have k_306 := l_306.trans hl
  have fr_306 := hfr_w (hfr_refl [66, 77, 78, 79, 80] h) f_306 l_306 (by decide)
  have g_306_67 := (f_306 67 (by decide)).trans h67
  have g_306_68 := (f_306 68 (by decide)).trans h68
  have g_306_69 := (f_306 69 (by decide)).trans h69
  have g_306_77 := (f_306 77 (by decide)).trans h77
  have g_306_78 := (f_306 78 (by decide)).trans h78
  have g_306_79 := (f_306 79 (by decide)).trans h79
  have g_306_80 := (f_306 80 (by decide)).trans h80
  have g_306_88 := (f_306 88 (by decide)).trans h88
  have g_306_89 := (f_306 89 (by decide)).trans h89
  have g_306_66 : cE h_306 66 (.inr (10, [fI pl, .ref 67, .ref 68, .ref 69, fI ((s ^^^ (1 <<< p.toNat) : Nat) : Int), .ref 70, .ref 71, fI (f 7), fI (f 8), .ref 72, fI (f 10), fI (f 11), fI (f 12), fJ (f 13), fI (f 14), fI (f 15), fI (f 16), fI (f 17), .ref 73, .ref 74, .ref 75, .ref 76, .ref 77, .ref 78, fI (f 24), .ref 79, .ref 80, .ref 81, .ref 82, .ref 83, .ref 84, .ref 85, fJ (f 32), fJ (f 33), .ref 86, .ref 87, fI r, .ref 88, .ref 89, .ref 90, .ref 91, .ref 92, .ref 93])) := e_306
  refine ik_Wk 1 (pc' := 29) (loc' := [some (.ref 66), some (fI p), some (fI ((s : Nat) : Int)), none]) (st' := [.ref 66]) (h' := h_306) (cl' := 0) (sl' := 0) rfl ?_
  refine fw_call 185 1 0 [.ref 66] [] rfl rfl rfl (by decide) rfl rfl (fw_rec k_306 rfl g_306_66 rfl (by decide)) (cr_fitNow (pl := pl) (f := fun j => ([0, 0, 0, 0, 0, 0, 0, f 7, f 8, 0, f 10, f 11, f 12, f 13, f 14, f 15, f 16, f 17, 0, 0, 0, 0, 0, 0, f 24, 0, 0, 0, 0, 0, 0, 0, f 32, f 33, 0, 0, 0, 0, 0, 0, 0, 0, 0] : List Int).getD j 0) (s := s ^^^ (1 <<< p.toNat)) (cn := cn) (go := go) (ch := ch) (gt := gt) (gd := gd) (xs := xs) (ys := ys) (r := r) (rp := rp) (rt := rt) (by omega) (mx_xor_lt q1 (by omega)) q2 (by omega) q4 g_306_66 g_306_67 n67 g_306_68 n68 g_306_69 n69 g_306_77 n77 g_306_78 n78 g_306_79 n79 g_306_80 n80 g_306_88 n88 g_306_89 n89 k_306) ?_
  rintro _ h_307 ⟨w'_307, gt'_307, gd'_307, xs'_307, ys'_307, rfl, e_307_66, e_307_77, m_307_77, e_307_78, m_307_78, e_307_79, m_307_79, e_307_80, m_307_80, F_307⟩
  have k_307 := F_307.1.trans k_306
  have fr_307 := hfr_c fr_306 F_307 (by decide)
  have g_307_67 := (F_307.2 67 (by decide +kernel)).trans g_306_67
  have g_307_68 := (F_307.2 68 (by decide +kernel)).trans g_306_68
  have g_307_69 := (F_307.2 69 (by decide +kernel)).trans g_306_69
  have g_307_88 := (F_307.2 88 (by decide +kernel)).trans g_306_88
  have g_307_89 := (F_307.2 89 (by decide +kernel)).trans g_306_89
  have g_307_66 : cE h_307 66 (.inr (10, [fI pl, .ref 67, .ref 68, .ref 69, fI (((s ^^^ (1 <<< p.toNat)) : Nat) : Int), .ref 70, .ref 71, fI (f 7), fI (f 8), .ref 72, fI (f 10), fI (f 11), fI (f 12), fJ (f 13), fI (f 14), fI (f 15), fI (f 16), fI (f 17), .ref 73, .ref 74, .ref 75, .ref 76, .ref 77, .ref 78, fI w'_307, .ref 79, .ref 80, .ref 81, .ref 82, .ref 83, .ref 84, .ref 85, fJ (f 32), fJ (f 33), .ref 86, .ref 87, fI r, .ref 88, .ref 89, .ref 90, .ref 91, .ref 92, .ref 93])) := e_307_66
  have g_307_77 : cE h_307 77 (.inl (.int, fA gt'_307)) := e_307_77
  have g_307_78 : cE h_307 78 (.inl (.int, fA gd'_307)) := e_307_78
  have g_307_79 : cE h_307 79 (.inl (.long, fL xs'_307)) := e_307_79
  have g_307_80 : cE h_307 80 (.inl (.long, fL ys'_307)) := e_307_80
  refine ik_Wk 0 (pc' := 32) (loc' := [some (.ref 66), some (fI p), some (fI ((s : Nat) : Int)), none]) (st' := [fI (mk_fv cn go ch (s ^^^ (1 <<< p.toNat)) pl rp rt r)]) (h' := h_307) (cl' := 0) (sl' := 0) rfl ?_
  refine ik_Wk 3 (pc' := 35) (loc' := [some (.ref 66), some (fI p), some (fI ((s : Nat) : Int)), some (fI (mk_fv cn go ch (s ^^^ (1 <<< p.toNat)) pl rp rt r))]) (st' := [fI ((s : Nat) : Int), .ref 66]) (h' := h_307) (cl' := 0) (sl' := 0) rfl ?_
  refine fx_pf rfl rfl g_307_66 (Nat.le_of_ble_eq_true rfl) rfl rfl ?_
  intro h_308 e_308 f_308 l_308
  have k_308 := l_308.trans k_307
  have fr_308 := hfr_w fr_307 f_308 l_308 (by decide)
  have g_308_67 := (f_308 67 (by decide)).trans g_307_67
  have g_308_68 := (f_308 68 (by decide)).trans g_307_68
  have g_308_69 := (f_308 69 (by decide)).trans g_307_69
  have g_308_77 := (f_308 77 (by decide)).trans g_307_77
  have g_308_78 := (f_308 78 (by decide)).trans g_307_78
  have g_308_79 := (f_308 79 (by decide)).trans g_307_79
  have g_308_80 := (f_308 80 (by decide)).trans g_307_80
  have g_308_88 := (f_308 88 (by decide)).trans g_307_88
  have g_308_89 := (f_308 89 (by decide)).trans g_307_89
  have g_308_66 : cE h_308 66 (.inr (10, [fI pl, .ref 67, .ref 68, .ref 69, fI ((s : Nat) : Int), .ref 70, .ref 71, fI (f 7), fI (f 8), .ref 72, fI (f 10), fI (f 11), fI (f 12), fJ (f 13), fI (f 14), fI (f 15), fI (f 16), fI (f 17), .ref 73, .ref 74, .ref 75, .ref 76, .ref 77, .ref 78, fI w'_307, .ref 79, .ref 80, .ref 81, .ref 82, .ref 83, .ref 84, .ref 85, fJ (f 32), fJ (f 33), .ref 86, .ref 87, fI r, .ref 88, .ref 89, .ref 90, .ref 91, .ref 92, .ref 93])) := e_308
  refine ik_Wk 1 (pc' := 39) (loc' := [some (.ref 66), some (fI p), some (fI ((s : Nat) : Int)), some (fI (mk_fv cn go ch (s ^^^ (1 <<< p.toNat)) pl rp rt r))]) (st' := [fI (mk_fv cn go ch (s ^^^ (1 <<< p.toNat)) pl rp rt r)]) (h' := h_308) (cl' := 0) (sl' := 0) rfl ?_
  exact ik_Wret rfl rfl ⟨_, _, rfl, rfl, rfl, rfl, ⟨w'_307, gt'_307, gd'_307, xs'_307, ys'_307, rfl, g_308_66, g_308_77, m_307_77, g_308_78, m_307_78, g_308_79, m_307_79, g_308_80, m_307_80, fr_308⟩⟩

theorem rp_fit {h : List ik_E} {pl : Int} {f : Nat → Int} {s : Nat} {cn : List Int} {go : List Int} {ch : List Int} {gt : List Int} {gd : List Int} {xs : List Int} {ys : List Int} {r : Int} {rp : List Int} {rt : List Int} {p : Int} (q0 : 0 ≤ pl ∧ pl ≤ 12) (q1 : s < 4096) (q2 : mx_rw pl cn go ch) (q3 : 0 ≤ r ∧ r ≤ 12) (q4 : mk_rr pl r rp rt) (q5 : -2147483648 ≤ p ∧ p < 2147483648) (h66 : cE h 66 (.inr (10, [fI pl, .ref 67, .ref 68, .ref 69, fI ((s : Nat) : Int), .ref 70, .ref 71, fI (f 7), fI (f 8), .ref 72, fI (f 10), fI (f 11), fI (f 12), fJ (f 13), fI (f 14), fI (f 15), fI (f 16), fI (f 17), .ref 73, .ref 74, .ref 75, .ref 76, .ref 77, .ref 78, fI (f 24), .ref 79, .ref 80, .ref 81, .ref 82, .ref 83, .ref 84, .ref 85, fJ (f 32), fJ (f 33), .ref 86, .ref 87, fI r, .ref 88, .ref 89, .ref 90, .ref 91, .ref 92, .ref 93]))) (h67 : cE h 67 (.inl (.int, fA cn))) (n67 : cn.length = 12) (h68 : cE h 68 (.inl (.int, fA go))) (n68 : go.length = 48) (h69 : cE h 69 (.inl (.int, fA ch))) (n69 : ch.length = 48) (h77 : cE h 77 (.inl (.int, fA gt))) (n77 : gt.length = 5) (h78 : cE h 78 (.inl (.int, fA gd))) (n78 : gd.length = 5) (h79 : cE h 79 (.inl (.long, fL xs))) (n79 : xs.length = 12) (h80 : cE h 80 (.inl (.long, fL ys))) (n80 : ys.length = 12) (h88 : cE h 88 (.inl (.int, fA rp))) (n88 : rp.length = 12) (h89 : cE h 89 (.inl (.int, fA rt))) (n89 : rt.length = 12) (hl : h.length = 94) : ik_F 187 [.ref 66, fI p] h (fun rv h' => ∃ (w' : Int) (gt' : List Int) (gd' : List Int) (xs' : List Int) (ys' : List Int), rv = [fI (an_fi p pl (mk_fv cn go ch s pl rp rt r) (mk_vs cn go ch s pl rp rt r p))] ∧ cE h' 66 (.inr (10, [fI pl, .ref 67, .ref 68, .ref 69, fI ((s : Nat) : Int), .ref 70, .ref 71, fI (f 7), fI (f 8), .ref 72, fI (f 10), fI (f 11), fI (f 12), fJ (f 13), fI (f 14), fI (f 15), fI (f 16), fI (f 17), .ref 73, .ref 74, .ref 75, .ref 76, .ref 77, .ref 78, fI w', .ref 79, .ref 80, .ref 81, .ref 82, .ref 83, .ref 84, .ref 85, fJ (f 32), fJ (f 33), .ref 86, .ref 87, fI r, .ref 88, .ref 89, .ref 90, .ref 91, .ref 92, .ref 93])) ∧ cE h' 77 (.inl (.int, fA gt')) ∧ gt'.length = 5 ∧ cE h' 78 (.inl (.int, fA gd')) ∧ gd'.length = 5 ∧ cE h' 79 (.inl (.long, fL xs')) ∧ xs'.length = 12 ∧ cE h' 80 (.inl (.long, fL ys')) ∧ ys'.length = 12 ∧ hfr [66, 77, 78, 79, 80] h h') := by
  refine ik_Wk 2 (pc' := 2) (loc' := [some (.ref 66), some (fI p)]) (st' := [fI (-1), fI p]) (h' := h) (cl' := 0) (sl' := 0) rfl ?_
  refine fw_ic_eq rfl rfl (by omega) (by omega) (by omega) (by omega) (fun hc1 => ?_) (fun hc1 => ?_)
  · refine ik_Wk 2 (pc' := 15) (loc' := [some (.ref 66), some (fI p)]) (st' := [fI p, .ref 66]) (h' := h) (cl' := 0) (sl' := 0) rfl ?_
    subst hc1
    refine ik_Wk 0 (pc' := 15) (loc' := [some (.ref 66), some (fI (-1))]) (st' := [fI (-1), .ref 66]) (h' := h) (cl' := 0) (sl' := 0) rfl ?_
    refine fw_call 186 2 0 [.ref 66, fI (-1)] [] rfl rfl rfl (by decide) rfl rfl (fw_rec hl rfl h66 rfl (by decide)) (cr_fitOf0 (pl := pl) (f := fun j => ([0, 0, 0, 0, 0, 0, 0, f 7, f 8, 0, f 10, f 11, f 12, f 13, f 14, f 15, f 16, f 17, 0, 0, 0, 0, 0, 0, f 24, 0, 0, 0, 0, 0, 0, 0, f 32, f 33, 0, 0, 0, 0, 0, 0, 0, 0, 0] : List Int).getD j 0) (s := s) (cn := cn) (go := go) (ch := ch) (gt := gt) (gd := gd) (xs := xs) (ys := ys) (r := r) (rp := rp) (rt := rt) (by omega) (by omega) q2 (by omega) q4 h66 h67 n67 h68 n68 h69 n69 h77 n77 h78 n78 h79 n79 h80 n80 h88 n88 h89 n89 hl) ?_
    rintro _ h_309 ⟨w'_309, gt'_309, gd'_309, xs'_309, ys'_309, rfl, e_309_66, e_309_77, m_309_77, e_309_78, m_309_78, e_309_79, m_309_79, e_309_80, m_309_80, F_309⟩
    have k_309 := F_309.1.trans hl
    have fr_309 := hfr_c (hfr_refl [66, 77, 78, 79, 80] h) F_309 (by decide)
    have g_309_67 := (F_309.2 67 (by decide +kernel)).trans h67
    have g_309_68 := (F_309.2 68 (by decide +kernel)).trans h68
    have g_309_69 := (F_309.2 69 (by decide +kernel)).trans h69
    have g_309_88 := (F_309.2 88 (by decide +kernel)).trans h88
    have g_309_89 := (F_309.2 89 (by decide +kernel)).trans h89
    have g_309_66 : cE h_309 66 (.inr (10, [fI pl, .ref 67, .ref 68, .ref 69, fI ((s : Nat) : Int), .ref 70, .ref 71, fI (f 7), fI (f 8), .ref 72, fI (f 10), fI (f 11), fI (f 12), fJ (f 13), fI (f 14), fI (f 15), fI (f 16), fI (f 17), .ref 73, .ref 74, .ref 75, .ref 76, .ref 77, .ref 78, fI w'_309, .ref 79, .ref 80, .ref 81, .ref 82, .ref 83, .ref 84, .ref 85, fJ (f 32), fJ (f 33), .ref 86, .ref 87, fI r, .ref 88, .ref 89, .ref 90, .ref 91, .ref 92, .ref 93])) := e_309_66
    have g_309_77 : cE h_309 77 (.inl (.int, fA gt'_309)) := e_309_77
    have g_309_78 : cE h_309 78 (.inl (.int, fA gd'_309)) := e_309_78
    have g_309_79 : cE h_309 79 (.inl (.long, fL xs'_309)) := e_309_79
    have g_309_80 : cE h_309 80 (.inl (.long, fL ys'_309)) := e_309_80
    refine ik_Wk 0 (pc' := 18) (loc' := [some (.ref 66), some (fI (-1))]) (st' := [fI (mk_fv cn go ch s pl rp rt r)]) (h' := h_309) (cl' := 0) (sl' := 0) rfl ?_
    refine ik_Wk 1 (pc' := 23) (loc' := [some (.ref 66), some (fI (-1))]) (st' := [fI (mk_fv cn go ch s pl rp rt r)]) (h' := h_309) (cl' := 0) (sl' := 0) rfl ?_
    exact ik_Wret rfl rfl ⟨_, _, rfl, rfl, rfl, rfl, ⟨w'_309, gt'_309, gd'_309, xs'_309, ys'_309, (congrArg (fun z => [fI z]) (by unfold an_fi; (repeat' split) <;> first | rfl | omega)), g_309_66, g_309_77, m_309_77, g_309_78, m_309_78, g_309_79, m_309_79, g_309_80, m_309_80, fr_309⟩⟩
  · refine ik_Wk 2 (pc' := 7) (loc' := [some (.ref 66), some (fI p)]) (st' := [fI p, .ref 66]) (h' := h) (cl' := 0) (sl' := 0) rfl ?_
    refine ik_Wc 131 2 0 [.ref 66, fI p] [] rfl rfl rfl (by decide) rfl rfl (fw_rec hl rfl h66 rfl (by decide)) ?_
    refine ik_Wk 0 (pc' := 0) (loc' := [some (.ref 66), some (fI p)]) (st' := []) (h' := h) (cl' := 0) (sl' := 0) rfl ?_
    refine ik_Wk 1 (pc' := 1) (loc' := [some (.ref 66), some (fI p)]) (st' := [fI p]) (h' := h) (cl' := 0) (sl' := 0) rfl ?_
    refine fw_i2l rfl (by omega) (by omega) ?_
    refine fw_lc (z := 0) rfl (by decide) ?_
    refine ik_Wk 1 (pc' := 4) (loc' := [some (.ref 66), some (fI p)]) (st' := [.ref 66, fJ 0, fJ p]) (h' := h) (cl' := 0) (sl' := 0) rfl ?_
    refine fw_gf rfl rfl h66 rfl ?_
    refine ik_Wk 1 (pc' := 8) (loc' := [some (.ref 66), some (fI p)]) (st' := [fI 2, fI pl, fJ 0, fJ p]) (h' := h) (cl' := 0) (sl' := 0) rfl ?_
    refine fw_sub rfl ?_
    refine fw_i2l rfl (by omega) (by omega) ?_
    refine fw_call 127 3 3 [fJ p, fJ 0, fJ (pl - 2)] [] rfl rfl rfl (by decide) rfl rfl (fw_sta hl rfl (by decide)) (cr_in (v := p) (a := 0) (b := pl - 2) (by omega) (by omega) (by omega)  hl) ?_
    rintro _ h_310 (⟨rfl, p_310_0, F_310⟩ | ⟨rfl, p_310_0, F_310⟩)
    · have k_310 := F_310.1.trans hl
      have fr_310 := hfr_c (hfr_refl [66, 77, 78, 79, 80] h) F_310 (by decide)
      have g_310_66 := (F_310.2 66 (by decide +kernel)).trans h66
      have g_310_67 := (F_310.2 67 (by decide +kernel)).trans h67
      have g_310_68 := (F_310.2 68 (by decide +kernel)).trans h68
      have g_310_69 := (F_310.2 69 (by decide +kernel)).trans h69
      have g_310_77 := (F_310.2 77 (by decide +kernel)).trans h77
      have g_310_78 := (F_310.2 78 (by decide +kernel)).trans h78
      have g_310_79 := (F_310.2 79 (by decide +kernel)).trans h79
      have g_310_80 := (F_310.2 80 (by decide +kernel)).trans h80
      have g_310_88 := (F_310.2 88 (by decide +kernel)).trans h88
      have g_310_89 := (F_310.2 89 (by decide +kernel)).trans h89
      refine ik_Wk 0 (pc' := 13) (loc' := [some (.ref 66), some (fI p)]) (st' := [fI 1]) (h' := h_310) (cl' := 0) (sl' := 0) rfl ?_
      refine ik_Wret rfl rfl ⟨_, _, rfl, rfl, ?_⟩
      refine ik_Wk 0 (pc' := 10) (loc' := [some (.ref 66), some (fI p)]) (st' := [fI 1]) (h' := h_310) (cl' := 0) (sl' := 0) rfl ?_
      refine fw_if_eq rfl rfl (by omega) (by omega) (fun hc2 => absurd hc2 (by omega)) (fun hc2 => ?_)
      refine ik_Wk 2 (pc' := 15) (loc' := [some (.ref 66), some (fI p)]) (st' := [fI p, .ref 66]) (h' := h_310) (cl' := 0) (sl' := 0) rfl ?_
      refine fw_call 186 2 0 [.ref 66, fI p] [] rfl rfl rfl (by decide) rfl rfl (fw_rec k_310 rfl g_310_66 rfl (by decide)) (cr_fitOf (pl := pl) (f := fun j => ([0, 0, 0, 0, 0, 0, 0, f 7, f 8, 0, f 10, f 11, f 12, f 13, f 14, f 15, f 16, f 17, 0, 0, 0, 0, 0, 0, f 24, 0, 0, 0, 0, 0, 0, 0, f 32, f 33, 0, 0, 0, 0, 0, 0, 0, 0, 0] : List Int).getD j 0) (s := s) (cn := cn) (go := go) (ch := ch) (gt := gt) (gd := gd) (xs := xs) (ys := ys) (r := r) (rp := rp) (rt := rt) (p := p) (by omega) (by omega) q2 (by omega) q4 (by omega) g_310_66 g_310_67 n67 g_310_68 n68 g_310_69 n69 g_310_77 n77 g_310_78 n78 g_310_79 n79 g_310_80 n80 g_310_88 n88 g_310_89 n89 k_310) ?_
      rintro _ h_311 ⟨w'_311, gt'_311, gd'_311, xs'_311, ys'_311, rfl, e_311_66, e_311_77, m_311_77, e_311_78, m_311_78, e_311_79, m_311_79, e_311_80, m_311_80, F_311⟩
      have k_311 := F_311.1.trans k_310
      have fr_311 := hfr_c fr_310 F_311 (by decide)
      have g_311_67 := (F_311.2 67 (by decide +kernel)).trans g_310_67
      have g_311_68 := (F_311.2 68 (by decide +kernel)).trans g_310_68
      have g_311_69 := (F_311.2 69 (by decide +kernel)).trans g_310_69
      have g_311_88 := (F_311.2 88 (by decide +kernel)).trans g_310_88
      have g_311_89 := (F_311.2 89 (by decide +kernel)).trans g_310_89
      have g_311_66 : cE h_311 66 (.inr (10, [fI pl, .ref 67, .ref 68, .ref 69, fI ((s : Nat) : Int), .ref 70, .ref 71, fI (f 7), fI (f 8), .ref 72, fI (f 10), fI (f 11), fI (f 12), fJ (f 13), fI (f 14), fI (f 15), fI (f 16), fI (f 17), .ref 73, .ref 74, .ref 75, .ref 76, .ref 77, .ref 78, fI w'_311, .ref 79, .ref 80, .ref 81, .ref 82, .ref 83, .ref 84, .ref 85, fJ (f 32), fJ (f 33), .ref 86, .ref 87, fI r, .ref 88, .ref 89, .ref 90, .ref 91, .ref 92, .ref 93])) := e_311_66
      have g_311_77 : cE h_311 77 (.inl (.int, fA gt'_311)) := e_311_77
      have g_311_78 : cE h_311 78 (.inl (.int, fA gd'_311)) := e_311_78
      have g_311_79 : cE h_311 79 (.inl (.long, fL xs'_311)) := e_311_79
      have g_311_80 : cE h_311 80 (.inl (.long, fL ys'_311)) := e_311_80
      refine ik_Wk 0 (pc' := 18) (loc' := [some (.ref 66), some (fI p)]) (st' := [fI (mk_vs cn go ch s pl rp rt r p)]) (h' := h_311) (cl' := 0) (sl' := 0) rfl ?_
      refine ik_Wk 1 (pc' := 23) (loc' := [some (.ref 66), some (fI p)]) (st' := [fI (mk_vs cn go ch s pl rp rt r p)]) (h' := h_311) (cl' := 0) (sl' := 0) rfl ?_
      exact ik_Wret rfl rfl ⟨_, _, rfl, rfl, rfl, rfl, ⟨w'_311, gt'_311, gd'_311, xs'_311, ys'_311, (congrArg (fun z => [fI z]) (by unfold an_fi; (repeat' split) <;> first | rfl | omega)), g_311_66, g_311_77, m_311_77, g_311_78, m_311_78, g_311_79, m_311_79, g_311_80, m_311_80, fr_311⟩⟩
    · have k_310 := F_310.1.trans hl
      have fr_310 := hfr_c (hfr_refl [66, 77, 78, 79, 80] h) F_310 (by decide)
      have g_310_66 := (F_310.2 66 (by decide +kernel)).trans h66
      have g_310_67 := (F_310.2 67 (by decide +kernel)).trans h67
      have g_310_68 := (F_310.2 68 (by decide +kernel)).trans h68
      have g_310_69 := (F_310.2 69 (by decide +kernel)).trans h69
      have g_310_77 := (F_310.2 77 (by decide +kernel)).trans h77
      have g_310_78 := (F_310.2 78 (by decide +kernel)).trans h78
      have g_310_79 := (F_310.2 79 (by decide +kernel)).trans h79
      have g_310_80 := (F_310.2 80 (by decide +kernel)).trans h80
      have g_310_88 := (F_310.2 88 (by decide +kernel)).trans h88
      have g_310_89 := (F_310.2 89 (by decide +kernel)).trans h89
      refine ik_Wk 0 (pc' := 13) (loc' := [some (.ref 66), some (fI p)]) (st' := [fI 0]) (h' := h_310) (cl' := 0) (sl' := 0) rfl ?_
      refine ik_Wret rfl rfl ⟨_, _, rfl, rfl, ?_⟩
      refine ik_Wk 0 (pc' := 10) (loc' := [some (.ref 66), some (fI p)]) (st' := [fI 0]) (h' := h_310) (cl' := 0) (sl' := 0) rfl ?_
      refine fw_if_eq rfl rfl (by omega) (by omega) (fun hc3 => ?_) (fun hc3 => absurd hc3 (by omega))
      refine fw_ld (-1000000001) rfl rfl (by decide) ?_
      exact ik_Wret rfl rfl ⟨_, _, rfl, rfl, rfl, rfl, ⟨(f 24), gt, gd, xs, ys, (congrArg (fun z => [fI z]) (by unfold an_fi; (repeat' split) <;> first | rfl | omega)), g_310_66, g_310_77, n77, g_310_78, n78, g_310_79, n79, g_310_80, n80, fr_310⟩⟩

theorem rp_stonedL {h : List ik_E} {pl : Int} {f : Nat → Int} {s : Nat} {cn : List Int} {go : List Int} {ch : List Int} {gt : List Int} {gd : List Int} {xs : List Int} {ys : List Int} {r : Int} {rp : List Int} {rt : List Int} (q0 : 0 ≤ pl ∧ pl ≤ 12) (q1 : s < 4096) (q2 : mx_rw pl cn go ch) (q3 : 0 ≤ r ∧ r ≤ 12) (q4 : mk_rr pl r rp rt)  : ∀ (k : Nat) (p : Int) (g : Int) (wh : Int) (w1 : Int) (g1 : List Int) (d1 : List Int) (x1 : List Int) (y1 : List Int) (x4 : Option Value) (u : List ik_E) (u66 : cE u 66 (.inr (10, [fI pl, .ref 67, .ref 68, .ref 69, fI ((s : Nat) : Int), .ref 70, .ref 71, fI (f 7), fI (f 8), .ref 72, fI (f 10), fI (f 11), fI (f 12), fJ (f 13), fI (f 14), fI (f 15), fI (f 16), fI (f 17), .ref 73, .ref 74, .ref 75, .ref 76, .ref 77, .ref 78, fI w1, .ref 79, .ref 80, .ref 81, .ref 82, .ref 83, .ref 84, .ref 85, fJ (f 32), fJ (f 33), .ref 86, .ref 87, fI r, .ref 88, .ref 89, .ref 90, .ref 91, .ref 92, .ref 93]))) (u67 : cE u 67 (.inl (.int, fA cn))) (n67 : cn.length = 12) (u68 : cE u 68 (.inl (.int, fA go))) (n68 : go.length = 48) (u69 : cE u 69 (.inl (.int, fA ch))) (n69 : ch.length = 48) (u77 : cE u 77 (.inl (.int, fA g1))) (n77 : g1.length = 5) (u78 : cE u 78 (.inl (.int, fA d1))) (n78 : d1.length = 5) (u79 : cE u 79 (.inl (.long, fL x1))) (n79 : x1.length = 12) (u80 : cE u 80 (.inl (.long, fL y1))) (n80 : y1.length = 12) (u88 : cE u 88 (.inl (.int, fA rp))) (n88 : rp.length = 12) (u89 : cE u 89 (.inl (.int, fA rt))) (n89 : rt.length = 12) (ul : u.length = 94) (F : hfr [66, 77, 78, 79, 80] h u) (hp : 0 ≤ p ∧ (p ≤ pl - 1 ∨ p = 0)) (hg : 1 ≤ g ∧ g ≤ 1000000000) (he : mk_so (mk_vs cn go ch s pl rp rt r) (pl - 1).toNat 0 (mk_fv cn go ch s pl rp rt r) (-1) = mk_so (mk_vs cn go ch s pl rp rt r) (pl - 1 - p).toNat p g wh) (w4 : ik_wl 94 x4 = true) (hk : pl - p < (k : Int)), ik_G 188 10 [some (.ref 66), some (fI wh), some (fI g), some (fI p), x4] [] u (fun rv h' => ∃ (w' : Int) (gt' : List Int) (gd' : List Int) (xs' : List Int) (ys' : List Int), rv = [fI (mk_so (mk_vs cn go ch s pl rp rt r) (pl - 1).toNat 0 (mk_fv cn go ch s pl rp rt r) (-1))] ∧ cE h' 66 (.inr (10, [fI pl, .ref 67, .ref 68, .ref 69, fI ((s : Nat) : Int), .ref 70, .ref 71, fI (f 7), fI (f 8), .ref 72, fI (f 10), fI (f 11), fI (f 12), fJ (f 13), fI (f 14), fI (f 15), fI (f 16), fI (f 17), .ref 73, .ref 74, .ref 75, .ref 76, .ref 77, .ref 78, fI w', .ref 79, .ref 80, .ref 81, .ref 82, .ref 83, .ref 84, .ref 85, fJ (f 32), fJ (f 33), .ref 86, .ref 87, fI r, .ref 88, .ref 89, .ref 90, .ref 91, .ref 92, .ref 93])) ∧ cE h' 77 (.inl (.int, fA gt')) ∧ gt'.length = 5 ∧ cE h' 78 (.inl (.int, fA gd')) ∧ gd'.length = 5 ∧ cE h' 79 (.inl (.long, fL xs')) ∧ xs'.length = 12 ∧ cE h' 80 (.inl (.long, fL ys')) ∧ ys'.length = 12 ∧ hfr [66, 77, 78, 79, 80] h h') := by
  intro k
  induction k with
  | zero => intro p g wh w1 g1 d1 x1 y1 x4 u u66 u67 n67 u68 n68 u69 n69 u77 n77 u78 n78 u79 n79 u80 n80 u88 n88 u89 n89 ul F hp hg he w4 hk; omega
  | succ k ih =>
    intro p g wh w1 g1 d1 x1 y1 x4 u u66 u67 n67 u68 n68 u69 n69 u77 n77 u78 n78 u79 n79 u80 n80 u88 n88 u89 n89 ul F hp hg he w4 hk
    refine ik_Wk 2 (pc' := 12) (loc' := [some (.ref 66), some (fI wh), some (fI g), some (fI p), x4]) (st' := [.ref 66, fI p]) (h' := u) (cl' := 0) (sl' := 0) rfl ?_
    refine fw_gf rfl rfl u66 rfl ?_
    refine ik_Wk 1 (pc' := 16) (loc' := [some (.ref 66), some (fI wh), some (fI g), some (fI p), x4]) (st' := [fI 1, fI pl, fI p]) (h' := u) (cl' := 0) (sl' := 0) rfl ?_
    refine fw_sub rfl ?_
    refine fw_ic_ge rfl rfl (by omega) (by omega) (by omega) (by omega) (fun hc1 => ?_) (fun hc1 => ?_)
    · refine ik_Wk 1 (pc' := 59) (loc' := [some (.ref 66), some (fI wh), some (fI g), some (fI p), x4]) (st' := [fI wh]) (h' := u) (cl' := 0) (sl' := 0) rfl ?_
      rw [show (pl - 1 - p).toNat = 0 by omega] at he
      exact ik_Wret rfl rfl ⟨_, _, rfl, rfl, rfl, rfl, ⟨w1, g1, d1, x1, y1, (congrArg (fun z => [fI z]) he.symm), u66, u77, n77, u78, n78, u79, n79, u80, n80, F⟩⟩
    · refine ik_Wk 2 (pc' := 22) (loc' := [some (.ref 66), some (fI wh), some (fI g), some (fI p), x4]) (st' := [fI p, .ref 66]) (h' := u) (cl' := 0) (sl' := 0) rfl ?_
      refine fw_call 186 2 0 [.ref 66, fI p] [] rfl rfl rfl (by decide) rfl rfl (fw_rec ul (fw_ftx rfl wv_n (wl_c rfl (wl_c rfl (wl_c rfl (wl_c rfl (wl_c w4 wl_n)))))) u66 rfl (by decide)) (cr_fitOf (pl := pl) (f := fun j => ([0, 0, 0, 0, 0, 0, 0, f 7, f 8, 0, f 10, f 11, f 12, f 13, f 14, f 15, f 16, f 17, 0, 0, 0, 0, 0, 0, w1, 0, 0, 0, 0, 0, 0, 0, f 32, f 33, 0, 0, 0, 0, 0, 0, 0, 0, 0] : List Int).getD j 0) (s := s) (cn := cn) (go := go) (ch := ch) (gt := g1) (gd := d1) (xs := x1) (ys := y1) (r := r) (rp := rp) (rt := rt) (p := p) (by omega) (by omega) q2 (by omega) q4 (by omega) u66 u67 n67 u68 n68 u69 n69 u77 n77 u78 n78 u79 n79 u80 n80 u88 n88 u89 n89 ul) ?_
      rintro _ h_312 ⟨w'_312, gt'_312, gd'_312, xs'_312, ys'_312, rfl, e_312_66, e_312_77, m_312_77, e_312_78, m_312_78, e_312_79, m_312_79, e_312_80, m_312_80, F_312⟩
      have k_312 := F_312.1.trans ul
      have fr_312 := hfr_c F F_312 (by decide)
      have g_312_67 := (F_312.2 67 (by decide +kernel)).trans u67
      have g_312_68 := (F_312.2 68 (by decide +kernel)).trans u68
      have g_312_69 := (F_312.2 69 (by decide +kernel)).trans u69
      have g_312_88 := (F_312.2 88 (by decide +kernel)).trans u88
      have g_312_89 := (F_312.2 89 (by decide +kernel)).trans u89
      have g_312_66 : cE h_312 66 (.inr (10, [fI pl, .ref 67, .ref 68, .ref 69, fI ((s : Nat) : Int), .ref 70, .ref 71, fI (f 7), fI (f 8), .ref 72, fI (f 10), fI (f 11), fI (f 12), fJ (f 13), fI (f 14), fI (f 15), fI (f 16), fI (f 17), .ref 73, .ref 74, .ref 75, .ref 76, .ref 77, .ref 78, fI w'_312, .ref 79, .ref 80, .ref 81, .ref 82, .ref 83, .ref 84, .ref 85, fJ (f 32), fJ (f 33), .ref 86, .ref 87, fI r, .ref 88, .ref 89, .ref 90, .ref 91, .ref 92, .ref 93])) := e_312_66
      have g_312_77 : cE h_312 77 (.inl (.int, fA gt'_312)) := e_312_77
      have g_312_78 : cE h_312 78 (.inl (.int, fA gd'_312)) := e_312_78
      have g_312_79 : cE h_312 79 (.inl (.long, fL xs'_312)) := e_312_79
      have g_312_80 : cE h_312 80 (.inl (.long, fL ys'_312)) := e_312_80
      refine ik_Wk 0 (pc' := 25) (loc' := [some (.ref 66), some (fI wh), some (fI g), some (fI p), x4]) (st' := [fI (mk_vs cn go ch s pl rp rt r p)]) (h' := h_312) (cl' := 0) (sl' := 0) rfl ?_
      have fb_312 : 1 ≤ mk_vs cn go ch s pl rp rt r p ∧ mk_vs cn go ch s pl rp rt r p ≤ 1000000000 := mk_ft_b (J := mk_J (fun x => mx_w cn go ch (s ^^^ 1 <<< p.toNat) x) pl rp rt) r.toNat (fun j hj => mk_J_b (mx_rw_ok q2 _) q4 j (by omega))
      refine ik_Wk 3 (pc' := 30) (loc' := [some (.ref 66), some (fI wh), some (fI g), some (fI p), some (fI (mk_vs cn go ch s pl rp rt r p))]) (st' := [fI g, fI (mk_vs cn go ch s pl rp rt r p)]) (h' := h_312) (cl' := 0) (sl' := 0) rfl ?_
      refine fw_ic_le rfl rfl (by omega) (by omega) (by omega) (by omega) (fun hc2 => ?_) (fun hc2 => ?_)
      · refine ik_Wk 4 (pc' := 42) (loc' := [some (.ref 66), some (fI wh), some (fI g), some (fI p), some (fI (mk_vs cn go ch s pl rp rt r p))]) (st' := [fI g, fI (mk_vs cn go ch s pl rp rt r p)]) (h' := h_312) (cl' := 0) (sl' := 0) rfl ?_
        refine fw_ic_le rfl rfl (by omega) (by omega) (by omega) (by omega) (fun hc3 => ?_) (fun hc3 => absurd hc3 (by omega))
        refine ik_Wk 2 (pc' := 52) (loc' := [some (.ref 66), some (fI wh), some (fI g), some (fI p), some (fI (mk_vs cn go ch s pl rp rt r p))]) (st' := []) (h' := h_312) (cl' := 0) (sl' := 0) rfl ?_
        refine fw_inc (a := p) (loc' := [some (.ref 66), some (fI wh), some (fI g), some (fI (p + 1)), some (fI (mk_vs cn go ch s pl rp rt r p))]) rfl rfl (Nat.le_of_ble_eq_true rfl) rfl ?_
        refine ik_Wk 1 (pc' := 10) (loc' := [some (.ref 66), some (fI wh), some (fI g), some (fI (p + 1)), some (fI (mk_vs cn go ch s pl rp rt r p))]) (st' := []) (h' := h_312) (cl' := 0) (sl' := 0) rfl ?_
        exact ih  (p + 1) g wh w'_312 gt'_312 gd'_312 xs'_312 ys'_312 (some (fI (mk_vs cn go ch s pl rp rt r p))) h_312 g_312_66 g_312_67 n67 g_312_68 n68 g_312_69 n69 g_312_77 m_312_77 g_312_78 m_312_78 g_312_79 m_312_79 g_312_80 m_312_80 g_312_88 n88 g_312_89 n89 k_312 fr_312 (by omega) (by omega) (by rw [he, show (pl - 1 - p).toNat = (pl - 1 - (p + 1)).toNat + 1 by omega]; show (if g < mk_vs cn go ch s pl rp rt r p then _ else _) = _; rw [if_neg (by omega)]) rfl (by omega)
      · refine ik_Wk 5 (pc' := 42) (loc' := [some (.ref 66), some (fI p), some (fI g), some (fI p), some (fI (mk_vs cn go ch s pl rp rt r p))]) (st' := [fI g, fI (mk_vs cn go ch s pl rp rt r p)]) (h' := h_312) (cl' := 0) (sl' := 0) rfl ?_
        refine fw_ic_le rfl rfl (by omega) (by omega) (by omega) (by omega) (fun hc4 => absurd hc4 (by omega)) (fun hc4 => ?_)
        refine ik_Wk 3 (pc' := 52) (loc' := [some (.ref 66), some (fI p), some (fI (mk_vs cn go ch s pl rp rt r p)), some (fI p), some (fI (mk_vs cn go ch s pl rp rt r p))]) (st' := []) (h' := h_312) (cl' := 0) (sl' := 0) rfl ?_
        refine fw_inc (a := p) (loc' := [some (.ref 66), some (fI p), some (fI (mk_vs cn go ch s pl rp rt r p)), some (fI (p + 1)), some (fI (mk_vs cn go ch s pl rp rt r p))]) rfl rfl (Nat.le_of_ble_eq_true rfl) rfl ?_
        refine ik_Wk 1 (pc' := 10) (loc' := [some (.ref 66), some (fI p), some (fI (mk_vs cn go ch s pl rp rt r p)), some (fI (p + 1)), some (fI (mk_vs cn go ch s pl rp rt r p))]) (st' := []) (h' := h_312) (cl' := 0) (sl' := 0) rfl ?_
        exact ih  (p + 1) (mk_vs cn go ch s pl rp rt r p) p w'_312 gt'_312 gd'_312 xs'_312 ys'_312 (some (fI (mk_vs cn go ch s pl rp rt r p))) h_312 g_312_66 g_312_67 n67 g_312_68 n68 g_312_69 n69 g_312_77 m_312_77 g_312_78 m_312_78 g_312_79 m_312_79 g_312_80 m_312_80 g_312_88 n88 g_312_89 n89 k_312 fr_312 (by omega) (by omega) (by rw [he, show (pl - 1 - p).toNat = (pl - 1 - (p + 1)).toNat + 1 by omega]; show (if g < mk_vs cn go ch s pl rp rt r p then _ else _) = _; rw [if_pos (by omega)]) rfl (by omega)

theorem rp_stoned {h : List ik_E} {pl : Int} {f : Nat → Int} {s : Nat} {cn : List Int} {go : List Int} {ch : List Int} {gt : List Int} {gd : List Int} {xs : List Int} {ys : List Int} {r : Int} {rp : List Int} {rt : List Int} (q0 : 0 ≤ pl ∧ pl ≤ 12) (q1 : s < 4096) (q2 : mx_rw pl cn go ch) (q3 : 0 ≤ r ∧ r ≤ 12) (q4 : mk_rr pl r rp rt) (h66 : cE h 66 (.inr (10, [fI pl, .ref 67, .ref 68, .ref 69, fI ((s : Nat) : Int), .ref 70, .ref 71, fI (f 7), fI (f 8), .ref 72, fI (f 10), fI (f 11), fI (f 12), fJ (f 13), fI (f 14), fI (f 15), fI (f 16), fI (f 17), .ref 73, .ref 74, .ref 75, .ref 76, .ref 77, .ref 78, fI (f 24), .ref 79, .ref 80, .ref 81, .ref 82, .ref 83, .ref 84, .ref 85, fJ (f 32), fJ (f 33), .ref 86, .ref 87, fI r, .ref 88, .ref 89, .ref 90, .ref 91, .ref 92, .ref 93]))) (h67 : cE h 67 (.inl (.int, fA cn))) (n67 : cn.length = 12) (h68 : cE h 68 (.inl (.int, fA go))) (n68 : go.length = 48) (h69 : cE h 69 (.inl (.int, fA ch))) (n69 : ch.length = 48) (h77 : cE h 77 (.inl (.int, fA gt))) (n77 : gt.length = 5) (h78 : cE h 78 (.inl (.int, fA gd))) (n78 : gd.length = 5) (h79 : cE h 79 (.inl (.long, fL xs))) (n79 : xs.length = 12) (h80 : cE h 80 (.inl (.long, fL ys))) (n80 : ys.length = 12) (h88 : cE h 88 (.inl (.int, fA rp))) (n88 : rp.length = 12) (h89 : cE h 89 (.inl (.int, fA rt))) (n89 : rt.length = 12) (hl : h.length = 94) : ik_F 188 [.ref 66] h (fun rv h' => ∃ (w' : Int) (gt' : List Int) (gd' : List Int) (xs' : List Int) (ys' : List Int), rv = [fI (mk_so (mk_vs cn go ch s pl rp rt r) (pl - 1).toNat 0 (mk_fv cn go ch s pl rp rt r) (-1))] ∧ cE h' 66 (.inr (10, [fI pl, .ref 67, .ref 68, .ref 69, fI ((s : Nat) : Int), .ref 70, .ref 71, fI (f 7), fI (f 8), .ref 72, fI (f 10), fI (f 11), fI (f 12), fJ (f 13), fI (f 14), fI (f 15), fI (f 16), fI (f 17), .ref 73, .ref 74, .ref 75, .ref 76, .ref 77, .ref 78, fI w', .ref 79, .ref 80, .ref 81, .ref 82, .ref 83, .ref 84, .ref 85, fJ (f 32), fJ (f 33), .ref 86, .ref 87, fI r, .ref 88, .ref 89, .ref 90, .ref 91, .ref 92, .ref 93])) ∧ cE h' 77 (.inl (.int, fA gt')) ∧ gt'.length = 5 ∧ cE h' 78 (.inl (.int, fA gd')) ∧ gd'.length = 5 ∧ cE h' 79 (.inl (.long, fL xs')) ∧ xs'.length = 12 ∧ cE h' 80 (.inl (.long, fL ys')) ∧ ys'.length = 12 ∧ hfr [66, 77, 78, 79, 80] h h') := by
  refine ik_Wk 4 (pc' := 4) (loc' := [some (.ref 66), some (fI (-1)), none, none, none]) (st' := [fI (-1), .ref 66]) (h' := h) (cl' := 0) (sl' := 0) rfl ?_
  refine fw_call 186 2 0 [.ref 66, fI (-1)] [] rfl rfl rfl (by decide) rfl rfl (fw_rec hl rfl h66 rfl (by decide)) (cr_fitOf0 (pl := pl) (f := fun j => ([0, 0, 0, 0, 0, 0, 0, f 7, f 8, 0, f 10, f 11, f 12, f 13, f 14, f 15, f 16, f 17, 0, 0, 0, 0, 0, 0, f 24, 0, 0, 0, 0, 0, 0, 0, f 32, f 33, 0, 0, 0, 0, 0, 0, 0, 0, 0] : List Int).getD j 0) (s := s) (cn := cn) (go := go) (ch := ch) (gt := gt) (gd := gd) (xs := xs) (ys := ys) (r := r) (rp := rp) (rt := rt) (by omega) (by omega) q2 (by omega) q4 h66 h67 n67 h68 n68 h69 n69 h77 n77 h78 n78 h79 n79 h80 n80 h88 n88 h89 n89 hl) ?_
  rintro _ h_313 ⟨w'_313, gt'_313, gd'_313, xs'_313, ys'_313, rfl, e_313_66, e_313_77, m_313_77, e_313_78, m_313_78, e_313_79, m_313_79, e_313_80, m_313_80, F_313⟩
  have k_313 := F_313.1.trans hl
  have fr_313 := hfr_c (hfr_refl [66, 77, 78, 79, 80] h) F_313 (by decide)
  have g_313_67 := (F_313.2 67 (by decide +kernel)).trans h67
  have g_313_68 := (F_313.2 68 (by decide +kernel)).trans h68
  have g_313_69 := (F_313.2 69 (by decide +kernel)).trans h69
  have g_313_88 := (F_313.2 88 (by decide +kernel)).trans h88
  have g_313_89 := (F_313.2 89 (by decide +kernel)).trans h89
  have g_313_66 : cE h_313 66 (.inr (10, [fI pl, .ref 67, .ref 68, .ref 69, fI ((s : Nat) : Int), .ref 70, .ref 71, fI (f 7), fI (f 8), .ref 72, fI (f 10), fI (f 11), fI (f 12), fJ (f 13), fI (f 14), fI (f 15), fI (f 16), fI (f 17), .ref 73, .ref 74, .ref 75, .ref 76, .ref 77, .ref 78, fI w'_313, .ref 79, .ref 80, .ref 81, .ref 82, .ref 83, .ref 84, .ref 85, fJ (f 32), fJ (f 33), .ref 86, .ref 87, fI r, .ref 88, .ref 89, .ref 90, .ref 91, .ref 92, .ref 93])) := e_313_66
  have g_313_77 : cE h_313 77 (.inl (.int, fA gt'_313)) := e_313_77
  have g_313_78 : cE h_313 78 (.inl (.int, fA gd'_313)) := e_313_78
  have g_313_79 : cE h_313 79 (.inl (.long, fL xs'_313)) := e_313_79
  have g_313_80 : cE h_313 80 (.inl (.long, fL ys'_313)) := e_313_80
  refine ik_Wk 0 (pc' := 7) (loc' := [some (.ref 66), some (fI (-1)), none, none, none]) (st' := [fI (mk_fv cn go ch s pl rp rt r)]) (h' := h_313) (cl' := 0) (sl' := 0) rfl ?_
  refine ik_Wk 3 (pc' := 10) (loc' := [some (.ref 66), some (fI (-1)), some (fI (mk_fv cn go ch s pl rp rt r)), some (fI 0), none]) (st' := []) (h' := h_313) (cl' := 0) (sl' := 0) rfl ?_
  have fb : 1 ≤ (mk_fv cn go ch s pl rp rt r) ∧ (mk_fv cn go ch s pl rp rt r) ≤ 1000000000 := mk_ft_b (J := mk_J (fun x => mx_w cn go ch s x) pl rp rt) r.toNat (fun j hj => mk_J_b (mx_rw_ok q2 _) q4 j (by omega))
  exact rp_stonedL (pl := pl) (f := f) (s := s) (cn := cn) (go := go) (ch := ch) (gt := gt) (gd := gd) (xs := xs) (ys := ys) (r := r) (rp := rp) (rt := rt) q0 q1 q2 q3 q4  (pl.toNat + 1) 0 (mk_fv cn go ch s pl rp rt r) (-1) w'_313 gt'_313 gd'_313 xs'_313 ys'_313 none h_313 g_313_66 g_313_67 n67 g_313_68 n68 g_313_69 n69 g_313_77 m_313_77 g_313_78 m_313_78 g_313_79 m_313_79 g_313_80 m_313_80 g_313_88 n88 g_313_89 n89 k_313 fr_313 (by omega) fb (by rw [Int.sub_zero]) rfl (by omega)

end