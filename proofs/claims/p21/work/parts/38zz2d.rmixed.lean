noncomputable section
theorem rp_mixed2 {h : List ik_E} {pl : Int} {f : Nat → Int} {s : Nat} {cn : List Int} {go : List Int} {ch : List Int} {gt : List Int} {gd : List Int} {xs : List Int} {ys : List Int} {ka : Int} {pa : Int} {fa : Int} {kb : Int} {pb : Int} {fb : Int} {r1 : List Int} {r2 : List Int} {p : Int} {what : Int} {fr : List Int} {so : List Int} {sw : List Int} {ro : List Int} {cl : List Int} (q0 : 0 ≤ pl ∧ pl ≤ 12) (q1 : s < 4096) (q2 : ∀ x : Int, 0 ≤ x → x < pl - 1 → 0 ≤ cn.getD x.toNat 0 ∧ cn.getD x.toNat 0 ≤ 4) (q3 : ∀ x : Int, 0 ≤ x → x < pl - 1 → 1 ≤ cn.getD x.toNat 0 ∧ ∀ j : Int, 4 * x ≤ j → j < 4 * x + cn.getD x.toNat 0 → 0 ≤ ch.getD j.toNat 0 ∧ ch.getD j.toNat 0 ≤ 100) (q4 : ∀ x : Int, 0 ≤ x → x < pl - 1 → mx_ok pl (mx_w cn go ch s x)) (q5 : 1 < pl → 0 ≤ ka ∧ ka ≤ 2) (q6 : 1 < pl → 0 ≤ kb ∧ kb ≤ 2) (q7 : ∀ i : Int, 0 ≤ i → i < 3 → 0 ≤ ro.getD i.toNat 0 ∧ ro.getD i.toNat 0 ≤ 2) (q8 : ∀ i : Int, 0 ≤ i → i < 3 → 0 ≤ cl.getD i.toNat 0 ∧ cl.getD i.toNat 0 ≤ 2) (q9 : -2147483648 ≤ p ∧ p < 2147483648) (q10 : -2147483648 ≤ what ∧ what < 2147483648) (h66 : cE h 66 (.inr (10, [fI pl, .ref 67, .ref 68, .ref 69, fI ((s : Nat) : Int), .ref 70, .ref 71, fI (f 7), fI (f 8), .ref 72, fI (f 10), fI (f 11), fI (f 12), fJ (f 13), fI (f 14), fI (f 15), fI (f 16), fI (f 17), .ref 73, .ref 74, .ref 75, .ref 76, .ref 77, .ref 78, fI (f 24), .ref 79, .ref 80, .ref 81, .ref 82, .ref 83, .ref 84, .ref 85, fJ (f 32), fJ (f 33), .ref 86, .ref 87, fI (f 36), .ref 88, .ref 89, .ref 90, .ref 91, .ref 92, .ref 93]))) (h67 : cE h 67 (.inl (.int, fA cn))) (n67 : cn.length = 12) (h68 : cE h 68 (.inl (.int, fA go))) (n68 : go.length = 48) (h69 : cE h 69 (.inl (.int, fA ch))) (n69 : ch.length = 48) (h77 : cE h 77 (.inl (.int, fA gt))) (n77 : gt.length = 5) (h78 : cE h 78 (.inl (.int, fA gd))) (n78 : gd.length = 5) (h79 : cE h 79 (.inl (.long, fL xs))) (n79 : xs.length = 12) (h80 : cE h 80 (.inl (.long, fL ys))) (n80 : ys.length = 12) (h70 : cE h 70 (.inl (.int, fA [ka, pa, fa, kb, pb, fb]))) (h81 : cE h 81 (.inl (.long, fL r1))) (n81 : r1.length = 201) (h82 : cE h 82 (.inl (.long, fL r2))) (n82 : r2.length = 201) (h83 : cE h 83 (.inl (.long, fL fr))) (n83 : fr.length = 9) (h84 : cE h 84 (.inl (.long, fL so))) (n84 : so.length = 3) (h85 : cE h 85 (.inl (.long, fL sw))) (n85 : sw.length = 3) (h86 : cE h 86 (.inl (.int, fA ro))) (n86 : ro.length = 3) (h87 : cE h 87 (.inl (.int, fA cl))) (n87 : cl.length = 3) (hl : h.length = 94) : ik_F 180 [.ref 66, fI p, fI 2, fI what] h (fun rv h' => ∃ (w' : Int) (gt' : List Int) (gd' : List Int) (xs' : List Int) (ys' : List Int) (r1' : List Int) (r2' : List Int) (fr' : List Int) (sb' : Int) (wa' : Int) (so' : List Int) (sw' : List Int) (ro' : List Int) (cl' : List Int) (v : Int), rv = [fI v] ∧ cE h' 77 (.inl (.int, fA gt')) ∧ gt'.length = 5 ∧ cE h' 78 (.inl (.int, fA gd')) ∧ gd'.length = 5 ∧ cE h' 79 (.inl (.long, fL xs')) ∧ xs'.length = 12 ∧ cE h' 80 (.inl (.long, fL ys')) ∧ ys'.length = 12 ∧ cE h' 81 (.inl (.long, fL r1')) ∧ r1'.length = 201 ∧ cE h' 82 (.inl (.long, fL r2')) ∧ r2'.length = 201 ∧ cE h' 66 (.inr (10, [fI pl, .ref 67, .ref 68, .ref 69, fI ((s : Nat) : Int), .ref 70, .ref 71, fI (f 7), fI (f 8), .ref 72, fI (f 10), fI (f 11), fI (f 12), fJ (f 13), fI (f 14), fI (f 15), fI (f 16), fI (f 17), .ref 73, .ref 74, .ref 75, .ref 76, .ref 77, .ref 78, fI w', .ref 79, .ref 80, .ref 81, .ref 82, .ref 83, .ref 84, .ref 85, fJ sb', fJ wa', .ref 86, .ref 87, fI (f 36), .ref 88, .ref 89, .ref 90, .ref 91, .ref 92, .ref 93])) ∧ cE h' 70 (.inl (.int, fA [ka, pa, fa, kb, pb, fb])) ∧ cE h' 83 (.inl (.long, fL fr')) ∧ fr'.length = 9 ∧ cE h' 84 (.inl (.long, fL so')) ∧ so'.length = 3 ∧ cE h' 85 (.inl (.long, fL sw')) ∧ sw'.length = 3 ∧ cE h' 86 (.inl (.int, fA ro')) ∧ ro'.length = 3 ∧ cE h' 87 (.inl (.int, fA cl')) ∧ cl'.length = 3 ∧ (∀ i : Int, 0 ≤ i → i < 3 → 0 ≤ ro'.getD i.toNat 0 ∧ ro'.getD i.toNat 0 ≤ 2) ∧ (∀ i : Int, 0 ≤ i → i < 3 → 0 ≤ cl'.getD i.toNat 0 ∧ cl'.getD i.toNat 0 ≤ 2) ∧ hfr [66, 77, 78, 79, 80, 81, 82, 70, 83, 84, 85, 86, 87] h h') := by
  refine ik_Wk 2 (pc' := 2) (loc' := [some (.ref 66), some (fI p), some (fI 2), some (fI what)]) (st' := [fI p, .ref 66]) (h' := h) (cl' := 0) (sl' := 0) rfl ?_
  refine ik_Wc 131 2 0 [.ref 66, fI p] [] rfl rfl rfl (by decide) rfl rfl (fw_rec hl rfl h66 rfl (by decide)) ?_
  refine ik_Wk 0 (pc' := 0) (loc' := [some (.ref 66), some (fI p)]) (st' := []) (h' := h) (cl' := 0) (sl' := 0) rfl ?_
  refine ik_Wk 1 (pc' := 1) (loc' := [some (.ref 66), some (fI p)]) (st' := [fI p]) (h' := h) (cl' := 0) (sl' := 0) rfl ?_
  refine fw_i2l rfl (by omega) (by omega) ?_
  refine fw_lc (z := 0) rfl (by decide) ?_
  refine ik_Wk 1 (pc' := 4) (loc' := [some (.ref 66), some (fI p)]) (st' := [.ref 66, fJ 0, fJ p]) (h' := h) (cl' := 0) (sl' := 0) rfl ?_
  refine fw_gf rfl rfl h66 rfl ?_
  refine ik_Wk 1 (pc' := 8) (loc' := [some (.ref 66), some (fI p)]) (st' := [fI 2, fI pl, fJ 0, fJ p]) (h' := h) (cl' := 0) (sl' := 0) rfl ?_
  refine fw_sub rfl ?_
  refine fw_i2l rfl (by omega) (by omega) ?_
  refine fw_call 127 3 3 [fJ p, fJ 0, fJ (pl - 2)] [] rfl rfl rfl (by decide) rfl rfl (fw_sta hl rfl (by decide)) (cr_in (v := p) (a := 0) (b := pl - 2) (by omega) (by omega) (by omega)  hl) ?_
  rintro _ h_984 (⟨rfl, p_984_0, F_984⟩ | ⟨rfl, p_984_0, F_984⟩)
  · have k_984 := F_984.1.trans hl
    have fr_984 := hfr_c (hfr_refl [66, 77, 78, 79, 80, 81, 82, 70, 83, 84, 85, 86, 87] h) F_984 (by decide)
    have g_984_66 := (F_984.2 66 (by decide +kernel)).trans h66
    have g_984_67 := (F_984.2 67 (by decide +kernel)).trans h67
    have g_984_68 := (F_984.2 68 (by decide +kernel)).trans h68
    have g_984_69 := (F_984.2 69 (by decide +kernel)).trans h69
    have g_984_77 := (F_984.2 77 (by decide +kernel)).trans h77
    have g_984_78 := (F_984.2 78 (by decide +kernel)).trans h78
    have g_984_79 := (F_984.2 79 (by decide +kernel)).trans h79
    have g_984_80 := (F_984.2 80 (by decide +kernel)).trans h80
    have g_984_70 := (F_984.2 70 (by decide +kernel)).trans h70
    have g_984_81 := (F_984.2 81 (by decide +kernel)).trans h81
    have g_984_82 := (F_984.2 82 (by decide +kernel)).trans h82
    have g_984_83 := (F_984.2 83 (by decide +kernel)).trans h83
    have g_984_84 := (F_984.2 84 (by decide +kernel)).trans h84
    have g_984_85 := (F_984.2 85 (by decide +kernel)).trans h85
    have g_984_86 := (F_984.2 86 (by decide +kernel)).trans h86
    have g_984_87 := (F_984.2 87 (by decide +kernel)).trans h87
    refine ik_Wk 0 (pc' := 13) (loc' := [some (.ref 66), some (fI p)]) (st' := [fI 1]) (h' := h_984) (cl' := 0) (sl' := 0) rfl ?_
    refine ik_Wret rfl rfl ⟨_, _, rfl, rfl, ?_⟩
    refine ik_Wk 0 (pc' := 5) (loc' := [some (.ref 66), some (fI p), some (fI 2), some (fI what)]) (st' := [fI 1]) (h' := h_984) (cl' := 0) (sl' := 0) rfl ?_
    refine fw_if_eq rfl rfl (by omega) (by omega) (fun hc1 => absurd hc1 (by omega)) (fun hc1 => ?_)
    refine ik_Wk 1 (pc' := 9) (loc' := [some (.ref 66), some (fI p), some (fI 2), some (fI what)]) (st' := [fI 2]) (h' := h_984) (cl' := 0) (sl' := 0) rfl ?_
    refine fw_i2l rfl (by omega) (by omega) ?_
    refine fw_lc (z := 1) rfl (by decide) ?_
    refine fw_l2 3 rfl rfl (by decide) ?_
    refine fw_call 127 3 3 [fJ 2, fJ 1, fJ 3] [] rfl rfl rfl (by decide) rfl rfl (fw_sta k_984 rfl (by decide)) (cr_in (v := 2) (a := 1) (b := 3) (by omega) (by omega) (by omega)  k_984) ?_
    rintro _ h_985 (⟨rfl, p_985_0, F_985⟩ | ⟨rfl, p_985_0, F_985⟩)
    · have k_985 := F_985.1.trans k_984
      have fr_985 := hfr_c fr_984 F_985 (by decide)
      have g_985_66 := (F_985.2 66 (by decide +kernel)).trans g_984_66
      have g_985_67 := (F_985.2 67 (by decide +kernel)).trans g_984_67
      have g_985_68 := (F_985.2 68 (by decide +kernel)).trans g_984_68
      have g_985_69 := (F_985.2 69 (by decide +kernel)).trans g_984_69
      have g_985_77 := (F_985.2 77 (by decide +kernel)).trans g_984_77
      have g_985_78 := (F_985.2 78 (by decide +kernel)).trans g_984_78
      have g_985_79 := (F_985.2 79 (by decide +kernel)).trans g_984_79
      have g_985_80 := (F_985.2 80 (by decide +kernel)).trans g_984_80
      have g_985_70 := (F_985.2 70 (by decide +kernel)).trans g_984_70
      have g_985_81 := (F_985.2 81 (by decide +kernel)).trans g_984_81
      have g_985_82 := (F_985.2 82 (by decide +kernel)).trans g_984_82
      have g_985_83 := (F_985.2 83 (by decide +kernel)).trans g_984_83
      have g_985_84 := (F_985.2 84 (by decide +kernel)).trans g_984_84
      have g_985_85 := (F_985.2 85 (by decide +kernel)).trans g_984_85
      have g_985_86 := (F_985.2 86 (by decide +kernel)).trans g_984_86
      have g_985_87 := (F_985.2 87 (by decide +kernel)).trans g_984_87
      refine ik_Wk 0 (pc' := 17) (loc' := [some (.ref 66), some (fI p), some (fI 2), some (fI what)]) (st' := [fI 1]) (h' := h_985) (cl' := 0) (sl' := 0) rfl ?_
      refine fw_if_eq rfl rfl (by omega) (by omega) (fun hc2 => absurd hc2 (by omega)) (fun hc2 => ?_)
      refine ik_Wk 3 (pc' := 23) (loc' := [some (.ref 66), some (fI p), some (fI 2), some (fI what)]) (st' := [fI 2, fI p, .ref 66]) (h' := h_985) (cl' := 0) (sl' := 0) rfl ?_
      refine fw_add rfl ?_
      refine ik_Wk 1 (pc' := 25) (loc' := [some (.ref 66), some (fI p), some (fI 2), some (fI what)]) (st' := [fI 1, fI (p + 2), .ref 66]) (h' := h_985) (cl' := 0) (sl' := 0) rfl ?_
      refine fw_sub rfl ?_
      refine ik_Wc 131 2 0 [.ref 66, fI ((p + 2) - 1)] [] rfl rfl rfl (by decide) rfl rfl (fw_rec k_985 rfl g_985_66 rfl (by decide)) ?_
      refine ik_Wk 0 (pc' := 0) (loc' := [some (.ref 66), some (fI ((p + 2) - 1))]) (st' := []) (h' := h_985) (cl' := 0) (sl' := 0) rfl ?_
      refine ik_Wk 1 (pc' := 1) (loc' := [some (.ref 66), some (fI ((p + 2) - 1))]) (st' := [fI ((p + 2) - 1)]) (h' := h_985) (cl' := 0) (sl' := 0) rfl ?_
      refine fw_i2l rfl (by omega) (by omega) ?_
      refine fw_lc (z := 0) rfl (by decide) ?_
      refine ik_Wk 1 (pc' := 4) (loc' := [some (.ref 66), some (fI ((p + 2) - 1))]) (st' := [.ref 66, fJ 0, fJ ((p + 2) - 1)]) (h' := h_985) (cl' := 0) (sl' := 0) rfl ?_
      refine fw_gf rfl rfl g_985_66 rfl ?_
      refine ik_Wk 1 (pc' := 8) (loc' := [some (.ref 66), some (fI ((p + 2) - 1))]) (st' := [fI 2, fI pl, fJ 0, fJ ((p + 2) - 1)]) (h' := h_985) (cl' := 0) (sl' := 0) rfl ?_
      refine fw_sub rfl ?_
      refine fw_i2l rfl (by omega) (by omega) ?_
      refine fw_call 127 3 3 [fJ ((p + 2) - 1), fJ 0, fJ (pl - 2)] [] rfl rfl rfl (by decide) rfl rfl (fw_sta k_985 rfl (by decide)) (cr_in (v := (p + 2) - 1) (a := 0) (b := pl - 2) (by omega) (by omega) (by omega)  k_985) ?_
      rintro _ h_986 (⟨rfl, p_986_0, F_986⟩ | ⟨rfl, p_986_0, F_986⟩)
      · have k_986 := F_986.1.trans k_985
        have fr_986 := hfr_c fr_985 F_986 (by decide)
        have g_986_66 := (F_986.2 66 (by decide +kernel)).trans g_985_66
        have g_986_67 := (F_986.2 67 (by decide +kernel)).trans g_985_67
        have g_986_68 := (F_986.2 68 (by decide +kernel)).trans g_985_68
        have g_986_69 := (F_986.2 69 (by decide +kernel)).trans g_985_69
        have g_986_77 := (F_986.2 77 (by decide +kernel)).trans g_985_77
        have g_986_78 := (F_986.2 78 (by decide +kernel)).trans g_985_78
        have g_986_79 := (F_986.2 79 (by decide +kernel)).trans g_985_79
        have g_986_80 := (F_986.2 80 (by decide +kernel)).trans g_985_80
        have g_986_70 := (F_986.2 70 (by decide +kernel)).trans g_985_70
        have g_986_81 := (F_986.2 81 (by decide +kernel)).trans g_985_81
        have g_986_82 := (F_986.2 82 (by decide +kernel)).trans g_985_82
        have g_986_83 := (F_986.2 83 (by decide +kernel)).trans g_985_83
        have g_986_84 := (F_986.2 84 (by decide +kernel)).trans g_985_84
        have g_986_85 := (F_986.2 85 (by decide +kernel)).trans g_985_85
        have g_986_86 := (F_986.2 86 (by decide +kernel)).trans g_985_86
        have g_986_87 := (F_986.2 87 (by decide +kernel)).trans g_985_87
        refine ik_Wk 0 (pc' := 13) (loc' := [some (.ref 66), some (fI ((p + 2) - 1))]) (st' := [fI 1]) (h' := h_986) (cl' := 0) (sl' := 0) rfl ?_
        refine ik_Wret rfl rfl ⟨_, _, rfl, rfl, ?_⟩
        refine ik_Wk 0 (pc' := 29) (loc' := [some (.ref 66), some (fI p), some (fI 2), some (fI what)]) (st' := [fI 1]) (h' := h_986) (cl' := 0) (sl' := 0) rfl ?_
        refine fw_if_ne rfl rfl (by omega) (by omega) (fun hc3 => absurd hc3 (by omega)) (fun hc3 => ?_)
        refine ik_Wk 1 (pc' := 36) (loc' := [some (.ref 66), some (fI p), some (fI 2), some (fI what)]) (st' := [fI 2]) (h' := h_986) (cl' := 0) (sl' := 0) rfl ?_
        refine fw_i2l rfl (by omega) (by omega) ?_
        refine fw_lc (z := 1) rfl (by decide) ?_
        refine fw_l2 3 rfl rfl (by decide) ?_
        refine fw_call 127 3 3 [fJ 2, fJ 1, fJ 3] [] rfl rfl rfl (by decide) rfl rfl (fw_sta k_986 rfl (by decide)) (cr_in (v := 2) (a := 1) (b := 3) (by omega) (by omega) (by omega)  k_986) ?_
        rintro _ h_987 (⟨rfl, p_987_0, F_987⟩ | ⟨rfl, p_987_0, F_987⟩)
        · have k_987 := F_987.1.trans k_986
          have fr_987 := hfr_c fr_986 F_987 (by decide)
          have g_987_66 := (F_987.2 66 (by decide +kernel)).trans g_986_66
          have g_987_67 := (F_987.2 67 (by decide +kernel)).trans g_986_67
          have g_987_68 := (F_987.2 68 (by decide +kernel)).trans g_986_68
          have g_987_69 := (F_987.2 69 (by decide +kernel)).trans g_986_69
          have g_987_77 := (F_987.2 77 (by decide +kernel)).trans g_986_77
          have g_987_78 := (F_987.2 78 (by decide +kernel)).trans g_986_78
          have g_987_79 := (F_987.2 79 (by decide +kernel)).trans g_986_79
          have g_987_80 := (F_987.2 80 (by decide +kernel)).trans g_986_80
          have g_987_70 := (F_987.2 70 (by decide +kernel)).trans g_986_70
          have g_987_81 := (F_987.2 81 (by decide +kernel)).trans g_986_81
          have g_987_82 := (F_987.2 82 (by decide +kernel)).trans g_986_82
          have g_987_83 := (F_987.2 83 (by decide +kernel)).trans g_986_83
          have g_987_84 := (F_987.2 84 (by decide +kernel)).trans g_986_84
          have g_987_85 := (F_987.2 85 (by decide +kernel)).trans g_986_85
          have g_987_86 := (F_987.2 86 (by decide +kernel)).trans g_986_86
          have g_987_87 := (F_987.2 87 (by decide +kernel)).trans g_986_87
          refine ik_Wk 0 (pc' := 44) (loc' := [some (.ref 66), some (fI p), some (fI 2), some (fI what)]) (st' := [fI 1]) (h' := h_987) (cl' := 0) (sl' := 0) rfl ?_
          refine fw_if_eq rfl rfl (by omega) (by omega) (fun hc4 => absurd hc4 (by omega)) (fun hc4 => ?_)
          refine ik_Wk 1 (pc' := 48) (loc' := [some (.ref 66), some (fI p), some (fI 2), some (fI what)]) (st' := [fI what]) (h' := h_987) (cl' := 0) (sl' := 0) rfl ?_
          refine fw_i2l rfl (by omega) (by omega) ?_
          refine fw_lc (z := 0) rfl (by decide) ?_
          refine fw_l2 6 rfl rfl (by decide) ?_
          refine fw_call 127 3 3 [fJ what, fJ 0, fJ 6] [] rfl rfl rfl (by decide) rfl rfl (fw_sta k_987 rfl (by decide)) (cr_in (v := what) (a := 0) (b := 6) (by omega) (by omega) (by omega)  k_987) ?_
          rintro _ h_988 (⟨rfl, p_988_0, F_988⟩ | ⟨rfl, p_988_0, F_988⟩)
          · have k_988 := F_988.1.trans k_987
            have fr_988 := hfr_c fr_987 F_988 (by decide)
            have g_988_66 := (F_988.2 66 (by decide +kernel)).trans g_987_66
            have g_988_67 := (F_988.2 67 (by decide +kernel)).trans g_987_67
            have g_988_68 := (F_988.2 68 (by decide +kernel)).trans g_987_68
            have g_988_69 := (F_988.2 69 (by decide +kernel)).trans g_987_69
            have g_988_77 := (F_988.2 77 (by decide +kernel)).trans g_987_77
            have g_988_78 := (F_988.2 78 (by decide +kernel)).trans g_987_78
            have g_988_79 := (F_988.2 79 (by decide +kernel)).trans g_987_79
            have g_988_80 := (F_988.2 80 (by decide +kernel)).trans g_987_80
            have g_988_70 := (F_988.2 70 (by decide +kernel)).trans g_987_70
            have g_988_81 := (F_988.2 81 (by decide +kernel)).trans g_987_81
            have g_988_82 := (F_988.2 82 (by decide +kernel)).trans g_987_82
            have g_988_83 := (F_988.2 83 (by decide +kernel)).trans g_987_83
            have g_988_84 := (F_988.2 84 (by decide +kernel)).trans g_987_84
            have g_988_85 := (F_988.2 85 (by decide +kernel)).trans g_987_85
            have g_988_86 := (F_988.2 86 (by decide +kernel)).trans g_987_86
            have g_988_87 := (F_988.2 87 (by decide +kernel)).trans g_987_87
            refine ik_Wk 0 (pc' := 56) (loc' := [some (.ref 66), some (fI p), some (fI 2), some (fI what)]) (st' := [fI 1]) (h' := h_988) (cl' := 0) (sl' := 0) rfl ?_
            refine fw_if_ne rfl rfl (by omega) (by omega) (fun hc5 => absurd hc5 (by omega)) (fun hc5 => ?_)
            refine ik_Wk 3 (pc' := 65) (loc' := [some (.ref 66), some (fI p), some (fI 2), some (fI what)]) (st' := [fI 2, fI p, .ref 66]) (h' := h_988) (cl' := 0) (sl' := 0) rfl ?_
            refine fw_call 178 3 0 [.ref 66, fI p, fI 2] [] rfl rfl rfl (by decide) rfl rfl (fw_rec k_988 rfl g_988_66 rfl (by decide)) (cr_fears2 (pl := pl) (f := fun j => ([0, 0, 0, 0, 0, 0, 0, f 7, f 8, 0, f 10, f 11, f 12, f 13, f 14, f 15, f 16, f 17, 0, 0, 0, 0, 0, 0, f 24, 0, 0, 0, 0, 0, 0, 0, f 32, f 33, 0, 0, f 36, 0, 0, 0, 0, 0, 0] : List Int).getD j 0) (s := s) (cn := cn) (go := go) (ch := ch) (gt := gt) (gd := gd) (xs := xs) (ys := ys) (ka := ka) (pa := pa) (fa := fa) (kb := kb) (pb := pb) (fb := fb) (r1 := r1) (r2 := r2) (p := p) (fr := fr) (by omega) (by omega) q2 q3 q4 (q5 (by omega)) (q6 (by omega)) (by omega) g_988_66 g_988_67 n67 g_988_68 n68 g_988_69 n69 g_988_77 n77 g_988_78 n78 g_988_79 n79 g_988_80 n80 g_988_70 g_988_81 n81 g_988_82 n82 g_988_83 n83 k_988) ?_
            rintro _ h_989 ⟨w'_989, gt'_989, gd'_989, xs'_989, ys'_989, r1'_989, r2'_989, fr'_989, rfl, e_989_66, e_989_77, m_989_77, e_989_78, m_989_78, e_989_79, m_989_79, e_989_80, m_989_80, e_989_81, m_989_81, e_989_82, m_989_82, e_989_70, e_989_83, m_989_83, F_989⟩
            have k_989 := F_989.1.trans k_988
            have fr_989 := hfr_c fr_988 F_989 (by decide)
            have g_989_67 := (F_989.2 67 (by decide +kernel)).trans g_988_67
            have g_989_68 := (F_989.2 68 (by decide +kernel)).trans g_988_68
            have g_989_69 := (F_989.2 69 (by decide +kernel)).trans g_988_69
            have g_989_84 := (F_989.2 84 (by decide +kernel)).trans g_988_84
            have g_989_85 := (F_989.2 85 (by decide +kernel)).trans g_988_85
            have g_989_86 := (F_989.2 86 (by decide +kernel)).trans g_988_86
            have g_989_87 := (F_989.2 87 (by decide +kernel)).trans g_988_87
            have g_989_66 : cE h_989 66 (.inr (10, [fI pl, .ref 67, .ref 68, .ref 69, fI ((s : Nat) : Int), .ref 70, .ref 71, fI (f 7), fI (f 8), .ref 72, fI (f 10), fI (f 11), fI (f 12), fJ (f 13), fI (f 14), fI (f 15), fI (f 16), fI (f 17), .ref 73, .ref 74, .ref 75, .ref 76, .ref 77, .ref 78, fI w'_989, .ref 79, .ref 80, .ref 81, .ref 82, .ref 83, .ref 84, .ref 85, fJ (f 32), fJ (f 33), .ref 86, .ref 87, fI (f 36), .ref 88, .ref 89, .ref 90, .ref 91, .ref 92, .ref 93])) := e_989_66
            have g_989_77 : cE h_989 77 (.inl (.int, fA gt'_989)) := e_989_77
            have g_989_78 : cE h_989 78 (.inl (.int, fA gd'_989)) := e_989_78
            have g_989_79 : cE h_989 79 (.inl (.long, fL xs'_989)) := e_989_79
            have g_989_80 : cE h_989 80 (.inl (.long, fL ys'_989)) := e_989_80
            have g_989_81 : cE h_989 81 (.inl (.long, fL r1'_989)) := e_989_81
            have g_989_82 : cE h_989 82 (.inl (.long, fL r2'_989)) := e_989_82
            have g_989_70 : cE h_989 70 (.inl (.int, fA [ka, pa, fa, kb, pb, fb])) := e_989_70
            have g_989_83 : cE h_989 83 (.inl (.long, fL fr'_989)) := e_989_83
            refine ik_Wk 0 (pc' := 68) (loc' := [some (.ref 66), some (fI p), some (fI 2), some (fI what)]) (st' := []) (h' := h_989) (cl' := 0) (sl' := 0) rfl ?_
            refine ik_Wk 2 (pc' := 70) (loc' := [some (.ref 66), some (fI p), some (fI 2), some (fI what)]) (st' := [fI 2, .ref 66]) (h' := h_989) (cl' := 0) (sl' := 0) rfl ?_
            refine fw_call 179 2 0 [.ref 66, fI 2] [] rfl rfl rfl (by decide) rfl rfl (fw_rec k_989 rfl g_989_66 rfl (by decide)) (cr_findMixed (f := fun j => ([pl, 0, 0, 0, ((s : Nat) : Int), 0, 0, (f 7), (f 8), 0, (f 10), (f 11), (f 12), (f 13), (f 14), (f 15), (f 16), (f 17), 0, 0, 0, 0, 0, 0, w'_989, 0, 0, 0, 0, 0, 0, 0, (f 32), (f 33), 0, 0, (f 36), 0, 0, 0, 0, 0, 0] : List Int).getD j 0) (n := 2) (fr := fr'_989) (so := so) (sw := sw) (ro := ro) (cl := cl) (by omega) q7 q8 g_989_66 g_989_83 m_989_83 g_989_84 n84 g_989_85 n85 g_989_86 n86 g_989_87 n87 k_989) ?_
            rintro _ h_990 ⟨sb'_990, wa'_990, so'_990, sw'_990, ro'_990, cl'_990, b_990, rfl, e_990_66, e_990_84, m_990_84, e_990_85, m_990_85, e_990_86, m_990_86, e_990_87, m_990_87, p_990_0, p_990_1, p_990_2, p_990_3, F_990⟩
            have k_990 := F_990.1.trans k_989
            have fr_990 := hfr_c fr_989 F_990 (by decide)
            have g_990_67 := (F_990.2 67 (by decide +kernel)).trans g_989_67
            have g_990_68 := (F_990.2 68 (by decide +kernel)).trans g_989_68
            have g_990_69 := (F_990.2 69 (by decide +kernel)).trans g_989_69
            have g_990_77 := (F_990.2 77 (by decide +kernel)).trans g_989_77
            have g_990_78 := (F_990.2 78 (by decide +kernel)).trans g_989_78
            have g_990_79 := (F_990.2 79 (by decide +kernel)).trans g_989_79
            have g_990_80 := (F_990.2 80 (by decide +kernel)).trans g_989_80
            have g_990_70 := (F_990.2 70 (by decide +kernel)).trans g_989_70
            have g_990_81 := (F_990.2 81 (by decide +kernel)).trans g_989_81
            have g_990_82 := (F_990.2 82 (by decide +kernel)).trans g_989_82
            have g_990_83 := (F_990.2 83 (by decide +kernel)).trans g_989_83
            have g_990_66 : cE h_990 66 (.inr (10, [fI pl, .ref 67, .ref 68, .ref 69, fI ((s : Nat) : Int), .ref 70, .ref 71, fI (f 7), fI (f 8), .ref 72, fI (f 10), fI (f 11), fI (f 12), fJ (f 13), fI (f 14), fI (f 15), fI (f 16), fI (f 17), .ref 73, .ref 74, .ref 75, .ref 76, .ref 77, .ref 78, fI w'_989, .ref 79, .ref 80, .ref 81, .ref 82, .ref 83, .ref 84, .ref 85, fJ sb'_990, fJ wa'_990, .ref 86, .ref 87, fI (f 36), .ref 88, .ref 89, .ref 90, .ref 91, .ref 92, .ref 93])) := e_990_66
            have g_990_84 : cE h_990 84 (.inl (.long, fL so'_990)) := e_990_84
            have g_990_85 : cE h_990 85 (.inl (.long, fL sw'_990)) := e_990_85
            have g_990_86 : cE h_990 86 (.inl (.int, fA ro'_990)) := e_990_86
            have g_990_87 : cE h_990 87 (.inl (.int, fA cl'_990)) := e_990_87
            refine ik_Wk 0 (pc' := 73) (loc' := [some (.ref 66), some (fI p), some (fI 2), some (fI what)]) (st' := [fI b_990]) (h' := h_990) (cl' := 0) (sl' := 0) rfl ?_
            refine fw_if_ne rfl rfl (by omega) (by omega) (fun hc6 => ?_) (fun hc6 => ?_)
            · refine fw_ld (-1000000003) rfl rfl (by decide) ?_
              exact ik_Wret rfl rfl ⟨_, _, rfl, rfl, rfl, rfl, ⟨w'_989, gt'_989, gd'_989, xs'_989, ys'_989, r1'_989, r2'_989, fr'_989, sb'_990, wa'_990, so'_990, sw'_990, ro'_990, cl'_990, (-1000000003), rfl, g_990_77, m_989_77, g_990_78, m_989_78, g_990_79, m_989_79, g_990_80, m_989_80, g_990_81, m_989_81, g_990_82, m_989_82, g_990_66, g_990_70, g_990_83, m_989_83, g_990_84, m_990_84, g_990_85, m_990_85, g_990_86, m_990_86, g_990_87, m_990_87, p_990_0, p_990_1, fr_990⟩⟩
            · refine ik_Wk 1 (pc' := 80) (loc' := [some (.ref 66), some (fI p), some (fI 2), some (fI what)]) (st' := [fI what]) (h' := h_990) (cl' := 0) (sl' := 0) rfl ?_
              refine fw_if_ne rfl rfl (by omega) (by omega) (fun hc7 => ?_) (fun hc7 => ?_)
              · refine ik_Wk 1 (pc' := 84) (loc' := [some (.ref 66), some (fI p), some (fI 2), some (fI what)]) (st' := [.ref 66]) (h' := h_990) (cl' := 0) (sl' := 0) rfl ?_
                refine fw_gf rfl rfl g_990_66 rfl ?_
                refine fw_l2 1000 rfl rfl (by decide) ?_
                refine fw_lmul rfl ?_
                refine ik_Wk 1 (pc' := 92) (loc' := [some (.ref 66), some (fI p), some (fI 2), some (fI what)]) (st' := [.ref 66, fJ (wa'_990 * 1000)]) (h' := h_990) (cl' := 0) (sl' := 0) rfl ?_
                refine fw_gf rfl rfl g_990_66 rfl ?_
                refine fx_ldo rfl (p_990_3 (by omega)) (fun qd8 => ?_)
                refine ik_Wk 1 (pc' := 132) (loc' := [some (.ref 66), some (fI p), some (fI 2), some (fI what)]) (st' := [fJ qd8]) (h' := h_990) (cl' := 0) (sl' := 0) rfl ?_
                refine fx_l2i rfl ?_
                exact ik_Wret rfl rfl ⟨_, _, rfl, rfl, rfl, rfl, ⟨w'_989, gt'_989, gd'_989, xs'_989, ys'_989, r1'_989, r2'_989, fr'_989, sb'_990, wa'_990, so'_990, sw'_990, ro'_990, cl'_990, qd8, rfl, g_990_77, m_989_77, g_990_78, m_989_78, g_990_79, m_989_79, g_990_80, m_989_80, g_990_81, m_989_81, g_990_82, m_989_82, g_990_66, g_990_70, g_990_83, m_989_83, g_990_84, m_990_84, g_990_85, m_990_85, g_990_86, m_990_86, g_990_87, m_990_87, p_990_0, p_990_1, fr_990⟩⟩
              · refine ik_Wk 2 (pc' := 101) (loc' := [some (.ref 66), some (fI p), some (fI 2), some (fI what)]) (st' := [fI 4, fI what]) (h' := h_990) (cl' := 0) (sl' := 0) rfl ?_
                refine fw_ic_ge rfl rfl (by omega) (by omega) (by omega) (by omega) (fun hc9 => ?_) (fun hc9 => ?_)
                · refine ik_Wk 1 (pc' := 116) (loc' := [some (.ref 66), some (fI p), some (fI 2), some (fI what)]) (st' := [.ref 66]) (h' := h_990) (cl' := 0) (sl' := 0) rfl ?_
                  refine fw_gf rfl rfl g_990_66 rfl ?_
                  refine ik_Wk 2 (pc' := 121) (loc' := [some (.ref 66), some (fI p), some (fI 2), some (fI what)]) (st' := [fI 4, fI what, .ref 85]) (h' := h_990) (cl' := 0) (sl' := 0) rfl ?_
                  refine fw_sub rfl ?_
                  refine fx_lal rfl g_990_85 (by omega) (by omega) (by omega) ?_
                  refine fw_l2 1000000 rfl rfl (by decide) ?_
                  refine fw_lmul rfl ?_
                  refine ik_Wk 1 (pc' := 128) (loc' := [some (.ref 66), some (fI p), some (fI 2), some (fI what)]) (st' := [.ref 66, fJ ((sw'_990.getD (what - 4).toNat 0) * 1000000)]) (h' := h_990) (cl' := 0) (sl' := 0) rfl ?_
                  refine fw_gf rfl rfl g_990_66 rfl ?_
                  refine fx_ldo rfl (p_990_3 (by omega)) (fun qd10 => ?_)
                  refine fx_l2i rfl ?_
                  exact ik_Wret rfl rfl ⟨_, _, rfl, rfl, rfl, rfl, ⟨w'_989, gt'_989, gd'_989, xs'_989, ys'_989, r1'_989, r2'_989, fr'_989, sb'_990, wa'_990, so'_990, sw'_990, ro'_990, cl'_990, qd10, rfl, g_990_77, m_989_77, g_990_78, m_989_78, g_990_79, m_989_79, g_990_80, m_989_80, g_990_81, m_989_81, g_990_82, m_989_82, g_990_66, g_990_70, g_990_83, m_989_83, g_990_84, m_990_84, g_990_85, m_990_85, g_990_86, m_990_86, g_990_87, m_990_87, p_990_0, p_990_1, fr_990⟩⟩
                · refine ik_Wk 1 (pc' := 105) (loc' := [some (.ref 66), some (fI p), some (fI 2), some (fI what)]) (st' := [.ref 66]) (h' := h_990) (cl' := 0) (sl' := 0) rfl ?_
                  refine fw_gf rfl rfl g_990_66 rfl ?_
                  refine ik_Wk 2 (pc' := 110) (loc' := [some (.ref 66), some (fI p), some (fI 2), some (fI what)]) (st' := [fI 1, fI what, .ref 84]) (h' := h_990) (cl' := 0) (sl' := 0) rfl ?_
                  refine fw_sub rfl ?_
                  refine fx_lal rfl g_990_84 (by omega) (by omega) (by omega) ?_
                  refine ik_Wk 1 (pc' := 123) (loc' := [some (.ref 66), some (fI p), some (fI 2), some (fI what)]) (st' := [fJ (so'_990.getD (what - 1).toNat 0)]) (h' := h_990) (cl' := 0) (sl' := 0) rfl ?_
                  refine fw_l2 1000000 rfl rfl (by decide) ?_
                  refine fw_lmul rfl ?_
                  refine ik_Wk 1 (pc' := 128) (loc' := [some (.ref 66), some (fI p), some (fI 2), some (fI what)]) (st' := [.ref 66, fJ ((so'_990.getD (what - 1).toNat 0) * 1000000)]) (h' := h_990) (cl' := 0) (sl' := 0) rfl ?_
                  refine fw_gf rfl rfl g_990_66 rfl ?_
                  refine fx_ldo rfl (p_990_3 (by omega)) (fun qd11 => ?_)
                  refine fx_l2i rfl ?_
                  exact ik_Wret rfl rfl ⟨_, _, rfl, rfl, rfl, rfl, ⟨w'_989, gt'_989, gd'_989, xs'_989, ys'_989, r1'_989, r2'_989, fr'_989, sb'_990, wa'_990, so'_990, sw'_990, ro'_990, cl'_990, qd11, rfl, g_990_77, m_989_77, g_990_78, m_989_78, g_990_79, m_989_79, g_990_80, m_989_80, g_990_81, m_989_81, g_990_82, m_989_82, g_990_66, g_990_70, g_990_83, m_989_83, g_990_84, m_990_84, g_990_85, m_990_85, g_990_86, m_990_86, g_990_87, m_990_87, p_990_0, p_990_1, fr_990⟩⟩
          · have k_988 := F_988.1.trans k_987
            have fr_988 := hfr_c fr_987 F_988 (by decide)
            have g_988_66 := (F_988.2 66 (by decide +kernel)).trans g_987_66
            have g_988_67 := (F_988.2 67 (by decide +kernel)).trans g_987_67
            have g_988_68 := (F_988.2 68 (by decide +kernel)).trans g_987_68
            have g_988_69 := (F_988.2 69 (by decide +kernel)).trans g_987_69
            have g_988_77 := (F_988.2 77 (by decide +kernel)).trans g_987_77
            have g_988_78 := (F_988.2 78 (by decide +kernel)).trans g_987_78
            have g_988_79 := (F_988.2 79 (by decide +kernel)).trans g_987_79
            have g_988_80 := (F_988.2 80 (by decide +kernel)).trans g_987_80
            have g_988_70 := (F_988.2 70 (by decide +kernel)).trans g_987_70
            have g_988_81 := (F_988.2 81 (by decide +kernel)).trans g_987_81
            have g_988_82 := (F_988.2 82 (by decide +kernel)).trans g_987_82
            have g_988_83 := (F_988.2 83 (by decide +kernel)).trans g_987_83
            have g_988_84 := (F_988.2 84 (by decide +kernel)).trans g_987_84
            have g_988_85 := (F_988.2 85 (by decide +kernel)).trans g_987_85
            have g_988_86 := (F_988.2 86 (by decide +kernel)).trans g_987_86
            have g_988_87 := (F_988.2 87 (by decide +kernel)).trans g_987_87
            refine ik_Wk 0 (pc' := 56) (loc' := [some (.ref 66), some (fI p), some (fI 2), some (fI what)]) (st' := [fI 0]) (h' := h_988) (cl' := 0) (sl' := 0) rfl ?_
            refine fw_if_ne rfl rfl (by omega) (by omega) (fun hc12 => ?_) (fun hc12 => absurd hc12 (by omega))
            refine fw_ld (-1000000002) rfl rfl (by decide) ?_
            exact ik_Wret rfl rfl ⟨_, _, rfl, rfl, rfl, rfl, ⟨(f 24), gt, gd, xs, ys, r1, r2, fr, (f 32), (f 33), so, sw, ro, cl, (-1000000002), rfl, g_988_77, n77, g_988_78, n78, g_988_79, n79, g_988_80, n80, g_988_81, n81, g_988_82, n82, g_988_66, g_988_70, g_988_83, n83, g_988_84, n84, g_988_85, n85, g_988_86, n86, g_988_87, n87, q7, q8, fr_988⟩⟩
        · have k_987 := F_987.1.trans k_986
          have fr_987 := hfr_c fr_986 F_987 (by decide)
          have g_987_66 := (F_987.2 66 (by decide +kernel)).trans g_986_66
          have g_987_67 := (F_987.2 67 (by decide +kernel)).trans g_986_67
          have g_987_68 := (F_987.2 68 (by decide +kernel)).trans g_986_68
          have g_987_69 := (F_987.2 69 (by decide +kernel)).trans g_986_69
          have g_987_77 := (F_987.2 77 (by decide +kernel)).trans g_986_77
          have g_987_78 := (F_987.2 78 (by decide +kernel)).trans g_986_78
          have g_987_79 := (F_987.2 79 (by decide +kernel)).trans g_986_79
          have g_987_80 := (F_987.2 80 (by decide +kernel)).trans g_986_80
          have g_987_70 := (F_987.2 70 (by decide +kernel)).trans g_986_70
          have g_987_81 := (F_987.2 81 (by decide +kernel)).trans g_986_81
          have g_987_82 := (F_987.2 82 (by decide +kernel)).trans g_986_82
          have g_987_83 := (F_987.2 83 (by decide +kernel)).trans g_986_83
          have g_987_84 := (F_987.2 84 (by decide +kernel)).trans g_986_84
          have g_987_85 := (F_987.2 85 (by decide +kernel)).trans g_986_85
          have g_987_86 := (F_987.2 86 (by decide +kernel)).trans g_986_86
          have g_987_87 := (F_987.2 87 (by decide +kernel)).trans g_986_87
          omega
      · have k_986 := F_986.1.trans k_985
        have fr_986 := hfr_c fr_985 F_986 (by decide)
        have g_986_66 := (F_986.2 66 (by decide +kernel)).trans g_985_66
        have g_986_67 := (F_986.2 67 (by decide +kernel)).trans g_985_67
        have g_986_68 := (F_986.2 68 (by decide +kernel)).trans g_985_68
        have g_986_69 := (F_986.2 69 (by decide +kernel)).trans g_985_69
        have g_986_77 := (F_986.2 77 (by decide +kernel)).trans g_985_77
        have g_986_78 := (F_986.2 78 (by decide +kernel)).trans g_985_78
        have g_986_79 := (F_986.2 79 (by decide +kernel)).trans g_985_79
        have g_986_80 := (F_986.2 80 (by decide +kernel)).trans g_985_80
        have g_986_70 := (F_986.2 70 (by decide +kernel)).trans g_985_70
        have g_986_81 := (F_986.2 81 (by decide +kernel)).trans g_985_81
        have g_986_82 := (F_986.2 82 (by decide +kernel)).trans g_985_82
        have g_986_83 := (F_986.2 83 (by decide +kernel)).trans g_985_83
        have g_986_84 := (F_986.2 84 (by decide +kernel)).trans g_985_84
        have g_986_85 := (F_986.2 85 (by decide +kernel)).trans g_985_85
        have g_986_86 := (F_986.2 86 (by decide +kernel)).trans g_985_86
        have g_986_87 := (F_986.2 87 (by decide +kernel)).trans g_985_87
        refine ik_Wk 0 (pc' := 13) (loc' := [some (.ref 66), some (fI ((p + 2) - 1))]) (st' := [fI 0]) (h' := h_986) (cl' := 0) (sl' := 0) rfl ?_
        refine ik_Wret rfl rfl ⟨_, _, rfl, rfl, ?_⟩
        refine ik_Wk 0 (pc' := 29) (loc' := [some (.ref 66), some (fI p), some (fI 2), some (fI what)]) (st' := [fI 0]) (h' := h_986) (cl' := 0) (sl' := 0) rfl ?_
        refine fw_if_ne rfl rfl (by omega) (by omega) (fun hc13 => ?_) (fun hc13 => absurd hc13 (by omega))
        refine fw_ld (-1000000001) rfl rfl (by decide) ?_
        exact ik_Wret rfl rfl ⟨_, _, rfl, rfl, rfl, rfl, ⟨(f 24), gt, gd, xs, ys, r1, r2, fr, (f 32), (f 33), so, sw, ro, cl, (-1000000001), rfl, g_986_77, n77, g_986_78, n78, g_986_79, n79, g_986_80, n80, g_986_81, n81, g_986_82, n82, g_986_66, g_986_70, g_986_83, n83, g_986_84, n84, g_986_85, n85, g_986_86, n86, g_986_87, n87, q7, q8, fr_986⟩⟩
    · have k_985 := F_985.1.trans k_984
      have fr_985 := hfr_c fr_984 F_985 (by decide)
      have g_985_66 := (F_985.2 66 (by decide +kernel)).trans g_984_66
      have g_985_67 := (F_985.2 67 (by decide +kernel)).trans g_984_67
      have g_985_68 := (F_985.2 68 (by decide +kernel)).trans g_984_68
      have g_985_69 := (F_985.2 69 (by decide +kernel)).trans g_984_69
      have g_985_77 := (F_985.2 77 (by decide +kernel)).trans g_984_77
      have g_985_78 := (F_985.2 78 (by decide +kernel)).trans g_984_78
      have g_985_79 := (F_985.2 79 (by decide +kernel)).trans g_984_79
      have g_985_80 := (F_985.2 80 (by decide +kernel)).trans g_984_80
      have g_985_70 := (F_985.2 70 (by decide +kernel)).trans g_984_70
      have g_985_81 := (F_985.2 81 (by decide +kernel)).trans g_984_81
      have g_985_82 := (F_985.2 82 (by decide +kernel)).trans g_984_82
      have g_985_83 := (F_985.2 83 (by decide +kernel)).trans g_984_83
      have g_985_84 := (F_985.2 84 (by decide +kernel)).trans g_984_84
      have g_985_85 := (F_985.2 85 (by decide +kernel)).trans g_984_85
      have g_985_86 := (F_985.2 86 (by decide +kernel)).trans g_984_86
      have g_985_87 := (F_985.2 87 (by decide +kernel)).trans g_984_87
      omega
  · have k_984 := F_984.1.trans hl
    have fr_984 := hfr_c (hfr_refl [66, 77, 78, 79, 80, 81, 82, 70, 83, 84, 85, 86, 87] h) F_984 (by decide)
    have g_984_66 := (F_984.2 66 (by decide +kernel)).trans h66
    have g_984_67 := (F_984.2 67 (by decide +kernel)).trans h67
    have g_984_68 := (F_984.2 68 (by decide +kernel)).trans h68
    have g_984_69 := (F_984.2 69 (by decide +kernel)).trans h69
    have g_984_77 := (F_984.2 77 (by decide +kernel)).trans h77
    have g_984_78 := (F_984.2 78 (by decide +kernel)).trans h78
    have g_984_79 := (F_984.2 79 (by decide +kernel)).trans h79
    have g_984_80 := (F_984.2 80 (by decide +kernel)).trans h80
    have g_984_70 := (F_984.2 70 (by decide +kernel)).trans h70
    have g_984_81 := (F_984.2 81 (by decide +kernel)).trans h81
    have g_984_82 := (F_984.2 82 (by decide +kernel)).trans h82
    have g_984_83 := (F_984.2 83 (by decide +kernel)).trans h83
    have g_984_84 := (F_984.2 84 (by decide +kernel)).trans h84
    have g_984_85 := (F_984.2 85 (by decide +kernel)).trans h85
    have g_984_86 := (F_984.2 86 (by decide +kernel)).trans h86
    have g_984_87 := (F_984.2 87 (by decide +kernel)).trans h87
    refine ik_Wk 0 (pc' := 13) (loc' := [some (.ref 66), some (fI p)]) (st' := [fI 0]) (h' := h_984) (cl' := 0) (sl' := 0) rfl ?_
    refine ik_Wret rfl rfl ⟨_, _, rfl, rfl, ?_⟩
    refine ik_Wk 0 (pc' := 5) (loc' := [some (.ref 66), some (fI p), some (fI 2), some (fI what)]) (st' := [fI 0]) (h' := h_984) (cl' := 0) (sl' := 0) rfl ?_
    refine fw_if_eq rfl rfl (by omega) (by omega) (fun hc14 => ?_) (fun hc14 => absurd hc14 (by omega))
    refine fw_ld (-1000000001) rfl rfl (by decide) ?_
    exact ik_Wret rfl rfl ⟨_, _, rfl, rfl, rfl, rfl, ⟨(f 24), gt, gd, xs, ys, r1, r2, fr, (f 32), (f 33), so, sw, ro, cl, (-1000000001), rfl, g_984_77, n77, g_984_78, n78, g_984_79, n79, g_984_80, n80, g_984_81, n81, g_984_82, n82, g_984_66, g_984_70, g_984_83, n83, g_984_84, n84, g_984_85, n85, g_984_86, n86, g_984_87, n87, q7, q8, fr_984⟩⟩

theorem rp_mixed3 {h : List ik_E} {pl : Int} {f : Nat → Int} {s : Nat} {cn : List Int} {go : List Int} {ch : List Int} {gt : List Int} {gd : List Int} {xs : List Int} {ys : List Int} {ka : Int} {pa : Int} {fa : Int} {kb : Int} {pb : Int} {fb : Int} {r1 : List Int} {r2 : List Int} {p : Int} {what : Int} {fr : List Int} {so : List Int} {sw : List Int} {ro : List Int} {cl : List Int} (q0 : 0 ≤ pl ∧ pl ≤ 12) (q1 : s < 4096) (q2 : ∀ x : Int, 0 ≤ x → x < pl - 1 → 0 ≤ cn.getD x.toNat 0 ∧ cn.getD x.toNat 0 ≤ 4) (q3 : ∀ x : Int, 0 ≤ x → x < pl - 1 → 1 ≤ cn.getD x.toNat 0 ∧ ∀ j : Int, 4 * x ≤ j → j < 4 * x + cn.getD x.toNat 0 → 0 ≤ ch.getD j.toNat 0 ∧ ch.getD j.toNat 0 ≤ 100) (q4 : ∀ x : Int, 0 ≤ x → x < pl - 1 → mx_ok pl (mx_w cn go ch s x)) (q5 : 1 < pl → 0 ≤ ka ∧ ka ≤ 2) (q6 : 1 < pl → 0 ≤ kb ∧ kb ≤ 2) (q7 : ∀ i : Int, 0 ≤ i → i < 3 → 0 ≤ ro.getD i.toNat 0 ∧ ro.getD i.toNat 0 ≤ 2) (q8 : ∀ i : Int, 0 ≤ i → i < 3 → 0 ≤ cl.getD i.toNat 0 ∧ cl.getD i.toNat 0 ≤ 2) (q9 : -2147483648 ≤ p ∧ p < 2147483648) (q10 : -2147483648 ≤ what ∧ what < 2147483648) (h66 : cE h 66 (.inr (10, [fI pl, .ref 67, .ref 68, .ref 69, fI ((s : Nat) : Int), .ref 70, .ref 71, fI (f 7), fI (f 8), .ref 72, fI (f 10), fI (f 11), fI (f 12), fJ (f 13), fI (f 14), fI (f 15), fI (f 16), fI (f 17), .ref 73, .ref 74, .ref 75, .ref 76, .ref 77, .ref 78, fI (f 24), .ref 79, .ref 80, .ref 81, .ref 82, .ref 83, .ref 84, .ref 85, fJ (f 32), fJ (f 33), .ref 86, .ref 87, fI (f 36), .ref 88, .ref 89, .ref 90, .ref 91, .ref 92, .ref 93]))) (h67 : cE h 67 (.inl (.int, fA cn))) (n67 : cn.length = 12) (h68 : cE h 68 (.inl (.int, fA go))) (n68 : go.length = 48) (h69 : cE h 69 (.inl (.int, fA ch))) (n69 : ch.length = 48) (h77 : cE h 77 (.inl (.int, fA gt))) (n77 : gt.length = 5) (h78 : cE h 78 (.inl (.int, fA gd))) (n78 : gd.length = 5) (h79 : cE h 79 (.inl (.long, fL xs))) (n79 : xs.length = 12) (h80 : cE h 80 (.inl (.long, fL ys))) (n80 : ys.length = 12) (h70 : cE h 70 (.inl (.int, fA [ka, pa, fa, kb, pb, fb]))) (h81 : cE h 81 (.inl (.long, fL r1))) (n81 : r1.length = 201) (h82 : cE h 82 (.inl (.long, fL r2))) (n82 : r2.length = 201) (h83 : cE h 83 (.inl (.long, fL fr))) (n83 : fr.length = 9) (h84 : cE h 84 (.inl (.long, fL so))) (n84 : so.length = 3) (h85 : cE h 85 (.inl (.long, fL sw))) (n85 : sw.length = 3) (h86 : cE h 86 (.inl (.int, fA ro))) (n86 : ro.length = 3) (h87 : cE h 87 (.inl (.int, fA cl))) (n87 : cl.length = 3) (hl : h.length = 94) : ik_F 180 [.ref 66, fI p, fI 3, fI what] h (fun rv h' => ∃ (w' : Int) (gt' : List Int) (gd' : List Int) (xs' : List Int) (ys' : List Int) (r1' : List Int) (r2' : List Int) (fr' : List Int) (sb' : Int) (wa' : Int) (so' : List Int) (sw' : List Int) (ro' : List Int) (cl' : List Int) (v : Int), rv = [fI v] ∧ cE h' 77 (.inl (.int, fA gt')) ∧ gt'.length = 5 ∧ cE h' 78 (.inl (.int, fA gd')) ∧ gd'.length = 5 ∧ cE h' 79 (.inl (.long, fL xs')) ∧ xs'.length = 12 ∧ cE h' 80 (.inl (.long, fL ys')) ∧ ys'.length = 12 ∧ cE h' 81 (.inl (.long, fL r1')) ∧ r1'.length = 201 ∧ cE h' 82 (.inl (.long, fL r2')) ∧ r2'.length = 201 ∧ cE h' 66 (.inr (10, [fI pl, .ref 67, .ref 68, .ref 69, fI ((s : Nat) : Int), .ref 70, .ref 71, fI (f 7), fI (f 8), .ref 72, fI (f 10), fI (f 11), fI (f 12), fJ (f 13), fI (f 14), fI (f 15), fI (f 16), fI (f 17), .ref 73, .ref 74, .ref 75, .ref 76, .ref 77, .ref 78, fI w', .ref 79, .ref 80, .ref 81, .ref 82, .ref 83, .ref 84, .ref 85, fJ sb', fJ wa', .ref 86, .ref 87, fI (f 36), .ref 88, .ref 89, .ref 90, .ref 91, .ref 92, .ref 93])) ∧ cE h' 70 (.inl (.int, fA [ka, pa, fa, kb, pb, fb])) ∧ cE h' 83 (.inl (.long, fL fr')) ∧ fr'.length = 9 ∧ cE h' 84 (.inl (.long, fL so')) ∧ so'.length = 3 ∧ cE h' 85 (.inl (.long, fL sw')) ∧ sw'.length = 3 ∧ cE h' 86 (.inl (.int, fA ro')) ∧ ro'.length = 3 ∧ cE h' 87 (.inl (.int, fA cl')) ∧ cl'.length = 3 ∧ (∀ i : Int, 0 ≤ i → i < 3 → 0 ≤ ro'.getD i.toNat 0 ∧ ro'.getD i.toNat 0 ≤ 2) ∧ (∀ i : Int, 0 ≤ i → i < 3 → 0 ≤ cl'.getD i.toNat 0 ∧ cl'.getD i.toNat 0 ≤ 2) ∧ hfr [66, 77, 78, 79, 80, 81, 82, 70, 83, 84, 85, 86, 87] h h') := by
  refine ik_Wk 2 (pc' := 2) (loc' := [some (.ref 66), some (fI p), some (fI 3), some (fI what)]) (st' := [fI p, .ref 66]) (h' := h) (cl' := 0) (sl' := 0) rfl ?_
  refine ik_Wc 131 2 0 [.ref 66, fI p] [] rfl rfl rfl (by decide) rfl rfl (fw_rec hl rfl h66 rfl (by decide)) ?_
  refine ik_Wk 0 (pc' := 0) (loc' := [some (.ref 66), some (fI p)]) (st' := []) (h' := h) (cl' := 0) (sl' := 0) rfl ?_
  refine ik_Wk 1 (pc' := 1) (loc' := [some (.ref 66), some (fI p)]) (st' := [fI p]) (h' := h) (cl' := 0) (sl' := 0) rfl ?_
  refine fw_i2l rfl (by omega) (by omega) ?_
  refine fw_lc (z := 0) rfl (by decide) ?_
  refine ik_Wk 1 (pc' := 4) (loc' := [some (.ref 66), some (fI p)]) (st' := [.ref 66, fJ 0, fJ p]) (h' := h) (cl' := 0) (sl' := 0) rfl ?_
  refine fw_gf rfl rfl h66 rfl ?_
  refine ik_Wk 1 (pc' := 8) (loc' := [some (.ref 66), some (fI p)]) (st' := [fI 2, fI pl, fJ 0, fJ p]) (h' := h) (cl' := 0) (sl' := 0) rfl ?_
  refine fw_sub rfl ?_
  refine fw_i2l rfl (by omega) (by omega) ?_
  refine fw_call 127 3 3 [fJ p, fJ 0, fJ (pl - 2)] [] rfl rfl rfl (by decide) rfl rfl (fw_sta hl rfl (by decide)) (cr_in (v := p) (a := 0) (b := pl - 2) (by omega) (by omega) (by omega)  hl) ?_
  rintro _ h_991 (⟨rfl, p_991_0, F_991⟩ | ⟨rfl, p_991_0, F_991⟩)
  · have k_991 := F_991.1.trans hl
    have fr_991 := hfr_c (hfr_refl [66, 77, 78, 79, 80, 81, 82, 70, 83, 84, 85, 86, 87] h) F_991 (by decide)
    have g_991_66 := (F_991.2 66 (by decide +kernel)).trans h66
    have g_991_67 := (F_991.2 67 (by decide +kernel)).trans h67
    have g_991_68 := (F_991.2 68 (by decide +kernel)).trans h68
    have g_991_69 := (F_991.2 69 (by decide +kernel)).trans h69
    have g_991_77 := (F_991.2 77 (by decide +kernel)).trans h77
    have g_991_78 := (F_991.2 78 (by decide +kernel)).trans h78
    have g_991_79 := (F_991.2 79 (by decide +kernel)).trans h79
    have g_991_80 := (F_991.2 80 (by decide +kernel)).trans h80
    have g_991_70 := (F_991.2 70 (by decide +kernel)).trans h70
    have g_991_81 := (F_991.2 81 (by decide +kernel)).trans h81
    have g_991_82 := (F_991.2 82 (by decide +kernel)).trans h82
    have g_991_83 := (F_991.2 83 (by decide +kernel)).trans h83
    have g_991_84 := (F_991.2 84 (by decide +kernel)).trans h84
    have g_991_85 := (F_991.2 85 (by decide +kernel)).trans h85
    have g_991_86 := (F_991.2 86 (by decide +kernel)).trans h86
    have g_991_87 := (F_991.2 87 (by decide +kernel)).trans h87
    refine ik_Wk 0 (pc' := 13) (loc' := [some (.ref 66), some (fI p)]) (st' := [fI 1]) (h' := h_991) (cl' := 0) (sl' := 0) rfl ?_
    refine ik_Wret rfl rfl ⟨_, _, rfl, rfl, ?_⟩
    refine ik_Wk 0 (pc' := 5) (loc' := [some (.ref 66), some (fI p), some (fI 3), some (fI what)]) (st' := [fI 1]) (h' := h_991) (cl' := 0) (sl' := 0) rfl ?_
    refine fw_if_eq rfl rfl (by omega) (by omega) (fun hc1 => absurd hc1 (by omega)) (fun hc1 => ?_)
    refine ik_Wk 1 (pc' := 9) (loc' := [some (.ref 66), some (fI p), some (fI 3), some (fI what)]) (st' := [fI 3]) (h' := h_991) (cl' := 0) (sl' := 0) rfl ?_
    refine fw_i2l rfl (by omega) (by omega) ?_
    refine fw_lc (z := 1) rfl (by decide) ?_
    refine fw_l2 3 rfl rfl (by decide) ?_
    refine fw_call 127 3 3 [fJ 3, fJ 1, fJ 3] [] rfl rfl rfl (by decide) rfl rfl (fw_sta k_991 rfl (by decide)) (cr_in (v := 3) (a := 1) (b := 3) (by omega) (by omega) (by omega)  k_991) ?_
    rintro _ h_992 (⟨rfl, p_992_0, F_992⟩ | ⟨rfl, p_992_0, F_992⟩)
    · have k_992 := F_992.1.trans k_991
      have fr_992 := hfr_c fr_991 F_992 (by decide)
      have g_992_66 := (F_992.2 66 (by decide +kernel)).trans g_991_66
      have g_992_67 := (F_992.2 67 (by decide +kernel)).trans g_991_67
      have g_992_68 := (F_992.2 68 (by decide +kernel)).trans g_991_68
      have g_992_69 := (F_992.2 69 (by decide +kernel)).trans g_991_69
      have g_992_77 := (F_992.2 77 (by decide +kernel)).trans g_991_77
      have g_992_78 := (F_992.2 78 (by decide +kernel)).trans g_991_78
      have g_992_79 := (F_992.2 79 (by decide +kernel)).trans g_991_79
      have g_992_80 := (F_992.2 80 (by decide +kernel)).trans g_991_80
      have g_992_70 := (F_992.2 70 (by decide +kernel)).trans g_991_70
      have g_992_81 := (F_992.2 81 (by decide +kernel)).trans g_991_81
      have g_992_82 := (F_992.2 82 (by decide +kernel)).trans g_991_82
      have g_992_83 := (F_992.2 83 (by decide +kernel)).trans g_991_83
      have g_992_84 := (F_992.2 84 (by decide +kernel)).trans g_991_84
      have g_992_85 := (F_992.2 85 (by decide +kernel)).trans g_991_85
      have g_992_86 := (F_992.2 86 (by decide +kernel)).trans g_991_86
      have g_992_87 := (F_992.2 87 (by decide +kernel)).trans g_991_87
      refine ik_Wk 0 (pc' := 17) (loc' := [some (.ref 66), some (fI p), some (fI 3), some (fI what)]) (st' := [fI 1]) (h' := h_992) (cl' := 0) (sl' := 0) rfl ?_
      refine fw_if_eq rfl rfl (by omega) (by omega) (fun hc2 => absurd hc2 (by omega)) (fun hc2 => ?_)
      refine ik_Wk 3 (pc' := 23) (loc' := [some (.ref 66), some (fI p), some (fI 3), some (fI what)]) (st' := [fI 3, fI p, .ref 66]) (h' := h_992) (cl' := 0) (sl' := 0) rfl ?_
      refine fw_add rfl ?_
      refine ik_Wk 1 (pc' := 25) (loc' := [some (.ref 66), some (fI p), some (fI 3), some (fI what)]) (st' := [fI 1, fI (p + 3), .ref 66]) (h' := h_992) (cl' := 0) (sl' := 0) rfl ?_
      refine fw_sub rfl ?_
      refine ik_Wc 131 2 0 [.ref 66, fI ((p + 3) - 1)] [] rfl rfl rfl (by decide) rfl rfl (fw_rec k_992 rfl g_992_66 rfl (by decide)) ?_
      refine ik_Wk 0 (pc' := 0) (loc' := [some (.ref 66), some (fI ((p + 3) - 1))]) (st' := []) (h' := h_992) (cl' := 0) (sl' := 0) rfl ?_
      refine ik_Wk 1 (pc' := 1) (loc' := [some (.ref 66), some (fI ((p + 3) - 1))]) (st' := [fI ((p + 3) - 1)]) (h' := h_992) (cl' := 0) (sl' := 0) rfl ?_
      refine fw_i2l rfl (by omega) (by omega) ?_
      refine fw_lc (z := 0) rfl (by decide) ?_
      refine ik_Wk 1 (pc' := 4) (loc' := [some (.ref 66), some (fI ((p + 3) - 1))]) (st' := [.ref 66, fJ 0, fJ ((p + 3) - 1)]) (h' := h_992) (cl' := 0) (sl' := 0) rfl ?_
      refine fw_gf rfl rfl g_992_66 rfl ?_
      refine ik_Wk 1 (pc' := 8) (loc' := [some (.ref 66), some (fI ((p + 3) - 1))]) (st' := [fI 2, fI pl, fJ 0, fJ ((p + 3) - 1)]) (h' := h_992) (cl' := 0) (sl' := 0) rfl ?_
      refine fw_sub rfl ?_
      refine fw_i2l rfl (by omega) (by omega) ?_
      refine fw_call 127 3 3 [fJ ((p + 3) - 1), fJ 0, fJ (pl - 2)] [] rfl rfl rfl (by decide) rfl rfl (fw_sta k_992 rfl (by decide)) (cr_in (v := (p + 3) - 1) (a := 0) (b := pl - 2) (by omega) (by omega) (by omega)  k_992) ?_
      rintro _ h_993 (⟨rfl, p_993_0, F_993⟩ | ⟨rfl, p_993_0, F_993⟩)
      · have k_993 := F_993.1.trans k_992
        have fr_993 := hfr_c fr_992 F_993 (by decide)
        have g_993_66 := (F_993.2 66 (by decide +kernel)).trans g_992_66
        have g_993_67 := (F_993.2 67 (by decide +kernel)).trans g_992_67
        have g_993_68 := (F_993.2 68 (by decide +kernel)).trans g_992_68
        have g_993_69 := (F_993.2 69 (by decide +kernel)).trans g_992_69
        have g_993_77 := (F_993.2 77 (by decide +kernel)).trans g_992_77
        have g_993_78 := (F_993.2 78 (by decide +kernel)).trans g_992_78
        have g_993_79 := (F_993.2 79 (by decide +kernel)).trans g_992_79
        have g_993_80 := (F_993.2 80 (by decide +kernel)).trans g_992_80
        have g_993_70 := (F_993.2 70 (by decide +kernel)).trans g_992_70
        have g_993_81 := (F_993.2 81 (by decide +kernel)).trans g_992_81
        have g_993_82 := (F_993.2 82 (by decide +kernel)).trans g_992_82
        have g_993_83 := (F_993.2 83 (by decide +kernel)).trans g_992_83
        have g_993_84 := (F_993.2 84 (by decide +kernel)).trans g_992_84
        have g_993_85 := (F_993.2 85 (by decide +kernel)).trans g_992_85
        have g_993_86 := (F_993.2 86 (by decide +kernel)).trans g_992_86
        have g_993_87 := (F_993.2 87 (by decide +kernel)).trans g_992_87
        refine ik_Wk 0 (pc' := 13) (loc' := [some (.ref 66), some (fI ((p + 3) - 1))]) (st' := [fI 1]) (h' := h_993) (cl' := 0) (sl' := 0) rfl ?_
        refine ik_Wret rfl rfl ⟨_, _, rfl, rfl, ?_⟩
        refine ik_Wk 0 (pc' := 29) (loc' := [some (.ref 66), some (fI p), some (fI 3), some (fI what)]) (st' := [fI 1]) (h' := h_993) (cl' := 0) (sl' := 0) rfl ?_
        refine fw_if_ne rfl rfl (by omega) (by omega) (fun hc3 => absurd hc3 (by omega)) (fun hc3 => ?_)
        refine ik_Wk 1 (pc' := 36) (loc' := [some (.ref 66), some (fI p), some (fI 3), some (fI what)]) (st' := [fI 3]) (h' := h_993) (cl' := 0) (sl' := 0) rfl ?_
        refine fw_i2l rfl (by omega) (by omega) ?_
        refine fw_lc (z := 1) rfl (by decide) ?_
        refine fw_l2 3 rfl rfl (by decide) ?_
        refine fw_call 127 3 3 [fJ 3, fJ 1, fJ 3] [] rfl rfl rfl (by decide) rfl rfl (fw_sta k_993 rfl (by decide)) (cr_in (v := 3) (a := 1) (b := 3) (by omega) (by omega) (by omega)  k_993) ?_
        rintro _ h_994 (⟨rfl, p_994_0, F_994⟩ | ⟨rfl, p_994_0, F_994⟩)
        · have k_994 := F_994.1.trans k_993
          have fr_994 := hfr_c fr_993 F_994 (by decide)
          have g_994_66 := (F_994.2 66 (by decide +kernel)).trans g_993_66
          have g_994_67 := (F_994.2 67 (by decide +kernel)).trans g_993_67
          have g_994_68 := (F_994.2 68 (by decide +kernel)).trans g_993_68
          have g_994_69 := (F_994.2 69 (by decide +kernel)).trans g_993_69
          have g_994_77 := (F_994.2 77 (by decide +kernel)).trans g_993_77
          have g_994_78 := (F_994.2 78 (by decide +kernel)).trans g_993_78
          have g_994_79 := (F_994.2 79 (by decide +kernel)).trans g_993_79
          have g_994_80 := (F_994.2 80 (by decide +kernel)).trans g_993_80
          have g_994_70 := (F_994.2 70 (by decide +kernel)).trans g_993_70
          have g_994_81 := (F_994.2 81 (by decide +kernel)).trans g_993_81
          have g_994_82 := (F_994.2 82 (by decide +kernel)).trans g_993_82
          have g_994_83 := (F_994.2 83 (by decide +kernel)).trans g_993_83
          have g_994_84 := (F_994.2 84 (by decide +kernel)).trans g_993_84
          have g_994_85 := (F_994.2 85 (by decide +kernel)).trans g_993_85
          have g_994_86 := (F_994.2 86 (by decide +kernel)).trans g_993_86
          have g_994_87 := (F_994.2 87 (by decide +kernel)).trans g_993_87
          refine ik_Wk 0 (pc' := 44) (loc' := [some (.ref 66), some (fI p), some (fI 3), some (fI what)]) (st' := [fI 1]) (h' := h_994) (cl' := 0) (sl' := 0) rfl ?_
          refine fw_if_eq rfl rfl (by omega) (by omega) (fun hc4 => absurd hc4 (by omega)) (fun hc4 => ?_)
          refine ik_Wk 1 (pc' := 48) (loc' := [some (.ref 66), some (fI p), some (fI 3), some (fI what)]) (st' := [fI what]) (h' := h_994) (cl' := 0) (sl' := 0) rfl ?_
          refine fw_i2l rfl (by omega) (by omega) ?_
          refine fw_lc (z := 0) rfl (by decide) ?_
          refine fw_l2 6 rfl rfl (by decide) ?_
          refine fw_call 127 3 3 [fJ what, fJ 0, fJ 6] [] rfl rfl rfl (by decide) rfl rfl (fw_sta k_994 rfl (by decide)) (cr_in (v := what) (a := 0) (b := 6) (by omega) (by omega) (by omega)  k_994) ?_
          rintro _ h_995 (⟨rfl, p_995_0, F_995⟩ | ⟨rfl, p_995_0, F_995⟩)
          · have k_995 := F_995.1.trans k_994
            have fr_995 := hfr_c fr_994 F_995 (by decide)
            have g_995_66 := (F_995.2 66 (by decide +kernel)).trans g_994_66
            have g_995_67 := (F_995.2 67 (by decide +kernel)).trans g_994_67
            have g_995_68 := (F_995.2 68 (by decide +kernel)).trans g_994_68
            have g_995_69 := (F_995.2 69 (by decide +kernel)).trans g_994_69
            have g_995_77 := (F_995.2 77 (by decide +kernel)).trans g_994_77
            have g_995_78 := (F_995.2 78 (by decide +kernel)).trans g_994_78
            have g_995_79 := (F_995.2 79 (by decide +kernel)).trans g_994_79
            have g_995_80 := (F_995.2 80 (by decide +kernel)).trans g_994_80
            have g_995_70 := (F_995.2 70 (by decide +kernel)).trans g_994_70
            have g_995_81 := (F_995.2 81 (by decide +kernel)).trans g_994_81
            have g_995_82 := (F_995.2 82 (by decide +kernel)).trans g_994_82
            have g_995_83 := (F_995.2 83 (by decide +kernel)).trans g_994_83
            have g_995_84 := (F_995.2 84 (by decide +kernel)).trans g_994_84
            have g_995_85 := (F_995.2 85 (by decide +kernel)).trans g_994_85
            have g_995_86 := (F_995.2 86 (by decide +kernel)).trans g_994_86
            have g_995_87 := (F_995.2 87 (by decide +kernel)).trans g_994_87
            refine ik_Wk 0 (pc' := 56) (loc' := [some (.ref 66), some (fI p), some (fI 3), some (fI what)]) (st' := [fI 1]) (h' := h_995) (cl' := 0) (sl' := 0) rfl ?_
            refine fw_if_ne rfl rfl (by omega) (by omega) (fun hc5 => absurd hc5 (by omega)) (fun hc5 => ?_)
            refine ik_Wk 3 (pc' := 65) (loc' := [some (.ref 66), some (fI p), some (fI 3), some (fI what)]) (st' := [fI 3, fI p, .ref 66]) (h' := h_995) (cl' := 0) (sl' := 0) rfl ?_
            refine fw_call 178 3 0 [.ref 66, fI p, fI 3] [] rfl rfl rfl (by decide) rfl rfl (fw_rec k_995 rfl g_995_66 rfl (by decide)) (cr_fears3 (pl := pl) (f := fun j => ([0, 0, 0, 0, 0, 0, 0, f 7, f 8, 0, f 10, f 11, f 12, f 13, f 14, f 15, f 16, f 17, 0, 0, 0, 0, 0, 0, f 24, 0, 0, 0, 0, 0, 0, 0, f 32, f 33, 0, 0, f 36, 0, 0, 0, 0, 0, 0] : List Int).getD j 0) (s := s) (cn := cn) (go := go) (ch := ch) (gt := gt) (gd := gd) (xs := xs) (ys := ys) (ka := ka) (pa := pa) (fa := fa) (kb := kb) (pb := pb) (fb := fb) (r1 := r1) (r2 := r2) (p := p) (fr := fr) (by omega) (by omega) q2 q3 q4 (q5 (by omega)) (q6 (by omega)) (by omega) g_995_66 g_995_67 n67 g_995_68 n68 g_995_69 n69 g_995_77 n77 g_995_78 n78 g_995_79 n79 g_995_80 n80 g_995_70 g_995_81 n81 g_995_82 n82 g_995_83 n83 k_995) ?_
            rintro _ h_996 ⟨w'_996, gt'_996, gd'_996, xs'_996, ys'_996, r1'_996, r2'_996, fr'_996, rfl, e_996_66, e_996_77, m_996_77, e_996_78, m_996_78, e_996_79, m_996_79, e_996_80, m_996_80, e_996_81, m_996_81, e_996_82, m_996_82, e_996_70, e_996_83, m_996_83, F_996⟩
            have k_996 := F_996.1.trans k_995
            have fr_996 := hfr_c fr_995 F_996 (by decide)
            have g_996_67 := (F_996.2 67 (by decide +kernel)).trans g_995_67
            have g_996_68 := (F_996.2 68 (by decide +kernel)).trans g_995_68
            have g_996_69 := (F_996.2 69 (by decide +kernel)).trans g_995_69
            have g_996_84 := (F_996.2 84 (by decide +kernel)).trans g_995_84
            have g_996_85 := (F_996.2 85 (by decide +kernel)).trans g_995_85
            have g_996_86 := (F_996.2 86 (by decide +kernel)).trans g_995_86
            have g_996_87 := (F_996.2 87 (by decide +kernel)).trans g_995_87
            have g_996_66 : cE h_996 66 (.inr (10, [fI pl, .ref 67, .ref 68, .ref 69, fI ((s : Nat) : Int), .ref 70, .ref 71, fI (f 7), fI (f 8), .ref 72, fI (f 10), fI (f 11), fI (f 12), fJ (f 13), fI (f 14), fI (f 15), fI (f 16), fI (f 17), .ref 73, .ref 74, .ref 75, .ref 76, .ref 77, .ref 78, fI w'_996, .ref 79, .ref 80, .ref 81, .ref 82, .ref 83, .ref 84, .ref 85, fJ (f 32), fJ (f 33), .ref 86, .ref 87, fI (f 36), .ref 88, .ref 89, .ref 90, .ref 91, .ref 92, .ref 93])) := e_996_66
            have g_996_77 : cE h_996 77 (.inl (.int, fA gt'_996)) := e_996_77
            have g_996_78 : cE h_996 78 (.inl (.int, fA gd'_996)) := e_996_78
            have g_996_79 : cE h_996 79 (.inl (.long, fL xs'_996)) := e_996_79
            have g_996_80 : cE h_996 80 (.inl (.long, fL ys'_996)) := e_996_80
            have g_996_81 : cE h_996 81 (.inl (.long, fL r1'_996)) := e_996_81
            have g_996_82 : cE h_996 82 (.inl (.long, fL r2'_996)) := e_996_82
            have g_996_70 : cE h_996 70 (.inl (.int, fA [ka, pa, fa, kb, pb, fb])) := e_996_70
            have g_996_83 : cE h_996 83 (.inl (.long, fL fr'_996)) := e_996_83
            refine ik_Wk 0 (pc' := 68) (loc' := [some (.ref 66), some (fI p), some (fI 3), some (fI what)]) (st' := []) (h' := h_996) (cl' := 0) (sl' := 0) rfl ?_
            refine ik_Wk 2 (pc' := 70) (loc' := [some (.ref 66), some (fI p), some (fI 3), some (fI what)]) (st' := [fI 3, .ref 66]) (h' := h_996) (cl' := 0) (sl' := 0) rfl ?_
            refine fw_call 179 2 0 [.ref 66, fI 3] [] rfl rfl rfl (by decide) rfl rfl (fw_rec k_996 rfl g_996_66 rfl (by decide)) (cr_findMixed (f := fun j => ([pl, 0, 0, 0, ((s : Nat) : Int), 0, 0, (f 7), (f 8), 0, (f 10), (f 11), (f 12), (f 13), (f 14), (f 15), (f 16), (f 17), 0, 0, 0, 0, 0, 0, w'_996, 0, 0, 0, 0, 0, 0, 0, (f 32), (f 33), 0, 0, (f 36), 0, 0, 0, 0, 0, 0] : List Int).getD j 0) (n := 3) (fr := fr'_996) (so := so) (sw := sw) (ro := ro) (cl := cl) (by omega) q7 q8 g_996_66 g_996_83 m_996_83 g_996_84 n84 g_996_85 n85 g_996_86 n86 g_996_87 n87 k_996) ?_
            rintro _ h_997 ⟨sb'_997, wa'_997, so'_997, sw'_997, ro'_997, cl'_997, b_997, rfl, e_997_66, e_997_84, m_997_84, e_997_85, m_997_85, e_997_86, m_997_86, e_997_87, m_997_87, p_997_0, p_997_1, p_997_2, p_997_3, F_997⟩
            have k_997 := F_997.1.trans k_996
            have fr_997 := hfr_c fr_996 F_997 (by decide)
            have g_997_67 := (F_997.2 67 (by decide +kernel)).trans g_996_67
            have g_997_68 := (F_997.2 68 (by decide +kernel)).trans g_996_68
            have g_997_69 := (F_997.2 69 (by decide +kernel)).trans g_996_69
            have g_997_77 := (F_997.2 77 (by decide +kernel)).trans g_996_77
            have g_997_78 := (F_997.2 78 (by decide +kernel)).trans g_996_78
            have g_997_79 := (F_997.2 79 (by decide +kernel)).trans g_996_79
            have g_997_80 := (F_997.2 80 (by decide +kernel)).trans g_996_80
            have g_997_70 := (F_997.2 70 (by decide +kernel)).trans g_996_70
            have g_997_81 := (F_997.2 81 (by decide +kernel)).trans g_996_81
            have g_997_82 := (F_997.2 82 (by decide +kernel)).trans g_996_82
            have g_997_83 := (F_997.2 83 (by decide +kernel)).trans g_996_83
            have g_997_66 : cE h_997 66 (.inr (10, [fI pl, .ref 67, .ref 68, .ref 69, fI ((s : Nat) : Int), .ref 70, .ref 71, fI (f 7), fI (f 8), .ref 72, fI (f 10), fI (f 11), fI (f 12), fJ (f 13), fI (f 14), fI (f 15), fI (f 16), fI (f 17), .ref 73, .ref 74, .ref 75, .ref 76, .ref 77, .ref 78, fI w'_996, .ref 79, .ref 80, .ref 81, .ref 82, .ref 83, .ref 84, .ref 85, fJ sb'_997, fJ wa'_997, .ref 86, .ref 87, fI (f 36), .ref 88, .ref 89, .ref 90, .ref 91, .ref 92, .ref 93])) := e_997_66
            have g_997_84 : cE h_997 84 (.inl (.long, fL so'_997)) := e_997_84
            have g_997_85 : cE h_997 85 (.inl (.long, fL sw'_997)) := e_997_85
            have g_997_86 : cE h_997 86 (.inl (.int, fA ro'_997)) := e_997_86
            have g_997_87 : cE h_997 87 (.inl (.int, fA cl'_997)) := e_997_87
            refine ik_Wk 0 (pc' := 73) (loc' := [some (.ref 66), some (fI p), some (fI 3), some (fI what)]) (st' := [fI b_997]) (h' := h_997) (cl' := 0) (sl' := 0) rfl ?_
            refine fw_if_ne rfl rfl (by omega) (by omega) (fun hc6 => ?_) (fun hc6 => ?_)
            · refine fw_ld (-1000000003) rfl rfl (by decide) ?_
              exact ik_Wret rfl rfl ⟨_, _, rfl, rfl, rfl, rfl, ⟨w'_996, gt'_996, gd'_996, xs'_996, ys'_996, r1'_996, r2'_996, fr'_996, sb'_997, wa'_997, so'_997, sw'_997, ro'_997, cl'_997, (-1000000003), rfl, g_997_77, m_996_77, g_997_78, m_996_78, g_997_79, m_996_79, g_997_80, m_996_80, g_997_81, m_996_81, g_997_82, m_996_82, g_997_66, g_997_70, g_997_83, m_996_83, g_997_84, m_997_84, g_997_85, m_997_85, g_997_86, m_997_86, g_997_87, m_997_87, p_997_0, p_997_1, fr_997⟩⟩
            · refine ik_Wk 1 (pc' := 80) (loc' := [some (.ref 66), some (fI p), some (fI 3), some (fI what)]) (st' := [fI what]) (h' := h_997) (cl' := 0) (sl' := 0) rfl ?_
              refine fw_if_ne rfl rfl (by omega) (by omega) (fun hc7 => ?_) (fun hc7 => ?_)
              · refine ik_Wk 1 (pc' := 84) (loc' := [some (.ref 66), some (fI p), some (fI 3), some (fI what)]) (st' := [.ref 66]) (h' := h_997) (cl' := 0) (sl' := 0) rfl ?_
                refine fw_gf rfl rfl g_997_66 rfl ?_
                refine fw_l2 1000 rfl rfl (by decide) ?_
                refine fw_lmul rfl ?_
                refine ik_Wk 1 (pc' := 92) (loc' := [some (.ref 66), some (fI p), some (fI 3), some (fI what)]) (st' := [.ref 66, fJ (wa'_997 * 1000)]) (h' := h_997) (cl' := 0) (sl' := 0) rfl ?_
                refine fw_gf rfl rfl g_997_66 rfl ?_
                refine fx_ldo rfl (p_997_3 (by omega)) (fun qd8 => ?_)
                refine ik_Wk 1 (pc' := 132) (loc' := [some (.ref 66), some (fI p), some (fI 3), some (fI what)]) (st' := [fJ qd8]) (h' := h_997) (cl' := 0) (sl' := 0) rfl ?_
                refine fx_l2i rfl ?_
                exact ik_Wret rfl rfl ⟨_, _, rfl, rfl, rfl, rfl, ⟨w'_996, gt'_996, gd'_996, xs'_996, ys'_996, r1'_996, r2'_996, fr'_996, sb'_997, wa'_997, so'_997, sw'_997, ro'_997, cl'_997, qd8, rfl, g_997_77, m_996_77, g_997_78, m_996_78, g_997_79, m_996_79, g_997_80, m_996_80, g_997_81, m_996_81, g_997_82, m_996_82, g_997_66, g_997_70, g_997_83, m_996_83, g_997_84, m_997_84, g_997_85, m_997_85, g_997_86, m_997_86, g_997_87, m_997_87, p_997_0, p_997_1, fr_997⟩⟩
              · refine ik_Wk 2 (pc' := 101) (loc' := [some (.ref 66), some (fI p), some (fI 3), some (fI what)]) (st' := [fI 4, fI what]) (h' := h_997) (cl' := 0) (sl' := 0) rfl ?_
                refine fw_ic_ge rfl rfl (by omega) (by omega) (by omega) (by omega) (fun hc9 => ?_) (fun hc9 => ?_)
                · refine ik_Wk 1 (pc' := 116) (loc' := [some (.ref 66), some (fI p), some (fI 3), some (fI what)]) (st' := [.ref 66]) (h' := h_997) (cl' := 0) (sl' := 0) rfl ?_
                  refine fw_gf rfl rfl g_997_66 rfl ?_
                  refine ik_Wk 2 (pc' := 121) (loc' := [some (.ref 66), some (fI p), some (fI 3), some (fI what)]) (st' := [fI 4, fI what, .ref 85]) (h' := h_997) (cl' := 0) (sl' := 0) rfl ?_
                  refine fw_sub rfl ?_
                  refine fx_lal rfl g_997_85 (by omega) (by omega) (by omega) ?_
                  refine fw_l2 1000000 rfl rfl (by decide) ?_
                  refine fw_lmul rfl ?_
                  refine ik_Wk 1 (pc' := 128) (loc' := [some (.ref 66), some (fI p), some (fI 3), some (fI what)]) (st' := [.ref 66, fJ ((sw'_997.getD (what - 4).toNat 0) * 1000000)]) (h' := h_997) (cl' := 0) (sl' := 0) rfl ?_
                  refine fw_gf rfl rfl g_997_66 rfl ?_
                  refine fx_ldo rfl (p_997_3 (by omega)) (fun qd10 => ?_)
                  refine fx_l2i rfl ?_
                  exact ik_Wret rfl rfl ⟨_, _, rfl, rfl, rfl, rfl, ⟨w'_996, gt'_996, gd'_996, xs'_996, ys'_996, r1'_996, r2'_996, fr'_996, sb'_997, wa'_997, so'_997, sw'_997, ro'_997, cl'_997, qd10, rfl, g_997_77, m_996_77, g_997_78, m_996_78, g_997_79, m_996_79, g_997_80, m_996_80, g_997_81, m_996_81, g_997_82, m_996_82, g_997_66, g_997_70, g_997_83, m_996_83, g_997_84, m_997_84, g_997_85, m_997_85, g_997_86, m_997_86, g_997_87, m_997_87, p_997_0, p_997_1, fr_997⟩⟩
                · refine ik_Wk 1 (pc' := 105) (loc' := [some (.ref 66), some (fI p), some (fI 3), some (fI what)]) (st' := [.ref 66]) (h' := h_997) (cl' := 0) (sl' := 0) rfl ?_
                  refine fw_gf rfl rfl g_997_66 rfl ?_
                  refine ik_Wk 2 (pc' := 110) (loc' := [some (.ref 66), some (fI p), some (fI 3), some (fI what)]) (st' := [fI 1, fI what, .ref 84]) (h' := h_997) (cl' := 0) (sl' := 0) rfl ?_
                  refine fw_sub rfl ?_
                  refine fx_lal rfl g_997_84 (by omega) (by omega) (by omega) ?_
                  refine ik_Wk 1 (pc' := 123) (loc' := [some (.ref 66), some (fI p), some (fI 3), some (fI what)]) (st' := [fJ (so'_997.getD (what - 1).toNat 0)]) (h' := h_997) (cl' := 0) (sl' := 0) rfl ?_
                  refine fw_l2 1000000 rfl rfl (by decide) ?_
                  refine fw_lmul rfl ?_
                  refine ik_Wk 1 (pc' := 128) (loc' := [some (.ref 66), some (fI p), some (fI 3), some (fI what)]) (st' := [.ref 66, fJ ((so'_997.getD (what - 1).toNat 0) * 1000000)]) (h' := h_997) (cl' := 0) (sl' := 0) rfl ?_
                  refine fw_gf rfl rfl g_997_66 rfl ?_
                  refine fx_ldo rfl (p_997_3 (by omega)) (fun qd11 => ?_)
                  refine fx_l2i rfl ?_
                  exact ik_Wret rfl rfl ⟨_, _, rfl, rfl, rfl, rfl, ⟨w'_996, gt'_996, gd'_996, xs'_996, ys'_996, r1'_996, r2'_996, fr'_996, sb'_997, wa'_997, so'_997, sw'_997, ro'_997, cl'_997, qd11, rfl, g_997_77, m_996_77, g_997_78, m_996_78, g_997_79, m_996_79, g_997_80, m_996_80, g_997_81, m_996_81, g_997_82, m_996_82, g_997_66, g_997_70, g_997_83, m_996_83, g_997_84, m_997_84, g_997_85, m_997_85, g_997_86, m_997_86, g_997_87, m_997_87, p_997_0, p_997_1, fr_997⟩⟩
          · have k_995 := F_995.1.trans k_994
            have fr_995 := hfr_c fr_994 F_995 (by decide)
            have g_995_66 := (F_995.2 66 (by decide +kernel)).trans g_994_66
            have g_995_67 := (F_995.2 67 (by decide +kernel)).trans g_994_67
            have g_995_68 := (F_995.2 68 (by decide +kernel)).trans g_994_68
            have g_995_69 := (F_995.2 69 (by decide +kernel)).trans g_994_69
            have g_995_77 := (F_995.2 77 (by decide +kernel)).trans g_994_77
            have g_995_78 := (F_995.2 78 (by decide +kernel)).trans g_994_78
            have g_995_79 := (F_995.2 79 (by decide +kernel)).trans g_994_79
            have g_995_80 := (F_995.2 80 (by decide +kernel)).trans g_994_80
            have g_995_70 := (F_995.2 70 (by decide +kernel)).trans g_994_70
            have g_995_81 := (F_995.2 81 (by decide +kernel)).trans g_994_81
            have g_995_82 := (F_995.2 82 (by decide +kernel)).trans g_994_82
            have g_995_83 := (F_995.2 83 (by decide +kernel)).trans g_994_83
            have g_995_84 := (F_995.2 84 (by decide +kernel)).trans g_994_84
            have g_995_85 := (F_995.2 85 (by decide +kernel)).trans g_994_85
            have g_995_86 := (F_995.2 86 (by decide +kernel)).trans g_994_86
            have g_995_87 := (F_995.2 87 (by decide +kernel)).trans g_994_87
            refine ik_Wk 0 (pc' := 56) (loc' := [some (.ref 66), some (fI p), some (fI 3), some (fI what)]) (st' := [fI 0]) (h' := h_995) (cl' := 0) (sl' := 0) rfl ?_
            refine fw_if_ne rfl rfl (by omega) (by omega) (fun hc12 => ?_) (fun hc12 => absurd hc12 (by omega))
            refine fw_ld (-1000000002) rfl rfl (by decide) ?_
            exact ik_Wret rfl rfl ⟨_, _, rfl, rfl, rfl, rfl, ⟨(f 24), gt, gd, xs, ys, r1, r2, fr, (f 32), (f 33), so, sw, ro, cl, (-1000000002), rfl, g_995_77, n77, g_995_78, n78, g_995_79, n79, g_995_80, n80, g_995_81, n81, g_995_82, n82, g_995_66, g_995_70, g_995_83, n83, g_995_84, n84, g_995_85, n85, g_995_86, n86, g_995_87, n87, q7, q8, fr_995⟩⟩
        · have k_994 := F_994.1.trans k_993
          have fr_994 := hfr_c fr_993 F_994 (by decide)
          have g_994_66 := (F_994.2 66 (by decide +kernel)).trans g_993_66
          have g_994_67 := (F_994.2 67 (by decide +kernel)).trans g_993_67
          have g_994_68 := (F_994.2 68 (by decide +kernel)).trans g_993_68
          have g_994_69 := (F_994.2 69 (by decide +kernel)).trans g_993_69
          have g_994_77 := (F_994.2 77 (by decide +kernel)).trans g_993_77
          have g_994_78 := (F_994.2 78 (by decide +kernel)).trans g_993_78
          have g_994_79 := (F_994.2 79 (by decide +kernel)).trans g_993_79
          have g_994_80 := (F_994.2 80 (by decide +kernel)).trans g_993_80
          have g_994_70 := (F_994.2 70 (by decide +kernel)).trans g_993_70
          have g_994_81 := (F_994.2 81 (by decide +kernel)).trans g_993_81
          have g_994_82 := (F_994.2 82 (by decide +kernel)).trans g_993_82
          have g_994_83 := (F_994.2 83 (by decide +kernel)).trans g_993_83
          have g_994_84 := (F_994.2 84 (by decide +kernel)).trans g_993_84
          have g_994_85 := (F_994.2 85 (by decide +kernel)).trans g_993_85
          have g_994_86 := (F_994.2 86 (by decide +kernel)).trans g_993_86
          have g_994_87 := (F_994.2 87 (by decide +kernel)).trans g_993_87
          omega
      · have k_993 := F_993.1.trans k_992
        have fr_993 := hfr_c fr_992 F_993 (by decide)
        have g_993_66 := (F_993.2 66 (by decide +kernel)).trans g_992_66
        have g_993_67 := (F_993.2 67 (by decide +kernel)).trans g_992_67
        have g_993_68 := (F_993.2 68 (by decide +kernel)).trans g_992_68
        have g_993_69 := (F_993.2 69 (by decide +kernel)).trans g_992_69
        have g_993_77 := (F_993.2 77 (by decide +kernel)).trans g_992_77
        have g_993_78 := (F_993.2 78 (by decide +kernel)).trans g_992_78
        have g_993_79 := (F_993.2 79 (by decide +kernel)).trans g_992_79
        have g_993_80 := (F_993.2 80 (by decide +kernel)).trans g_992_80
        have g_993_70 := (F_993.2 70 (by decide +kernel)).trans g_992_70
        have g_993_81 := (F_993.2 81 (by decide +kernel)).trans g_992_81
        have g_993_82 := (F_993.2 82 (by decide +kernel)).trans g_992_82
        have g_993_83 := (F_993.2 83 (by decide +kernel)).trans g_992_83
        have g_993_84 := (F_993.2 84 (by decide +kernel)).trans g_992_84
        have g_993_85 := (F_993.2 85 (by decide +kernel)).trans g_992_85
        have g_993_86 := (F_993.2 86 (by decide +kernel)).trans g_992_86
        have g_993_87 := (F_993.2 87 (by decide +kernel)).trans g_992_87
        refine ik_Wk 0 (pc' := 13) (loc' := [some (.ref 66), some (fI ((p + 3) - 1))]) (st' := [fI 0]) (h' := h_993) (cl' := 0) (sl' := 0) rfl ?_
        refine ik_Wret rfl rfl ⟨_, _, rfl, rfl, ?_⟩
        refine ik_Wk 0 (pc' := 29) (loc' := [some (.ref 66), some (fI p), some (fI 3), some (fI what)]) (st' := [fI 0]) (h' := h_993) (cl' := 0) (sl' := 0) rfl ?_
        refine fw_if_ne rfl rfl (by omega) (by omega) (fun hc13 => ?_) (fun hc13 => absurd hc13 (by omega))
        refine fw_ld (-1000000001) rfl rfl (by decide) ?_
        exact ik_Wret rfl rfl ⟨_, _, rfl, rfl, rfl, rfl, ⟨(f 24), gt, gd, xs, ys, r1, r2, fr, (f 32), (f 33), so, sw, ro, cl, (-1000000001), rfl, g_993_77, n77, g_993_78, n78, g_993_79, n79, g_993_80, n80, g_993_81, n81, g_993_82, n82, g_993_66, g_993_70, g_993_83, n83, g_993_84, n84, g_993_85, n85, g_993_86, n86, g_993_87, n87, q7, q8, fr_993⟩⟩
    · have k_992 := F_992.1.trans k_991
      have fr_992 := hfr_c fr_991 F_992 (by decide)
      have g_992_66 := (F_992.2 66 (by decide +kernel)).trans g_991_66
      have g_992_67 := (F_992.2 67 (by decide +kernel)).trans g_991_67
      have g_992_68 := (F_992.2 68 (by decide +kernel)).trans g_991_68
      have g_992_69 := (F_992.2 69 (by decide +kernel)).trans g_991_69
      have g_992_77 := (F_992.2 77 (by decide +kernel)).trans g_991_77
      have g_992_78 := (F_992.2 78 (by decide +kernel)).trans g_991_78
      have g_992_79 := (F_992.2 79 (by decide +kernel)).trans g_991_79
      have g_992_80 := (F_992.2 80 (by decide +kernel)).trans g_991_80
      have g_992_70 := (F_992.2 70 (by decide +kernel)).trans g_991_70
      have g_992_81 := (F_992.2 81 (by decide +kernel)).trans g_991_81
      have g_992_82 := (F_992.2 82 (by decide +kernel)).trans g_991_82
      have g_992_83 := (F_992.2 83 (by decide +kernel)).trans g_991_83
      have g_992_84 := (F_992.2 84 (by decide +kernel)).trans g_991_84
      have g_992_85 := (F_992.2 85 (by decide +kernel)).trans g_991_85
      have g_992_86 := (F_992.2 86 (by decide +kernel)).trans g_991_86
      have g_992_87 := (F_992.2 87 (by decide +kernel)).trans g_991_87
      omega
  · have k_991 := F_991.1.trans hl
    have fr_991 := hfr_c (hfr_refl [66, 77, 78, 79, 80, 81, 82, 70, 83, 84, 85, 86, 87] h) F_991 (by decide)
    have g_991_66 := (F_991.2 66 (by decide +kernel)).trans h66
    have g_991_67 := (F_991.2 67 (by decide +kernel)).trans h67
    have g_991_68 := (F_991.2 68 (by decide +kernel)).trans h68
    have g_991_69 := (F_991.2 69 (by decide +kernel)).trans h69
    have g_991_77 := (F_991.2 77 (by decide +kernel)).trans h77
    have g_991_78 := (F_991.2 78 (by decide +kernel)).trans h78
    have g_991_79 := (F_991.2 79 (by decide +kernel)).trans h79
    have g_991_80 := (F_991.2 80 (by decide +kernel)).trans h80
    have g_991_70 := (F_991.2 70 (by decide +kernel)).trans h70
    have g_991_81 := (F_991.2 81 (by decide +kernel)).trans h81
    have g_991_82 := (F_991.2 82 (by decide +kernel)).trans h82
    have g_991_83 := (F_991.2 83 (by decide +kernel)).trans h83
    have g_991_84 := (F_991.2 84 (by decide +kernel)).trans h84
    have g_991_85 := (F_991.2 85 (by decide +kernel)).trans h85
    have g_991_86 := (F_991.2 86 (by decide +kernel)).trans h86
    have g_991_87 := (F_991.2 87 (by decide +kernel)).trans h87
    refine ik_Wk 0 (pc' := 13) (loc' := [some (.ref 66), some (fI p)]) (st' := [fI 0]) (h' := h_991) (cl' := 0) (sl' := 0) rfl ?_
    refine ik_Wret rfl rfl ⟨_, _, rfl, rfl, ?_⟩
    refine ik_Wk 0 (pc' := 5) (loc' := [some (.ref 66), some (fI p), some (fI 3), some (fI what)]) (st' := [fI 0]) (h' := h_991) (cl' := 0) (sl' := 0) rfl ?_
    refine fw_if_eq rfl rfl (by omega) (by omega) (fun hc14 => ?_) (fun hc14 => absurd hc14 (by omega))
    refine fw_ld (-1000000001) rfl rfl (by decide) ?_
    exact ik_Wret rfl rfl ⟨_, _, rfl, rfl, rfl, rfl, ⟨(f 24), gt, gd, xs, ys, r1, r2, fr, (f 32), (f 33), so, sw, ro, cl, (-1000000001), rfl, g_991_77, n77, g_991_78, n78, g_991_79, n79, g_991_80, n80, g_991_81, n81, g_991_82, n82, g_991_66, g_991_70, g_991_83, n83, g_991_84, n84, g_991_85, n85, g_991_86, n86, g_991_87, n87, q7, q8, fr_991⟩⟩

theorem rp_mixedE {h : List ik_E} {pl : Int} {f : Nat → Int} {p : Int} {n : Int} {what : Int} (q0 : 0 ≤ pl ∧ pl ≤ 12) (q1 : -2147483648 ≤ p ∧ p < 2147483648) (q2 : -2147483648 ≤ n ∧ n < 2147483648) (q3 : -2147483648 ≤ what ∧ what < 2147483648) (q4 : n < 1 ∨ 3 < n) (h66 : cE h 66 (.inr (10, [fI pl, .ref 67, .ref 68, .ref 69, fI (f 4), .ref 70, .ref 71, fI (f 7), fI (f 8), .ref 72, fI (f 10), fI (f 11), fI (f 12), fJ (f 13), fI (f 14), fI (f 15), fI (f 16), fI (f 17), .ref 73, .ref 74, .ref 75, .ref 76, .ref 77, .ref 78, fI (f 24), .ref 79, .ref 80, .ref 81, .ref 82, .ref 83, .ref 84, .ref 85, fJ (f 32), fJ (f 33), .ref 86, .ref 87, fI (f 36), .ref 88, .ref 89, .ref 90, .ref 91, .ref 92, .ref 93]))) (hl : h.length = 94) : ik_F 180 [.ref 66, fI p, fI n, fI what] h (fun rv h' => ∃ (v : Int), rv = [fI v] ∧ hfr [] h h') := by
  refine ik_Wk 2 (pc' := 2) (loc' := [some (.ref 66), some (fI p), some (fI n), some (fI what)]) (st' := [fI p, .ref 66]) (h' := h) (cl' := 0) (sl' := 0) rfl ?_
  refine ik_Wc 131 2 0 [.ref 66, fI p] [] rfl rfl rfl (by decide) rfl rfl (fw_rec hl rfl h66 rfl (by decide)) ?_
  refine ik_Wk 0 (pc' := 0) (loc' := [some (.ref 66), some (fI p)]) (st' := []) (h' := h) (cl' := 0) (sl' := 0) rfl ?_
  refine ik_Wk 1 (pc' := 1) (loc' := [some (.ref 66), some (fI p)]) (st' := [fI p]) (h' := h) (cl' := 0) (sl' := 0) rfl ?_
  refine fw_i2l rfl (by omega) (by omega) ?_
  refine fw_lc (z := 0) rfl (by decide) ?_
  refine ik_Wk 1 (pc' := 4) (loc' := [some (.ref 66), some (fI p)]) (st' := [.ref 66, fJ 0, fJ p]) (h' := h) (cl' := 0) (sl' := 0) rfl ?_
  refine fw_gf rfl rfl h66 rfl ?_
  refine ik_Wk 1 (pc' := 8) (loc' := [some (.ref 66), some (fI p)]) (st' := [fI 2, fI pl, fJ 0, fJ p]) (h' := h) (cl' := 0) (sl' := 0) rfl ?_
  refine fw_sub rfl ?_
  refine fw_i2l rfl (by omega) (by omega) ?_
  refine fw_call 127 3 3 [fJ p, fJ 0, fJ (pl - 2)] [] rfl rfl rfl (by decide) rfl rfl (fw_sta hl rfl (by decide)) (cr_in (v := p) (a := 0) (b := pl - 2) (by omega) (by omega) (by omega)  hl) ?_
  rintro _ h_998 (⟨rfl, p_998_0, F_998⟩ | ⟨rfl, p_998_0, F_998⟩)
  · have k_998 := F_998.1.trans hl
    have fr_998 := hfr_c (hfr_refl [] h) F_998 (by decide)
    have g_998_66 := (F_998.2 66 (by decide +kernel)).trans h66
    refine ik_Wk 0 (pc' := 13) (loc' := [some (.ref 66), some (fI p)]) (st' := [fI 1]) (h' := h_998) (cl' := 0) (sl' := 0) rfl ?_
    refine ik_Wret rfl rfl ⟨_, _, rfl, rfl, ?_⟩
    refine ik_Wk 0 (pc' := 5) (loc' := [some (.ref 66), some (fI p), some (fI n), some (fI what)]) (st' := [fI 1]) (h' := h_998) (cl' := 0) (sl' := 0) rfl ?_
    refine fw_if_eq rfl rfl (by omega) (by omega) (fun hc1 => absurd hc1 (by omega)) (fun hc1 => ?_)
    refine ik_Wk 1 (pc' := 9) (loc' := [some (.ref 66), some (fI p), some (fI n), some (fI what)]) (st' := [fI n]) (h' := h_998) (cl' := 0) (sl' := 0) rfl ?_
    refine fw_i2l rfl (by omega) (by omega) ?_
    refine fw_lc (z := 1) rfl (by decide) ?_
    refine fw_l2 3 rfl rfl (by decide) ?_
    refine fw_call 127 3 3 [fJ n, fJ 1, fJ 3] [] rfl rfl rfl (by decide) rfl rfl (fw_sta k_998 rfl (by decide)) (cr_in (v := n) (a := 1) (b := 3) (by omega) (by omega) (by omega)  k_998) ?_
    rintro _ h_999 (⟨rfl, p_999_0, F_999⟩ | ⟨rfl, p_999_0, F_999⟩)
    · have k_999 := F_999.1.trans k_998
      have fr_999 := hfr_c fr_998 F_999 (by decide)
      have g_999_66 := (F_999.2 66 (by decide +kernel)).trans g_998_66
      omega
    · have k_999 := F_999.1.trans k_998
      have fr_999 := hfr_c fr_998 F_999 (by decide)
      have g_999_66 := (F_999.2 66 (by decide +kernel)).trans g_998_66
      refine ik_Wk 0 (pc' := 17) (loc' := [some (.ref 66), some (fI p), some (fI n), some (fI what)]) (st' := [fI 0]) (h' := h_999) (cl' := 0) (sl' := 0) rfl ?_
      refine fw_if_eq rfl rfl (by omega) (by omega) (fun hc2 => ?_) (fun hc2 => absurd hc2 (by omega))
      refine ik_Wk 1 (pc' := 36) (loc' := [some (.ref 66), some (fI p), some (fI n), some (fI what)]) (st' := [fI n]) (h' := h_999) (cl' := 0) (sl' := 0) rfl ?_
      refine fw_i2l rfl (by omega) (by omega) ?_
      refine fw_lc (z := 1) rfl (by decide) ?_
      refine fw_l2 3 rfl rfl (by decide) ?_
      refine fw_call 127 3 3 [fJ n, fJ 1, fJ 3] [] rfl rfl rfl (by decide) rfl rfl (fw_sta k_999 rfl (by decide)) (cr_in (v := n) (a := 1) (b := 3) (by omega) (by omega) (by omega)  k_999) ?_
      rintro _ h_1000 (⟨rfl, p_1000_0, F_1000⟩ | ⟨rfl, p_1000_0, F_1000⟩)
      · have k_1000 := F_1000.1.trans k_999
        have fr_1000 := hfr_c fr_999 F_1000 (by decide)
        have g_1000_66 := (F_1000.2 66 (by decide +kernel)).trans g_999_66
        omega
      · have k_1000 := F_1000.1.trans k_999
        have fr_1000 := hfr_c fr_999 F_1000 (by decide)
        have g_1000_66 := (F_1000.2 66 (by decide +kernel)).trans g_999_66
        refine ik_Wk 0 (pc' := 44) (loc' := [some (.ref 66), some (fI p), some (fI n), some (fI what)]) (st' := [fI 0]) (h' := h_1000) (cl' := 0) (sl' := 0) rfl ?_
        refine fw_if_eq rfl rfl (by omega) (by omega) (fun hc3 => ?_) (fun hc3 => absurd hc3 (by omega))
        refine fw_ld (-1000000002) rfl rfl (by decide) ?_
        exact ik_Wret rfl rfl ⟨_, _, rfl, rfl, rfl, rfl, ⟨(-1000000002), rfl, fr_1000⟩⟩
  · have k_998 := F_998.1.trans hl
    have fr_998 := hfr_c (hfr_refl [] h) F_998 (by decide)
    have g_998_66 := (F_998.2 66 (by decide +kernel)).trans h66
    refine ik_Wk 0 (pc' := 13) (loc' := [some (.ref 66), some (fI p)]) (st' := [fI 0]) (h' := h_998) (cl' := 0) (sl' := 0) rfl ?_
    refine ik_Wret rfl rfl ⟨_, _, rfl, rfl, ?_⟩
    refine ik_Wk 0 (pc' := 5) (loc' := [some (.ref 66), some (fI p), some (fI n), some (fI what)]) (st' := [fI 0]) (h' := h_998) (cl' := 0) (sl' := 0) rfl ?_
    refine fw_if_eq rfl rfl (by omega) (by omega) (fun hc4 => ?_) (fun hc4 => absurd hc4 (by omega))
    refine fw_ld (-1000000001) rfl rfl (by decide) ?_
    exact ik_Wret rfl rfl ⟨_, _, rfl, rfl, rfl, rfl, ⟨(-1000000001), rfl, fr_998⟩⟩
end
