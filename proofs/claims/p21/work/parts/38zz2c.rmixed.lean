noncomputable section
theorem rp_mixed1 {h : List ik_E} {pl : Int} {f : Nat → Int} {s : Nat} {cn : List Int} {go : List Int} {ch : List Int} {gt : List Int} {gd : List Int} {xs : List Int} {ys : List Int} {ka : Int} {pa : Int} {fa : Int} {kb : Int} {pb : Int} {fb : Int} {r1 : List Int} {r2 : List Int} {p : Int} {what : Int} {fr : List Int} {so : List Int} {sw : List Int} {ro : List Int} {cl : List Int} (q0 : 0 ≤ pl ∧ pl ≤ 12) (q1 : s < 4096) (q2 : ∀ x : Int, 0 ≤ x → x < pl - 1 → 0 ≤ cn.getD x.toNat 0 ∧ cn.getD x.toNat 0 ≤ 4) (q3 : ∀ x : Int, 0 ≤ x → x < pl - 1 → 1 ≤ cn.getD x.toNat 0 ∧ ∀ j : Int, 4 * x ≤ j → j < 4 * x + cn.getD x.toNat 0 → 0 ≤ ch.getD j.toNat 0 ∧ ch.getD j.toNat 0 ≤ 100) (q4 : ∀ x : Int, 0 ≤ x → x < pl - 1 → mx_ok pl (mx_w cn go ch s x)) (q5 : 1 < pl → 0 ≤ ka ∧ ka ≤ 2) (q6 : 1 < pl → 0 ≤ kb ∧ kb ≤ 2) (q7 : ∀ i : Int, 0 ≤ i → i < 3 → 0 ≤ ro.getD i.toNat 0 ∧ ro.getD i.toNat 0 ≤ 2) (q8 : ∀ i : Int, 0 ≤ i → i < 3 → 0 ≤ cl.getD i.toNat 0 ∧ cl.getD i.toNat 0 ≤ 2) (q9 : -2147483648 ≤ p ∧ p < 2147483648) (q10 : -2147483648 ≤ what ∧ what < 2147483648) (h66 : cE h 66 (.inr (10, [fI pl, .ref 67, .ref 68, .ref 69, fI ((s : Nat) : Int), .ref 70, .ref 71, fI (f 7), fI (f 8), .ref 72, fI (f 10), fI (f 11), fI (f 12), fJ (f 13), fI (f 14), fI (f 15), fI (f 16), fI (f 17), .ref 73, .ref 74, .ref 75, .ref 76, .ref 77, .ref 78, fI (f 24), .ref 79, .ref 80, .ref 81, .ref 82, .ref 83, .ref 84, .ref 85, fJ (f 32), fJ (f 33), .ref 86, .ref 87, fI (f 36), .ref 88, .ref 89, .ref 90, .ref 91, .ref 92, .ref 93]))) (h67 : cE h 67 (.inl (.int, fA cn))) (n67 : cn.length = 12) (h68 : cE h 68 (.inl (.int, fA go))) (n68 : go.length = 48) (h69 : cE h 69 (.inl (.int, fA ch))) (n69 : ch.length = 48) (h77 : cE h 77 (.inl (.int, fA gt))) (n77 : gt.length = 5) (h78 : cE h 78 (.inl (.int, fA gd))) (n78 : gd.length = 5) (h79 : cE h 79 (.inl (.long, fL xs))) (n79 : xs.length = 12) (h80 : cE h 80 (.inl (.long, fL ys))) (n80 : ys.length = 12) (h70 : cE h 70 (.inl (.int, fA [ka, pa, fa, kb, pb, fb]))) (h81 : cE h 81 (.inl (.long, fL r1))) (n81 : r1.length = 201) (h82 : cE h 82 (.inl (.long, fL r2))) (n82 : r2.length = 201) (h83 : cE h 83 (.inl (.long, fL fr))) (n83 : fr.length = 9) (h84 : cE h 84 (.inl (.long, fL so))) (n84 : so.length = 3) (h85 : cE h 85 (.inl (.long, fL sw))) (n85 : sw.length = 3) (h86 : cE h 86 (.inl (.int, fA ro))) (n86 : ro.length = 3) (h87 : cE h 87 (.inl (.int, fA cl))) (n87 : cl.length = 3) (hl : h.length = 94) : ik_F 180 [.ref 66, fI p, fI 1, fI what] h (fun rv h' => ∃ (w' : Int) (gt' : List Int) (gd' : List Int) (xs' : List Int) (ys' : List Int) (r1' : List Int) (r2' : List Int) (fr' : List Int) (sb' : Int) (wa' : Int) (so' : List Int) (sw' : List Int) (ro' : List Int) (cl' : List Int) (v : Int), rv = [fI v] ∧ cE h' 77 (.inl (.int, fA gt')) ∧ gt'.length = 5 ∧ cE h' 78 (.inl (.int, fA gd')) ∧ gd'.length = 5 ∧ cE h' 79 (.inl (.long, fL xs')) ∧ xs'.length = 12 ∧ cE h' 80 (.inl (.long, fL ys')) ∧ ys'.length = 12 ∧ cE h' 81 (.inl (.long, fL r1')) ∧ r1'.length = 201 ∧ cE h' 82 (.inl (.long, fL r2')) ∧ r2'.length = 201 ∧ cE h' 66 (.inr (10, [fI pl, .ref 67, .ref 68, .ref 69, fI ((s : Nat) : Int), .ref 70, .ref 71, fI (f 7), fI (f 8), .ref 72, fI (f 10), fI (f 11), fI (f 12), fJ (f 13), fI (f 14), fI (f 15), fI (f 16), fI (f 17), .ref 73, .ref 74, .ref 75, .ref 76, .ref 77, .ref 78, fI w', .ref 79, .ref 80, .ref 81, .ref 82, .ref 83, .ref 84, .ref 85, fJ sb', fJ wa', .ref 86, .ref 87, fI (f 36), .ref 88, .ref 89, .ref 90, .ref 91, .ref 92, .ref 93])) ∧ cE h' 70 (.inl (.int, fA [ka, pa, fa, kb, pb, fb])) ∧ cE h' 83 (.inl (.long, fL fr')) ∧ fr'.length = 9 ∧ cE h' 84 (.inl (.long, fL so')) ∧ so'.length = 3 ∧ cE h' 85 (.inl (.long, fL sw')) ∧ sw'.length = 3 ∧ cE h' 86 (.inl (.int, fA ro')) ∧ ro'.length = 3 ∧ cE h' 87 (.inl (.int, fA cl')) ∧ cl'.length = 3 ∧ (∀ i : Int, 0 ≤ i → i < 3 → 0 ≤ ro'.getD i.toNat 0 ∧ ro'.getD i.toNat 0 ≤ 2) ∧ (∀ i : Int, 0 ≤ i → i < 3 → 0 ≤ cl'.getD i.toNat 0 ∧ cl'.getD i.toNat 0 ≤ 2) ∧ hfr [66, 77, 78, 79, 80, 81, 82, 70, 83, 84, 85, 86, 87] h h') := by
  refine ik_Wk 2 (pc' := 2) (loc' := [some (.ref 66), some (fI p), some (fI 1), some (fI what)]) (st' := [fI p, .ref 66]) (h' := h) (cl' := 0) (sl' := 0) rfl ?_
  refine ik_Wc 131 2 0 [.ref 66, fI p] [] rfl rfl rfl (by decide) rfl rfl (fw_rec hl rfl h66 rfl (by decide)) ?_
  refine ik_Wk 0 (pc' := 0) (loc' := [some (.ref 66), some (fI p)]) (st' := []) (h' := h) (cl' := 0) (sl' := 0) rfl ?_
  refine ik_Wk 1 (pc' := 1) (loc' := [some (.ref 66), some (fI p)]) (st' := [fI p]) (h' := h) (cl' := 0) (sl' := 0) rfl ?_
  refine fw_i2l rfl (by omega) (by omega) ?_
  refine fw_lc (z := 0) rfl (by decide) ?_
  refine ik_Wk 1 (pc' := 4) (loc' := [some (.ref 66), some (fI p)]) (st' := [.ref 66, fJ 0, fJ p]) (h' := h) (cl' := 0) (sl' := 0) rfl ?_
  refine fw_gf rfl rfl h66 rfl ?_
  refine ik_Wk 1 (pc' := 8) (loc' := [some (.ref 66), some (fI p)]) (st' := [fI 2, fI pl, fJ 0, fJ p]) (h' := h) (cl' := 0) (sl' := 0) rfl ?_
  refine fw_sub rfl ?_
  refine fw_i2l rfl (by omega) (by omega) ?_
  refine fw_call 127 3 3 [fJ p, fJ 0, fJ (pl - 2)] [] rfl rfl rfl (by decide) rfl rfl (fw_sta hl rfl (by decide)) (cr_in (v := p) (a := 0) (b := pl - 2) (by omega) (by omega) (by omega)  hl) ?_
  rintro _ h_977 (⟨rfl, p_977_0, F_977⟩ | ⟨rfl, p_977_0, F_977⟩)
  · have k_977 := F_977.1.trans hl
    have fr_977 := hfr_c (hfr_refl [66, 77, 78, 79, 80, 81, 82, 70, 83, 84, 85, 86, 87] h) F_977 (by decide)
    have g_977_66 := (F_977.2 66 (by decide +kernel)).trans h66
    have g_977_67 := (F_977.2 67 (by decide +kernel)).trans h67
    have g_977_68 := (F_977.2 68 (by decide +kernel)).trans h68
    have g_977_69 := (F_977.2 69 (by decide +kernel)).trans h69
    have g_977_77 := (F_977.2 77 (by decide +kernel)).trans h77
    have g_977_78 := (F_977.2 78 (by decide +kernel)).trans h78
    have g_977_79 := (F_977.2 79 (by decide +kernel)).trans h79
    have g_977_80 := (F_977.2 80 (by decide +kernel)).trans h80
    have g_977_70 := (F_977.2 70 (by decide +kernel)).trans h70
    have g_977_81 := (F_977.2 81 (by decide +kernel)).trans h81
    have g_977_82 := (F_977.2 82 (by decide +kernel)).trans h82
    have g_977_83 := (F_977.2 83 (by decide +kernel)).trans h83
    have g_977_84 := (F_977.2 84 (by decide +kernel)).trans h84
    have g_977_85 := (F_977.2 85 (by decide +kernel)).trans h85
    have g_977_86 := (F_977.2 86 (by decide +kernel)).trans h86
    have g_977_87 := (F_977.2 87 (by decide +kernel)).trans h87
    refine ik_Wk 0 (pc' := 13) (loc' := [some (.ref 66), some (fI p)]) (st' := [fI 1]) (h' := h_977) (cl' := 0) (sl' := 0) rfl ?_
    refine ik_Wret rfl rfl ⟨_, _, rfl, rfl, ?_⟩
    refine ik_Wk 0 (pc' := 5) (loc' := [some (.ref 66), some (fI p), some (fI 1), some (fI what)]) (st' := [fI 1]) (h' := h_977) (cl' := 0) (sl' := 0) rfl ?_
    refine fw_if_eq rfl rfl (by omega) (by omega) (fun hc1 => absurd hc1 (by omega)) (fun hc1 => ?_)
    refine ik_Wk 1 (pc' := 9) (loc' := [some (.ref 66), some (fI p), some (fI 1), some (fI what)]) (st' := [fI 1]) (h' := h_977) (cl' := 0) (sl' := 0) rfl ?_
    refine fw_i2l rfl (by omega) (by omega) ?_
    refine fw_lc (z := 1) rfl (by decide) ?_
    refine fw_l2 3 rfl rfl (by decide) ?_
    refine fw_call 127 3 3 [fJ 1, fJ 1, fJ 3] [] rfl rfl rfl (by decide) rfl rfl (fw_sta k_977 rfl (by decide)) (cr_in (v := 1) (a := 1) (b := 3) (by omega) (by omega) (by omega)  k_977) ?_
    rintro _ h_978 (⟨rfl, p_978_0, F_978⟩ | ⟨rfl, p_978_0, F_978⟩)
    · have k_978 := F_978.1.trans k_977
      have fr_978 := hfr_c fr_977 F_978 (by decide)
      have g_978_66 := (F_978.2 66 (by decide +kernel)).trans g_977_66
      have g_978_67 := (F_978.2 67 (by decide +kernel)).trans g_977_67
      have g_978_68 := (F_978.2 68 (by decide +kernel)).trans g_977_68
      have g_978_69 := (F_978.2 69 (by decide +kernel)).trans g_977_69
      have g_978_77 := (F_978.2 77 (by decide +kernel)).trans g_977_77
      have g_978_78 := (F_978.2 78 (by decide +kernel)).trans g_977_78
      have g_978_79 := (F_978.2 79 (by decide +kernel)).trans g_977_79
      have g_978_80 := (F_978.2 80 (by decide +kernel)).trans g_977_80
      have g_978_70 := (F_978.2 70 (by decide +kernel)).trans g_977_70
      have g_978_81 := (F_978.2 81 (by decide +kernel)).trans g_977_81
      have g_978_82 := (F_978.2 82 (by decide +kernel)).trans g_977_82
      have g_978_83 := (F_978.2 83 (by decide +kernel)).trans g_977_83
      have g_978_84 := (F_978.2 84 (by decide +kernel)).trans g_977_84
      have g_978_85 := (F_978.2 85 (by decide +kernel)).trans g_977_85
      have g_978_86 := (F_978.2 86 (by decide +kernel)).trans g_977_86
      have g_978_87 := (F_978.2 87 (by decide +kernel)).trans g_977_87
      refine ik_Wk 0 (pc' := 17) (loc' := [some (.ref 66), some (fI p), some (fI 1), some (fI what)]) (st' := [fI 1]) (h' := h_978) (cl' := 0) (sl' := 0) rfl ?_
      refine fw_if_eq rfl rfl (by omega) (by omega) (fun hc2 => absurd hc2 (by omega)) (fun hc2 => ?_)
      refine ik_Wk 3 (pc' := 23) (loc' := [some (.ref 66), some (fI p), some (fI 1), some (fI what)]) (st' := [fI 1, fI p, .ref 66]) (h' := h_978) (cl' := 0) (sl' := 0) rfl ?_
      refine fw_add rfl ?_
      refine ik_Wk 1 (pc' := 25) (loc' := [some (.ref 66), some (fI p), some (fI 1), some (fI what)]) (st' := [fI 1, fI (p + 1), .ref 66]) (h' := h_978) (cl' := 0) (sl' := 0) rfl ?_
      refine fw_sub rfl ?_
      refine ik_Wc 131 2 0 [.ref 66, fI ((p + 1) - 1)] [] rfl rfl rfl (by decide) rfl rfl (fw_rec k_978 rfl g_978_66 rfl (by decide)) ?_
      refine ik_Wk 0 (pc' := 0) (loc' := [some (.ref 66), some (fI ((p + 1) - 1))]) (st' := []) (h' := h_978) (cl' := 0) (sl' := 0) rfl ?_
      refine ik_Wk 1 (pc' := 1) (loc' := [some (.ref 66), some (fI ((p + 1) - 1))]) (st' := [fI ((p + 1) - 1)]) (h' := h_978) (cl' := 0) (sl' := 0) rfl ?_
      refine fw_i2l rfl (by omega) (by omega) ?_
      refine fw_lc (z := 0) rfl (by decide) ?_
      refine ik_Wk 1 (pc' := 4) (loc' := [some (.ref 66), some (fI ((p + 1) - 1))]) (st' := [.ref 66, fJ 0, fJ ((p + 1) - 1)]) (h' := h_978) (cl' := 0) (sl' := 0) rfl ?_
      refine fw_gf rfl rfl g_978_66 rfl ?_
      refine ik_Wk 1 (pc' := 8) (loc' := [some (.ref 66), some (fI ((p + 1) - 1))]) (st' := [fI 2, fI pl, fJ 0, fJ ((p + 1) - 1)]) (h' := h_978) (cl' := 0) (sl' := 0) rfl ?_
      refine fw_sub rfl ?_
      refine fw_i2l rfl (by omega) (by omega) ?_
      refine fw_call 127 3 3 [fJ ((p + 1) - 1), fJ 0, fJ (pl - 2)] [] rfl rfl rfl (by decide) rfl rfl (fw_sta k_978 rfl (by decide)) (cr_in (v := (p + 1) - 1) (a := 0) (b := pl - 2) (by omega) (by omega) (by omega)  k_978) ?_
      rintro _ h_979 (⟨rfl, p_979_0, F_979⟩ | ⟨rfl, p_979_0, F_979⟩)
      · have k_979 := F_979.1.trans k_978
        have fr_979 := hfr_c fr_978 F_979 (by decide)
        have g_979_66 := (F_979.2 66 (by decide +kernel)).trans g_978_66
        have g_979_67 := (F_979.2 67 (by decide +kernel)).trans g_978_67
        have g_979_68 := (F_979.2 68 (by decide +kernel)).trans g_978_68
        have g_979_69 := (F_979.2 69 (by decide +kernel)).trans g_978_69
        have g_979_77 := (F_979.2 77 (by decide +kernel)).trans g_978_77
        have g_979_78 := (F_979.2 78 (by decide +kernel)).trans g_978_78
        have g_979_79 := (F_979.2 79 (by decide +kernel)).trans g_978_79
        have g_979_80 := (F_979.2 80 (by decide +kernel)).trans g_978_80
        have g_979_70 := (F_979.2 70 (by decide +kernel)).trans g_978_70
        have g_979_81 := (F_979.2 81 (by decide +kernel)).trans g_978_81
        have g_979_82 := (F_979.2 82 (by decide +kernel)).trans g_978_82
        have g_979_83 := (F_979.2 83 (by decide +kernel)).trans g_978_83
        have g_979_84 := (F_979.2 84 (by decide +kernel)).trans g_978_84
        have g_979_85 := (F_979.2 85 (by decide +kernel)).trans g_978_85
        have g_979_86 := (F_979.2 86 (by decide +kernel)).trans g_978_86
        have g_979_87 := (F_979.2 87 (by decide +kernel)).trans g_978_87
        refine ik_Wk 0 (pc' := 13) (loc' := [some (.ref 66), some (fI ((p + 1) - 1))]) (st' := [fI 1]) (h' := h_979) (cl' := 0) (sl' := 0) rfl ?_
        refine ik_Wret rfl rfl ⟨_, _, rfl, rfl, ?_⟩
        refine ik_Wk 0 (pc' := 29) (loc' := [some (.ref 66), some (fI p), some (fI 1), some (fI what)]) (st' := [fI 1]) (h' := h_979) (cl' := 0) (sl' := 0) rfl ?_
        refine fw_if_ne rfl rfl (by omega) (by omega) (fun hc3 => absurd hc3 (by omega)) (fun hc3 => ?_)
        refine ik_Wk 1 (pc' := 36) (loc' := [some (.ref 66), some (fI p), some (fI 1), some (fI what)]) (st' := [fI 1]) (h' := h_979) (cl' := 0) (sl' := 0) rfl ?_
        refine fw_i2l rfl (by omega) (by omega) ?_
        refine fw_lc (z := 1) rfl (by decide) ?_
        refine fw_l2 3 rfl rfl (by decide) ?_
        refine fw_call 127 3 3 [fJ 1, fJ 1, fJ 3] [] rfl rfl rfl (by decide) rfl rfl (fw_sta k_979 rfl (by decide)) (cr_in (v := 1) (a := 1) (b := 3) (by omega) (by omega) (by omega)  k_979) ?_
        rintro _ h_980 (⟨rfl, p_980_0, F_980⟩ | ⟨rfl, p_980_0, F_980⟩)
        · have k_980 := F_980.1.trans k_979
          have fr_980 := hfr_c fr_979 F_980 (by decide)
          have g_980_66 := (F_980.2 66 (by decide +kernel)).trans g_979_66
          have g_980_67 := (F_980.2 67 (by decide +kernel)).trans g_979_67
          have g_980_68 := (F_980.2 68 (by decide +kernel)).trans g_979_68
          have g_980_69 := (F_980.2 69 (by decide +kernel)).trans g_979_69
          have g_980_77 := (F_980.2 77 (by decide +kernel)).trans g_979_77
          have g_980_78 := (F_980.2 78 (by decide +kernel)).trans g_979_78
          have g_980_79 := (F_980.2 79 (by decide +kernel)).trans g_979_79
          have g_980_80 := (F_980.2 80 (by decide +kernel)).trans g_979_80
          have g_980_70 := (F_980.2 70 (by decide +kernel)).trans g_979_70
          have g_980_81 := (F_980.2 81 (by decide +kernel)).trans g_979_81
          have g_980_82 := (F_980.2 82 (by decide +kernel)).trans g_979_82
          have g_980_83 := (F_980.2 83 (by decide +kernel)).trans g_979_83
          have g_980_84 := (F_980.2 84 (by decide +kernel)).trans g_979_84
          have g_980_85 := (F_980.2 85 (by decide +kernel)).trans g_979_85
          have g_980_86 := (F_980.2 86 (by decide +kernel)).trans g_979_86
          have g_980_87 := (F_980.2 87 (by decide +kernel)).trans g_979_87
          refine ik_Wk 0 (pc' := 44) (loc' := [some (.ref 66), some (fI p), some (fI 1), some (fI what)]) (st' := [fI 1]) (h' := h_980) (cl' := 0) (sl' := 0) rfl ?_
          refine fw_if_eq rfl rfl (by omega) (by omega) (fun hc4 => absurd hc4 (by omega)) (fun hc4 => ?_)
          refine ik_Wk 1 (pc' := 48) (loc' := [some (.ref 66), some (fI p), some (fI 1), some (fI what)]) (st' := [fI what]) (h' := h_980) (cl' := 0) (sl' := 0) rfl ?_
          refine fw_i2l rfl (by omega) (by omega) ?_
          refine fw_lc (z := 0) rfl (by decide) ?_
          refine fw_l2 6 rfl rfl (by decide) ?_
          refine fw_call 127 3 3 [fJ what, fJ 0, fJ 6] [] rfl rfl rfl (by decide) rfl rfl (fw_sta k_980 rfl (by decide)) (cr_in (v := what) (a := 0) (b := 6) (by omega) (by omega) (by omega)  k_980) ?_
          rintro _ h_981 (⟨rfl, p_981_0, F_981⟩ | ⟨rfl, p_981_0, F_981⟩)
          · have k_981 := F_981.1.trans k_980
            have fr_981 := hfr_c fr_980 F_981 (by decide)
            have g_981_66 := (F_981.2 66 (by decide +kernel)).trans g_980_66
            have g_981_67 := (F_981.2 67 (by decide +kernel)).trans g_980_67
            have g_981_68 := (F_981.2 68 (by decide +kernel)).trans g_980_68
            have g_981_69 := (F_981.2 69 (by decide +kernel)).trans g_980_69
            have g_981_77 := (F_981.2 77 (by decide +kernel)).trans g_980_77
            have g_981_78 := (F_981.2 78 (by decide +kernel)).trans g_980_78
            have g_981_79 := (F_981.2 79 (by decide +kernel)).trans g_980_79
            have g_981_80 := (F_981.2 80 (by decide +kernel)).trans g_980_80
            have g_981_70 := (F_981.2 70 (by decide +kernel)).trans g_980_70
            have g_981_81 := (F_981.2 81 (by decide +kernel)).trans g_980_81
            have g_981_82 := (F_981.2 82 (by decide +kernel)).trans g_980_82
            have g_981_83 := (F_981.2 83 (by decide +kernel)).trans g_980_83
            have g_981_84 := (F_981.2 84 (by decide +kernel)).trans g_980_84
            have g_981_85 := (F_981.2 85 (by decide +kernel)).trans g_980_85
            have g_981_86 := (F_981.2 86 (by decide +kernel)).trans g_980_86
            have g_981_87 := (F_981.2 87 (by decide +kernel)).trans g_980_87
            refine ik_Wk 0 (pc' := 56) (loc' := [some (.ref 66), some (fI p), some (fI 1), some (fI what)]) (st' := [fI 1]) (h' := h_981) (cl' := 0) (sl' := 0) rfl ?_
            refine fw_if_ne rfl rfl (by omega) (by omega) (fun hc5 => absurd hc5 (by omega)) (fun hc5 => ?_)
            refine ik_Wk 3 (pc' := 65) (loc' := [some (.ref 66), some (fI p), some (fI 1), some (fI what)]) (st' := [fI 1, fI p, .ref 66]) (h' := h_981) (cl' := 0) (sl' := 0) rfl ?_
            refine fw_call 178 3 0 [.ref 66, fI p, fI 1] [] rfl rfl rfl (by decide) rfl rfl (fw_rec k_981 rfl g_981_66 rfl (by decide)) (cr_fears1 (pl := pl) (f := fun j => ([0, 0, 0, 0, 0, 0, 0, f 7, f 8, 0, f 10, f 11, f 12, f 13, f 14, f 15, f 16, f 17, 0, 0, 0, 0, 0, 0, f 24, 0, 0, 0, 0, 0, 0, 0, f 32, f 33, 0, 0, f 36, 0, 0, 0, 0, 0, 0] : List Int).getD j 0) (s := s) (cn := cn) (go := go) (ch := ch) (gt := gt) (gd := gd) (xs := xs) (ys := ys) (ka := ka) (pa := pa) (fa := fa) (kb := kb) (pb := pb) (fb := fb) (r1 := r1) (r2 := r2) (p := p) (fr := fr) (by omega) (by omega) q2 q3 q4 (q5 (by omega)) (q6 (by omega)) (by omega) g_981_66 g_981_67 n67 g_981_68 n68 g_981_69 n69 g_981_77 n77 g_981_78 n78 g_981_79 n79 g_981_80 n80 g_981_70 g_981_81 n81 g_981_82 n82 g_981_83 n83 k_981) ?_
            rintro _ h_982 ⟨w'_982, gt'_982, gd'_982, xs'_982, ys'_982, r1'_982, r2'_982, fr'_982, rfl, e_982_66, e_982_77, m_982_77, e_982_78, m_982_78, e_982_79, m_982_79, e_982_80, m_982_80, e_982_81, m_982_81, e_982_82, m_982_82, e_982_70, e_982_83, m_982_83, F_982⟩
            have k_982 := F_982.1.trans k_981
            have fr_982 := hfr_c fr_981 F_982 (by decide)
            have g_982_67 := (F_982.2 67 (by decide +kernel)).trans g_981_67
            have g_982_68 := (F_982.2 68 (by decide +kernel)).trans g_981_68
            have g_982_69 := (F_982.2 69 (by decide +kernel)).trans g_981_69
            have g_982_84 := (F_982.2 84 (by decide +kernel)).trans g_981_84
            have g_982_85 := (F_982.2 85 (by decide +kernel)).trans g_981_85
            have g_982_86 := (F_982.2 86 (by decide +kernel)).trans g_981_86
            have g_982_87 := (F_982.2 87 (by decide +kernel)).trans g_981_87
            have g_982_66 : cE h_982 66 (.inr (10, [fI pl, .ref 67, .ref 68, .ref 69, fI ((s : Nat) : Int), .ref 70, .ref 71, fI (f 7), fI (f 8), .ref 72, fI (f 10), fI (f 11), fI (f 12), fJ (f 13), fI (f 14), fI (f 15), fI (f 16), fI (f 17), .ref 73, .ref 74, .ref 75, .ref 76, .ref 77, .ref 78, fI w'_982, .ref 79, .ref 80, .ref 81, .ref 82, .ref 83, .ref 84, .ref 85, fJ (f 32), fJ (f 33), .ref 86, .ref 87, fI (f 36), .ref 88, .ref 89, .ref 90, .ref 91, .ref 92, .ref 93])) := e_982_66
            have g_982_77 : cE h_982 77 (.inl (.int, fA gt'_982)) := e_982_77
            have g_982_78 : cE h_982 78 (.inl (.int, fA gd'_982)) := e_982_78
            have g_982_79 : cE h_982 79 (.inl (.long, fL xs'_982)) := e_982_79
            have g_982_80 : cE h_982 80 (.inl (.long, fL ys'_982)) := e_982_80
            have g_982_81 : cE h_982 81 (.inl (.long, fL r1'_982)) := e_982_81
            have g_982_82 : cE h_982 82 (.inl (.long, fL r2'_982)) := e_982_82
            have g_982_70 : cE h_982 70 (.inl (.int, fA [ka, pa, fa, kb, pb, fb])) := e_982_70
            have g_982_83 : cE h_982 83 (.inl (.long, fL fr'_982)) := e_982_83
            refine ik_Wk 0 (pc' := 68) (loc' := [some (.ref 66), some (fI p), some (fI 1), some (fI what)]) (st' := []) (h' := h_982) (cl' := 0) (sl' := 0) rfl ?_
            refine ik_Wk 2 (pc' := 70) (loc' := [some (.ref 66), some (fI p), some (fI 1), some (fI what)]) (st' := [fI 1, .ref 66]) (h' := h_982) (cl' := 0) (sl' := 0) rfl ?_
            refine fw_call 179 2 0 [.ref 66, fI 1] [] rfl rfl rfl (by decide) rfl rfl (fw_rec k_982 rfl g_982_66 rfl (by decide)) (cr_findMixed (f := fun j => ([pl, 0, 0, 0, ((s : Nat) : Int), 0, 0, (f 7), (f 8), 0, (f 10), (f 11), (f 12), (f 13), (f 14), (f 15), (f 16), (f 17), 0, 0, 0, 0, 0, 0, w'_982, 0, 0, 0, 0, 0, 0, 0, (f 32), (f 33), 0, 0, (f 36), 0, 0, 0, 0, 0, 0] : List Int).getD j 0) (n := 1) (fr := fr'_982) (so := so) (sw := sw) (ro := ro) (cl := cl) (by omega) q7 q8 g_982_66 g_982_83 m_982_83 g_982_84 n84 g_982_85 n85 g_982_86 n86 g_982_87 n87 k_982) ?_
            rintro _ h_983 ⟨sb'_983, wa'_983, so'_983, sw'_983, ro'_983, cl'_983, b_983, rfl, e_983_66, e_983_84, m_983_84, e_983_85, m_983_85, e_983_86, m_983_86, e_983_87, m_983_87, p_983_0, p_983_1, p_983_2, p_983_3, F_983⟩
            have k_983 := F_983.1.trans k_982
            have fr_983 := hfr_c fr_982 F_983 (by decide)
            have g_983_67 := (F_983.2 67 (by decide +kernel)).trans g_982_67
            have g_983_68 := (F_983.2 68 (by decide +kernel)).trans g_982_68
            have g_983_69 := (F_983.2 69 (by decide +kernel)).trans g_982_69
            have g_983_77 := (F_983.2 77 (by decide +kernel)).trans g_982_77
            have g_983_78 := (F_983.2 78 (by decide +kernel)).trans g_982_78
            have g_983_79 := (F_983.2 79 (by decide +kernel)).trans g_982_79
            have g_983_80 := (F_983.2 80 (by decide +kernel)).trans g_982_80
            have g_983_70 := (F_983.2 70 (by decide +kernel)).trans g_982_70
            have g_983_81 := (F_983.2 81 (by decide +kernel)).trans g_982_81
            have g_983_82 := (F_983.2 82 (by decide +kernel)).trans g_982_82
            have g_983_83 := (F_983.2 83 (by decide +kernel)).trans g_982_83
            have g_983_66 : cE h_983 66 (.inr (10, [fI pl, .ref 67, .ref 68, .ref 69, fI ((s : Nat) : Int), .ref 70, .ref 71, fI (f 7), fI (f 8), .ref 72, fI (f 10), fI (f 11), fI (f 12), fJ (f 13), fI (f 14), fI (f 15), fI (f 16), fI (f 17), .ref 73, .ref 74, .ref 75, .ref 76, .ref 77, .ref 78, fI w'_982, .ref 79, .ref 80, .ref 81, .ref 82, .ref 83, .ref 84, .ref 85, fJ sb'_983, fJ wa'_983, .ref 86, .ref 87, fI (f 36), .ref 88, .ref 89, .ref 90, .ref 91, .ref 92, .ref 93])) := e_983_66
            have g_983_84 : cE h_983 84 (.inl (.long, fL so'_983)) := e_983_84
            have g_983_85 : cE h_983 85 (.inl (.long, fL sw'_983)) := e_983_85
            have g_983_86 : cE h_983 86 (.inl (.int, fA ro'_983)) := e_983_86
            have g_983_87 : cE h_983 87 (.inl (.int, fA cl'_983)) := e_983_87
            refine ik_Wk 0 (pc' := 73) (loc' := [some (.ref 66), some (fI p), some (fI 1), some (fI what)]) (st' := [fI b_983]) (h' := h_983) (cl' := 0) (sl' := 0) rfl ?_
            refine fw_if_ne rfl rfl (by omega) (by omega) (fun hc6 => ?_) (fun hc6 => ?_)
            · refine fw_ld (-1000000003) rfl rfl (by decide) ?_
              exact ik_Wret rfl rfl ⟨_, _, rfl, rfl, rfl, rfl, ⟨w'_982, gt'_982, gd'_982, xs'_982, ys'_982, r1'_982, r2'_982, fr'_982, sb'_983, wa'_983, so'_983, sw'_983, ro'_983, cl'_983, (-1000000003), rfl, g_983_77, m_982_77, g_983_78, m_982_78, g_983_79, m_982_79, g_983_80, m_982_80, g_983_81, m_982_81, g_983_82, m_982_82, g_983_66, g_983_70, g_983_83, m_982_83, g_983_84, m_983_84, g_983_85, m_983_85, g_983_86, m_983_86, g_983_87, m_983_87, p_983_0, p_983_1, fr_983⟩⟩
            · refine ik_Wk 1 (pc' := 80) (loc' := [some (.ref 66), some (fI p), some (fI 1), some (fI what)]) (st' := [fI what]) (h' := h_983) (cl' := 0) (sl' := 0) rfl ?_
              refine fw_if_ne rfl rfl (by omega) (by omega) (fun hc7 => ?_) (fun hc7 => ?_)
              · refine ik_Wk 1 (pc' := 84) (loc' := [some (.ref 66), some (fI p), some (fI 1), some (fI what)]) (st' := [.ref 66]) (h' := h_983) (cl' := 0) (sl' := 0) rfl ?_
                refine fw_gf rfl rfl g_983_66 rfl ?_
                refine fw_l2 1000 rfl rfl (by decide) ?_
                refine fw_lmul rfl ?_
                refine ik_Wk 1 (pc' := 92) (loc' := [some (.ref 66), some (fI p), some (fI 1), some (fI what)]) (st' := [.ref 66, fJ (wa'_983 * 1000)]) (h' := h_983) (cl' := 0) (sl' := 0) rfl ?_
                refine fw_gf rfl rfl g_983_66 rfl ?_
                refine fx_ldo rfl (p_983_3 (by omega)) (fun qd8 => ?_)
                refine ik_Wk 1 (pc' := 132) (loc' := [some (.ref 66), some (fI p), some (fI 1), some (fI what)]) (st' := [fJ qd8]) (h' := h_983) (cl' := 0) (sl' := 0) rfl ?_
                refine fx_l2i rfl ?_
                exact ik_Wret rfl rfl ⟨_, _, rfl, rfl, rfl, rfl, ⟨w'_982, gt'_982, gd'_982, xs'_982, ys'_982, r1'_982, r2'_982, fr'_982, sb'_983, wa'_983, so'_983, sw'_983, ro'_983, cl'_983, qd8, rfl, g_983_77, m_982_77, g_983_78, m_982_78, g_983_79, m_982_79, g_983_80, m_982_80, g_983_81, m_982_81, g_983_82, m_982_82, g_983_66, g_983_70, g_983_83, m_982_83, g_983_84, m_983_84, g_983_85, m_983_85, g_983_86, m_983_86, g_983_87, m_983_87, p_983_0, p_983_1, fr_983⟩⟩
              · refine ik_Wk 2 (pc' := 101) (loc' := [some (.ref 66), some (fI p), some (fI 1), some (fI what)]) (st' := [fI 4, fI what]) (h' := h_983) (cl' := 0) (sl' := 0) rfl ?_
                refine fw_ic_ge rfl rfl (by omega) (by omega) (by omega) (by omega) (fun hc9 => ?_) (fun hc9 => ?_)
                · refine ik_Wk 1 (pc' := 116) (loc' := [some (.ref 66), some (fI p), some (fI 1), some (fI what)]) (st' := [.ref 66]) (h' := h_983) (cl' := 0) (sl' := 0) rfl ?_
                  refine fw_gf rfl rfl g_983_66 rfl ?_
                  refine ik_Wk 2 (pc' := 121) (loc' := [some (.ref 66), some (fI p), some (fI 1), some (fI what)]) (st' := [fI 4, fI what, .ref 85]) (h' := h_983) (cl' := 0) (sl' := 0) rfl ?_
                  refine fw_sub rfl ?_
                  refine fx_lal rfl g_983_85 (by omega) (by omega) (by omega) ?_
                  refine fw_l2 1000000 rfl rfl (by decide) ?_
                  refine fw_lmul rfl ?_
                  refine ik_Wk 1 (pc' := 128) (loc' := [some (.ref 66), some (fI p), some (fI 1), some (fI what)]) (st' := [.ref 66, fJ ((sw'_983.getD (what - 4).toNat 0) * 1000000)]) (h' := h_983) (cl' := 0) (sl' := 0) rfl ?_
                  refine fw_gf rfl rfl g_983_66 rfl ?_
                  refine fx_ldo rfl (p_983_3 (by omega)) (fun qd10 => ?_)
                  refine fx_l2i rfl ?_
                  exact ik_Wret rfl rfl ⟨_, _, rfl, rfl, rfl, rfl, ⟨w'_982, gt'_982, gd'_982, xs'_982, ys'_982, r1'_982, r2'_982, fr'_982, sb'_983, wa'_983, so'_983, sw'_983, ro'_983, cl'_983, qd10, rfl, g_983_77, m_982_77, g_983_78, m_982_78, g_983_79, m_982_79, g_983_80, m_982_80, g_983_81, m_982_81, g_983_82, m_982_82, g_983_66, g_983_70, g_983_83, m_982_83, g_983_84, m_983_84, g_983_85, m_983_85, g_983_86, m_983_86, g_983_87, m_983_87, p_983_0, p_983_1, fr_983⟩⟩
                · refine ik_Wk 1 (pc' := 105) (loc' := [some (.ref 66), some (fI p), some (fI 1), some (fI what)]) (st' := [.ref 66]) (h' := h_983) (cl' := 0) (sl' := 0) rfl ?_
                  refine fw_gf rfl rfl g_983_66 rfl ?_
                  refine ik_Wk 2 (pc' := 110) (loc' := [some (.ref 66), some (fI p), some (fI 1), some (fI what)]) (st' := [fI 1, fI what, .ref 84]) (h' := h_983) (cl' := 0) (sl' := 0) rfl ?_
                  refine fw_sub rfl ?_
                  refine fx_lal rfl g_983_84 (by omega) (by omega) (by omega) ?_
                  refine ik_Wk 1 (pc' := 123) (loc' := [some (.ref 66), some (fI p), some (fI 1), some (fI what)]) (st' := [fJ (so'_983.getD (what - 1).toNat 0)]) (h' := h_983) (cl' := 0) (sl' := 0) rfl ?_
                  refine fw_l2 1000000 rfl rfl (by decide) ?_
                  refine fw_lmul rfl ?_
                  refine ik_Wk 1 (pc' := 128) (loc' := [some (.ref 66), some (fI p), some (fI 1), some (fI what)]) (st' := [.ref 66, fJ ((so'_983.getD (what - 1).toNat 0) * 1000000)]) (h' := h_983) (cl' := 0) (sl' := 0) rfl ?_
                  refine fw_gf rfl rfl g_983_66 rfl ?_
                  refine fx_ldo rfl (p_983_3 (by omega)) (fun qd11 => ?_)
                  refine fx_l2i rfl ?_
                  exact ik_Wret rfl rfl ⟨_, _, rfl, rfl, rfl, rfl, ⟨w'_982, gt'_982, gd'_982, xs'_982, ys'_982, r1'_982, r2'_982, fr'_982, sb'_983, wa'_983, so'_983, sw'_983, ro'_983, cl'_983, qd11, rfl, g_983_77, m_982_77, g_983_78, m_982_78, g_983_79, m_982_79, g_983_80, m_982_80, g_983_81, m_982_81, g_983_82, m_982_82, g_983_66, g_983_70, g_983_83, m_982_83, g_983_84, m_983_84, g_983_85, m_983_85, g_983_86, m_983_86, g_983_87, m_983_87, p_983_0, p_983_1, fr_983⟩⟩
          · have k_981 := F_981.1.trans k_980
            have fr_981 := hfr_c fr_980 F_981 (by decide)
            have g_981_66 := (F_981.2 66 (by decide +kernel)).trans g_980_66
            have g_981_67 := (F_981.2 67 (by decide +kernel)).trans g_980_67
            have g_981_68 := (F_981.2 68 (by decide +kernel)).trans g_980_68
            have g_981_69 := (F_981.2 69 (by decide +kernel)).trans g_980_69
            have g_981_77 := (F_981.2 77 (by decide +kernel)).trans g_980_77
            have g_981_78 := (F_981.2 78 (by decide +kernel)).trans g_980_78
            have g_981_79 := (F_981.2 79 (by decide +kernel)).trans g_980_79
            have g_981_80 := (F_981.2 80 (by decide +kernel)).trans g_980_80
            have g_981_70 := (F_981.2 70 (by decide +kernel)).trans g_980_70
            have g_981_81 := (F_981.2 81 (by decide +kernel)).trans g_980_81
            have g_981_82 := (F_981.2 82 (by decide +kernel)).trans g_980_82
            have g_981_83 := (F_981.2 83 (by decide +kernel)).trans g_980_83
            have g_981_84 := (F_981.2 84 (by decide +kernel)).trans g_980_84
            have g_981_85 := (F_981.2 85 (by decide +kernel)).trans g_980_85
            have g_981_86 := (F_981.2 86 (by decide +kernel)).trans g_980_86
            have g_981_87 := (F_981.2 87 (by decide +kernel)).trans g_980_87
            refine ik_Wk 0 (pc' := 56) (loc' := [some (.ref 66), some (fI p), some (fI 1), some (fI what)]) (st' := [fI 0]) (h' := h_981) (cl' := 0) (sl' := 0) rfl ?_
            refine fw_if_ne rfl rfl (by omega) (by omega) (fun hc12 => ?_) (fun hc12 => absurd hc12 (by omega))
            refine fw_ld (-1000000002) rfl rfl (by decide) ?_
            exact ik_Wret rfl rfl ⟨_, _, rfl, rfl, rfl, rfl, ⟨(f 24), gt, gd, xs, ys, r1, r2, fr, (f 32), (f 33), so, sw, ro, cl, (-1000000002), rfl, g_981_77, n77, g_981_78, n78, g_981_79, n79, g_981_80, n80, g_981_81, n81, g_981_82, n82, g_981_66, g_981_70, g_981_83, n83, g_981_84, n84, g_981_85, n85, g_981_86, n86, g_981_87, n87, q7, q8, fr_981⟩⟩
        · have k_980 := F_980.1.trans k_979
          have fr_980 := hfr_c fr_979 F_980 (by decide)
          have g_980_66 := (F_980.2 66 (by decide +kernel)).trans g_979_66
          have g_980_67 := (F_980.2 67 (by decide +kernel)).trans g_979_67
          have g_980_68 := (F_980.2 68 (by decide +kernel)).trans g_979_68
          have g_980_69 := (F_980.2 69 (by decide +kernel)).trans g_979_69
          have g_980_77 := (F_980.2 77 (by decide +kernel)).trans g_979_77
          have g_980_78 := (F_980.2 78 (by decide +kernel)).trans g_979_78
          have g_980_79 := (F_980.2 79 (by decide +kernel)).trans g_979_79
          have g_980_80 := (F_980.2 80 (by decide +kernel)).trans g_979_80
          have g_980_70 := (F_980.2 70 (by decide +kernel)).trans g_979_70
          have g_980_81 := (F_980.2 81 (by decide +kernel)).trans g_979_81
          have g_980_82 := (F_980.2 82 (by decide +kernel)).trans g_979_82
          have g_980_83 := (F_980.2 83 (by decide +kernel)).trans g_979_83
          have g_980_84 := (F_980.2 84 (by decide +kernel)).trans g_979_84
          have g_980_85 := (F_980.2 85 (by decide +kernel)).trans g_979_85
          have g_980_86 := (F_980.2 86 (by decide +kernel)).trans g_979_86
          have g_980_87 := (F_980.2 87 (by decide +kernel)).trans g_979_87
          omega
      · have k_979 := F_979.1.trans k_978
        have fr_979 := hfr_c fr_978 F_979 (by decide)
        have g_979_66 := (F_979.2 66 (by decide +kernel)).trans g_978_66
        have g_979_67 := (F_979.2 67 (by decide +kernel)).trans g_978_67
        have g_979_68 := (F_979.2 68 (by decide +kernel)).trans g_978_68
        have g_979_69 := (F_979.2 69 (by decide +kernel)).trans g_978_69
        have g_979_77 := (F_979.2 77 (by decide +kernel)).trans g_978_77
        have g_979_78 := (F_979.2 78 (by decide +kernel)).trans g_978_78
        have g_979_79 := (F_979.2 79 (by decide +kernel)).trans g_978_79
        have g_979_80 := (F_979.2 80 (by decide +kernel)).trans g_978_80
        have g_979_70 := (F_979.2 70 (by decide +kernel)).trans g_978_70
        have g_979_81 := (F_979.2 81 (by decide +kernel)).trans g_978_81
        have g_979_82 := (F_979.2 82 (by decide +kernel)).trans g_978_82
        have g_979_83 := (F_979.2 83 (by decide +kernel)).trans g_978_83
        have g_979_84 := (F_979.2 84 (by decide +kernel)).trans g_978_84
        have g_979_85 := (F_979.2 85 (by decide +kernel)).trans g_978_85
        have g_979_86 := (F_979.2 86 (by decide +kernel)).trans g_978_86
        have g_979_87 := (F_979.2 87 (by decide +kernel)).trans g_978_87
        refine ik_Wk 0 (pc' := 13) (loc' := [some (.ref 66), some (fI ((p + 1) - 1))]) (st' := [fI 0]) (h' := h_979) (cl' := 0) (sl' := 0) rfl ?_
        refine ik_Wret rfl rfl ⟨_, _, rfl, rfl, ?_⟩
        refine ik_Wk 0 (pc' := 29) (loc' := [some (.ref 66), some (fI p), some (fI 1), some (fI what)]) (st' := [fI 0]) (h' := h_979) (cl' := 0) (sl' := 0) rfl ?_
        refine fw_if_ne rfl rfl (by omega) (by omega) (fun hc13 => ?_) (fun hc13 => absurd hc13 (by omega))
        refine fw_ld (-1000000001) rfl rfl (by decide) ?_
        exact ik_Wret rfl rfl ⟨_, _, rfl, rfl, rfl, rfl, ⟨(f 24), gt, gd, xs, ys, r1, r2, fr, (f 32), (f 33), so, sw, ro, cl, (-1000000001), rfl, g_979_77, n77, g_979_78, n78, g_979_79, n79, g_979_80, n80, g_979_81, n81, g_979_82, n82, g_979_66, g_979_70, g_979_83, n83, g_979_84, n84, g_979_85, n85, g_979_86, n86, g_979_87, n87, q7, q8, fr_979⟩⟩
    · have k_978 := F_978.1.trans k_977
      have fr_978 := hfr_c fr_977 F_978 (by decide)
      have g_978_66 := (F_978.2 66 (by decide +kernel)).trans g_977_66
      have g_978_67 := (F_978.2 67 (by decide +kernel)).trans g_977_67
      have g_978_68 := (F_978.2 68 (by decide +kernel)).trans g_977_68
      have g_978_69 := (F_978.2 69 (by decide +kernel)).trans g_977_69
      have g_978_77 := (F_978.2 77 (by decide +kernel)).trans g_977_77
      have g_978_78 := (F_978.2 78 (by decide +kernel)).trans g_977_78
      have g_978_79 := (F_978.2 79 (by decide +kernel)).trans g_977_79
      have g_978_80 := (F_978.2 80 (by decide +kernel)).trans g_977_80
      have g_978_70 := (F_978.2 70 (by decide +kernel)).trans g_977_70
      have g_978_81 := (F_978.2 81 (by decide +kernel)).trans g_977_81
      have g_978_82 := (F_978.2 82 (by decide +kernel)).trans g_977_82
      have g_978_83 := (F_978.2 83 (by decide +kernel)).trans g_977_83
      have g_978_84 := (F_978.2 84 (by decide +kernel)).trans g_977_84
      have g_978_85 := (F_978.2 85 (by decide +kernel)).trans g_977_85
      have g_978_86 := (F_978.2 86 (by decide +kernel)).trans g_977_86
      have g_978_87 := (F_978.2 87 (by decide +kernel)).trans g_977_87
      omega
  · have k_977 := F_977.1.trans hl
    have fr_977 := hfr_c (hfr_refl [66, 77, 78, 79, 80, 81, 82, 70, 83, 84, 85, 86, 87] h) F_977 (by decide)
    have g_977_66 := (F_977.2 66 (by decide +kernel)).trans h66
    have g_977_67 := (F_977.2 67 (by decide +kernel)).trans h67
    have g_977_68 := (F_977.2 68 (by decide +kernel)).trans h68
    have g_977_69 := (F_977.2 69 (by decide +kernel)).trans h69
    have g_977_77 := (F_977.2 77 (by decide +kernel)).trans h77
    have g_977_78 := (F_977.2 78 (by decide +kernel)).trans h78
    have g_977_79 := (F_977.2 79 (by decide +kernel)).trans h79
    have g_977_80 := (F_977.2 80 (by decide +kernel)).trans h80
    have g_977_70 := (F_977.2 70 (by decide +kernel)).trans h70
    have g_977_81 := (F_977.2 81 (by decide +kernel)).trans h81
    have g_977_82 := (F_977.2 82 (by decide +kernel)).trans h82
    have g_977_83 := (F_977.2 83 (by decide +kernel)).trans h83
    have g_977_84 := (F_977.2 84 (by decide +kernel)).trans h84
    have g_977_85 := (F_977.2 85 (by decide +kernel)).trans h85
    have g_977_86 := (F_977.2 86 (by decide +kernel)).trans h86
    have g_977_87 := (F_977.2 87 (by decide +kernel)).trans h87
    refine ik_Wk 0 (pc' := 13) (loc' := [some (.ref 66), some (fI p)]) (st' := [fI 0]) (h' := h_977) (cl' := 0) (sl' := 0) rfl ?_
    refine ik_Wret rfl rfl ⟨_, _, rfl, rfl, ?_⟩
    refine ik_Wk 0 (pc' := 5) (loc' := [some (.ref 66), some (fI p), some (fI 1), some (fI what)]) (st' := [fI 0]) (h' := h_977) (cl' := 0) (sl' := 0) rfl ?_
    refine fw_if_eq rfl rfl (by omega) (by omega) (fun hc14 => ?_) (fun hc14 => absurd hc14 (by omega))
    refine fw_ld (-1000000001) rfl rfl (by decide) ?_
    exact ik_Wret rfl rfl ⟨_, _, rfl, rfl, rfl, rfl, ⟨(f 24), gt, gd, xs, ys, r1, r2, fr, (f 32), (f 33), so, sw, ro, cl, (-1000000001), rfl, g_977_77, n77, g_977_78, n78, g_977_79, n79, g_977_80, n80, g_977_81, n81, g_977_82, n82, g_977_66, g_977_70, g_977_83, n83, g_977_84, n84, g_977_85, n85, g_977_86, n86, g_977_87, n87, q7, q8, fr_977⟩⟩
end
