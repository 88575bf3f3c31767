theorem cz_rw0E {c0 : ik_E} {tl : List ik_E} {y : Int → Int} {T : List Int} {n fl fb pl : Int} {C G P B : List Int} (ok : cz_ok y T n tl) {cur e : Int} (h0 : 0 ≤ cur) (h1 : cur ≤ e) (h2 : e ≤ n) (he : zE y n cur = e) : ik_G 64 41 [some (.ref 1), some (.retAddr 1), some (fI e), none] [] (c0 :: cz_t T n cur fl fb pl C G P B tl) (fun rv h' => (zbr y n cur = true ∧ rv = [fI 1] ∧ h' = (c0 :: cz_t T n (cur + 6) fl fb pl C G P B tl)) ∨ (zbr y n cur = false ∧ rv = [fI 0] ∧ h' = (c0 :: cz_t T n cur fl fb pl C G P B tl))) := by
  have ok' := ok
  obtain ⟨htl, hT, bT, hn, hn2, hy⟩ := ok'
  have q0 : y (cur + 0) = y cur := congrArg y (Int.add_zero cur)
  refine ik_Wk 2 (pc' := 43) (loc' := [some (.ref 1), some (.retAddr 1), some (fI e), none]) (st' := [.ref 1, fI e]) (h' := (c0 :: cz_t T n cur fl fb pl C G P B tl)) (cl' := 0) (sl' := 0) rfl ?_
  refine fw_gf rfl rfl rfl rfl ?_
  refine fw_sub rfl ?_
  refine ik_Wk 1 (pc' := 48) (loc' := [some (.ref 1), some (.retAddr 1), some (fI e), none]) (st' := [.retAddr 1, fI (e - cur)]) (h' := (c0 :: cz_t T n cur fl fb pl C G P B tl)) (cl' := 0) (sl' := 0) rfl ?_
  refine fw_call 212 1 0 [.retAddr 1] [fI (e - cur)] rfl rfl rfl (by decide) rfl rfl (fw_str (cz_len htl) rfl (by decide) (by decide) rfl) (cs_len0 _) ?_
  rintro rv h' ⟨rfl, rfl⟩
  refine ik_Wk 0 (pc' := 51) (loc' := [some (.ref 1), some (.retAddr 1), some (fI e), none]) (st' := [fI 6, fI (e - cur)]) (h' := (c0 :: cz_t T n cur fl fb pl C G P B tl)) (cl' := 0) (sl' := 0) rfl ?_
  refine fw_ic_eq rfl rfl (by omega) (by omega) (by omega) (by omega) (fun hc1 => ?_) (fun hc1 => ?_)
  · refine ik_Wk 4 (pc' := 60) (loc' := [some (.ref 1), some (.retAddr 1), some (fI e), some (fI 0)]) (st' := [.retAddr 1, fI 0]) (h' := (c0 :: cz_t T n cur fl fb pl C G P B tl)) (cl' := 0) (sl' := 0) rfl ?_
    refine fw_call 212 1 0 [.retAddr 1] [fI 0] rfl rfl rfl (by decide) rfl rfl (fw_str (cz_len htl) rfl (by decide) (by decide) rfl) (cs_len0 _) ?_
    rintro rv h' ⟨rfl, rfl⟩
    refine ik_Wk 0 (pc' := 63) (loc' := [some (.ref 1), some (.retAddr 1), some (fI e), some (fI 0)]) (st' := [fI 6, fI 0]) (h' := (c0 :: cz_t T n cur fl fb pl C G P B tl)) (cl' := 0) (sl' := 0) rfl ?_
    refine fw_ic_ge rfl rfl (by omega) (by omega) (by omega) (by omega) (fun hc2 => absurd hc2 (by omega)) (fun hc2 => ?_)
    refine ik_Wk 1 (pc' := 67) (loc' := [some (.ref 1), some (.retAddr 1), some (fI e), some (fI 0)]) (st' := [.ref 1]) (h' := (c0 :: cz_t T n cur fl fb pl C G P B tl)) (cl' := 0) (sl' := 0) rfl ?_
    refine fw_gf rfl rfl rfl rfl ?_
    refine ik_Wk 1 (pc' := 71) (loc' := [some (.ref 1), some (.retAddr 1), some (fI e), some (fI 0)]) (st' := [.ref 1, .ref 2]) (h' := (c0 :: cz_t T n cur fl fb pl C G P B tl)) (cl' := 0) (sl' := 0) rfl ?_
    refine fw_gf rfl rfl rfl rfl ?_
    refine ik_Wk 1 (pc' := 75) (loc' := [some (.ref 1), some (.retAddr 1), some (fI e), some (fI 0)]) (st' := [fI 0, fI cur, .ref 2]) (h' := (c0 :: cz_t T n cur fl fb pl C G P B tl)) (cl' := 0) (sl' := 0) rfl ?_
    refine fw_add rfl ?_
    refine fw_bal rfl rfl (by omega) (by omega) (by omega) ?_
    have hb3 := bT (cur + 0) (by omega) (by omega)
    have hb4 := hy (cur + 0) (by omega) (by omega)
    refine ik_Wk 2 (pc' := 79) (loc' := [some (.ref 1), some (.retAddr 1), some (fI e), some (fI 0)]) (st' := [fI 0, .retAddr 1, fI (T.getD (cur + 0).toNat 0)]) (h' := (c0 :: cz_t T n cur fl fb pl C G P B tl)) (cl' := 0) (sl' := 0) rfl ?_
    refine fw_call 213 2 0 [.retAddr 1, fI 0] [fI (T.getD (cur + 0).toNat 0)] rfl rfl rfl (by decide) rfl rfl (fw_str (cz_len htl) rfl (by decide) (by decide) rfl) (cs_ch0_0 _) ?_
    rintro rv h' ⟨rfl, rfl⟩
    refine ik_Wk 0 (pc' := 82) (loc' := [some (.ref 1), some (.retAddr 1), some (fI e), some (fI 0)]) (st' := [fI 98, fI (T.getD (cur + 0).toNat 0)]) (h' := (c0 :: cz_t T n cur fl fb pl C G P B tl)) (cl' := 0) (sl' := 0) rfl ?_
    refine fw_ic_eq rfl rfl (by omega) (by omega) (by omega) (by omega) (fun hc5 => ?_) (fun hc5 => ?_)
    · refine fw_inc (a := 0) (loc' := [some (.ref 1), some (.retAddr 1), some (fI e), some (fI 1)]) rfl rfl (Nat.le_of_ble_eq_true rfl) rfl ?_
      refine ik_Wk 3 (pc' := 60) (loc' := [some (.ref 1), some (.retAddr 1), some (fI e), some (fI 1)]) (st' := [.retAddr 1, fI 1]) (h' := (c0 :: cz_t T n cur fl fb pl C G P B tl)) (cl' := 0) (sl' := 0) rfl ?_
      refine fw_call 212 1 0 [.retAddr 1] [fI 1] rfl rfl rfl (by decide) rfl rfl (fw_str (cz_len htl) rfl (by decide) (by decide) rfl) (cs_len0 _) ?_
      rintro rv h' ⟨rfl, rfl⟩
      refine ik_Wk 0 (pc' := 63) (loc' := [some (.ref 1), some (.retAddr 1), some (fI e), some (fI 1)]) (st' := [fI 6, fI 1]) (h' := (c0 :: cz_t T n cur fl fb pl C G P B tl)) (cl' := 0) (sl' := 0) rfl ?_
      refine fw_ic_ge rfl rfl (by omega) (by omega) (by omega) (by omega) (fun hc6 => absurd hc6 (by omega)) (fun hc6 => ?_)
      refine ik_Wk 1 (pc' := 67) (loc' := [some (.ref 1), some (.retAddr 1), some (fI e), some (fI 1)]) (st' := [.ref 1]) (h' := (c0 :: cz_t T n cur fl fb pl C G P B tl)) (cl' := 0) (sl' := 0) rfl ?_
      refine fw_gf rfl rfl rfl rfl ?_
      refine ik_Wk 1 (pc' := 71) (loc' := [some (.ref 1), some (.retAddr 1), some (fI e), some (fI 1)]) (st' := [.ref 1, .ref 2]) (h' := (c0 :: cz_t T n cur fl fb pl C G P B tl)) (cl' := 0) (sl' := 0) rfl ?_
      refine fw_gf rfl rfl rfl rfl ?_
      refine ik_Wk 1 (pc' := 75) (loc' := [some (.ref 1), some (.retAddr 1), some (fI e), some (fI 1)]) (st' := [fI 1, fI cur, .ref 2]) (h' := (c0 :: cz_t T n cur fl fb pl C G P B tl)) (cl' := 0) (sl' := 0) rfl ?_
      refine fw_add rfl ?_
      refine fw_bal rfl rfl (by omega) (by omega) (by omega) ?_
      have hb7 := bT (cur + 1) (by omega) (by omega)
      have hb8 := hy (cur + 1) (by omega) (by omega)
      refine ik_Wk 2 (pc' := 79) (loc' := [some (.ref 1), some (.retAddr 1), some (fI e), some (fI 1)]) (st' := [fI 1, .retAddr 1, fI (T.getD (cur + 1).toNat 0)]) (h' := (c0 :: cz_t T n cur fl fb pl C G P B tl)) (cl' := 0) (sl' := 0) rfl ?_
      refine fw_call 213 2 0 [.retAddr 1, fI 1] [fI (T.getD (cur + 1).toNat 0)] rfl rfl rfl (by decide) rfl rfl (fw_str (cz_len htl) rfl (by decide) (by decide) rfl) (cs_ch0_1 _) ?_
      rintro rv h' ⟨rfl, rfl⟩
      refine ik_Wk 0 (pc' := 82) (loc' := [some (.ref 1), some (.retAddr 1), some (fI e), some (fI 1)]) (st' := [fI 114, fI (T.getD (cur + 1).toNat 0)]) (h' := (c0 :: cz_t T n cur fl fb pl C G P B tl)) (cl' := 0) (sl' := 0) rfl ?_
      refine fw_ic_eq rfl rfl (by omega) (by omega) (by omega) (by omega) (fun hc9 => ?_) (fun hc9 => ?_)
      · refine fw_inc (a := 1) (loc' := [some (.ref 1), some (.retAddr 1), some (fI e), some (fI 2)]) rfl rfl (Nat.le_of_ble_eq_true rfl) rfl ?_
        refine ik_Wk 3 (pc' := 60) (loc' := [some (.ref 1), some (.retAddr 1), some (fI e), some (fI 2)]) (st' := [.retAddr 1, fI 2]) (h' := (c0 :: cz_t T n cur fl fb pl C G P B tl)) (cl' := 0) (sl' := 0) rfl ?_
        refine fw_call 212 1 0 [.retAddr 1] [fI 2] rfl rfl rfl (by decide) rfl rfl (fw_str (cz_len htl) rfl (by decide) (by decide) rfl) (cs_len0 _) ?_
        rintro rv h' ⟨rfl, rfl⟩
        refine ik_Wk 0 (pc' := 63) (loc' := [some (.ref 1), some (.retAddr 1), some (fI e), some (fI 2)]) (st' := [fI 6, fI 2]) (h' := (c0 :: cz_t T n cur fl fb pl C G P B tl)) (cl' := 0) (sl' := 0) rfl ?_
        refine fw_ic_ge rfl rfl (by omega) (by omega) (by omega) (by omega) (fun hc10 => absurd hc10 (by omega)) (fun hc10 => ?_)
        refine ik_Wk 1 (pc' := 67) (loc' := [some (.ref 1), some (.retAddr 1), some (fI e), some (fI 2)]) (st' := [.ref 1]) (h' := (c0 :: cz_t T n cur fl fb pl C G P B tl)) (cl' := 0) (sl' := 0) rfl ?_
        refine fw_gf rfl rfl rfl rfl ?_
        refine ik_Wk 1 (pc' := 71) (loc' := [some (.ref 1), some (.retAddr 1), some (fI e), some (fI 2)]) (st' := [.ref 1, .ref 2]) (h' := (c0 :: cz_t T n cur fl fb pl C G P B tl)) (cl' := 0) (sl' := 0) rfl ?_
        refine fw_gf rfl rfl rfl rfl ?_
        refine ik_Wk 1 (pc' := 75) (loc' := [some (.ref 1), some (.retAddr 1), some (fI e), some (fI 2)]) (st' := [fI 2, fI cur, .ref 2]) (h' := (c0 :: cz_t T n cur fl fb pl C G P B tl)) (cl' := 0) (sl' := 0) rfl ?_
        refine fw_add rfl ?_
        refine fw_bal rfl rfl (by omega) (by omega) (by omega) ?_
        have hb11 := bT (cur + 2) (by omega) (by omega)
        have hb12 := hy (cur + 2) (by omega) (by omega)
        refine ik_Wk 2 (pc' := 79) (loc' := [some (.ref 1), some (.retAddr 1), some (fI e), some (fI 2)]) (st' := [fI 2, .retAddr 1, fI (T.getD (cur + 2).toNat 0)]) (h' := (c0 :: cz_t T n cur fl fb pl C G P B tl)) (cl' := 0) (sl' := 0) rfl ?_
        refine fw_call 213 2 0 [.retAddr 1, fI 2] [fI (T.getD (cur + 2).toNat 0)] rfl rfl rfl (by decide) rfl rfl (fw_str (cz_len htl) rfl (by decide) (by decide) rfl) (cs_ch0_2 _) ?_
        rintro rv h' ⟨rfl, rfl⟩
        refine ik_Wk 0 (pc' := 82) (loc' := [some (.ref 1), some (.retAddr 1), some (fI e), some (fI 2)]) (st' := [fI 105, fI (T.getD (cur + 2).toNat 0)]) (h' := (c0 :: cz_t T n cur fl fb pl C G P B tl)) (cl' := 0) (sl' := 0) rfl ?_
        refine fw_ic_eq rfl rfl (by omega) (by omega) (by omega) (by omega) (fun hc13 => ?_) (fun hc13 => ?_)
        · refine fw_inc (a := 2) (loc' := [some (.ref 1), some (.retAddr 1), some (fI e), some (fI 3)]) rfl rfl (Nat.le_of_ble_eq_true rfl) rfl ?_
          refine ik_Wk 3 (pc' := 60) (loc' := [some (.ref 1), some (.retAddr 1), some (fI e), some (fI 3)]) (st' := [.retAddr 1, fI 3]) (h' := (c0 :: cz_t T n cur fl fb pl C G P B tl)) (cl' := 0) (sl' := 0) rfl ?_
          refine fw_call 212 1 0 [.retAddr 1] [fI 3] rfl rfl rfl (by decide) rfl rfl (fw_str (cz_len htl) rfl (by decide) (by decide) rfl) (cs_len0 _) ?_
          rintro rv h' ⟨rfl, rfl⟩
          refine ik_Wk 0 (pc' := 63) (loc' := [some (.ref 1), some (.retAddr 1), some (fI e), some (fI 3)]) (st' := [fI 6, fI 3]) (h' := (c0 :: cz_t T n cur fl fb pl C G P B tl)) (cl' := 0) (sl' := 0) rfl ?_
          refine fw_ic_ge rfl rfl (by omega) (by omega) (by omega) (by omega) (fun hc14 => absurd hc14 (by omega)) (fun hc14 => ?_)
          refine ik_Wk 1 (pc' := 67) (loc' := [some (.ref 1), some (.retAddr 1), some (fI e), some (fI 3)]) (st' := [.ref 1]) (h' := (c0 :: cz_t T n cur fl fb pl C G P B tl)) (cl' := 0) (sl' := 0) rfl ?_
          refine fw_gf rfl rfl rfl rfl ?_
          refine ik_Wk 1 (pc' := 71) (loc' := [some (.ref 1), some (.retAddr 1), some (fI e), some (fI 3)]) (st' := [.ref 1, .ref 2]) (h' := (c0 :: cz_t T n cur fl fb pl C G P B tl)) (cl' := 0) (sl' := 0) rfl ?_
          refine fw_gf rfl rfl rfl rfl ?_
          refine ik_Wk 1 (pc' := 75) (loc' := [some (.ref 1), some (.retAddr 1), some (fI e), some (fI 3)]) (st' := [fI 3, fI cur, .ref 2]) (h' := (c0 :: cz_t T n cur fl fb pl C G P B tl)) (cl' := 0) (sl' := 0) rfl ?_
          refine fw_add rfl ?_
          refine fw_bal rfl rfl (by omega) (by omega) (by omega) ?_
          have hb15 := bT (cur + 3) (by omega) (by omega)
          have hb16 := hy (cur + 3) (by omega) (by omega)
          refine ik_Wk 2 (pc' := 79) (loc' := [some (.ref 1), some (.retAddr 1), some (fI e), some (fI 3)]) (st' := [fI 3, .retAddr 1, fI (T.getD (cur + 3).toNat 0)]) (h' := (c0 :: cz_t T n cur fl fb pl C G P B tl)) (cl' := 0) (sl' := 0) rfl ?_
          refine fw_call 213 2 0 [.retAddr 1, fI 3] [fI (T.getD (cur + 3).toNat 0)] rfl rfl rfl (by decide) rfl rfl (fw_str (cz_len htl) rfl (by decide) (by decide) rfl) (cs_ch0_3 _) ?_
          rintro rv h' ⟨rfl, rfl⟩
          refine ik_Wk 0 (pc' := 82) (loc' := [some (.ref 1), some (.retAddr 1), some (fI e), some (fI 3)]) (st' := [fI 100, fI (T.getD (cur + 3).toNat 0)]) (h' := (c0 :: cz_t T n cur fl fb pl C G P B tl)) (cl' := 0) (sl' := 0) rfl ?_
          refine fw_ic_eq rfl rfl (by omega) (by omega) (by omega) (by omega) (fun hc17 => ?_) (fun hc17 => ?_)
          · refine fw_inc (a := 3) (loc' := [some (.ref 1), some (.retAddr 1), some (fI e), some (fI 4)]) rfl rfl (Nat.le_of_ble_eq_true rfl) rfl ?_
            refine ik_Wk 3 (pc' := 60) (loc' := [some (.ref 1), some (.retAddr 1), some (fI e), some (fI 4)]) (st' := [.retAddr 1, fI 4]) (h' := (c0 :: cz_t T n cur fl fb pl C G P B tl)) (cl' := 0) (sl' := 0) rfl ?_
            refine fw_call 212 1 0 [.retAddr 1] [fI 4] rfl rfl rfl (by decide) rfl rfl (fw_str (cz_len htl) rfl (by decide) (by decide) rfl) (cs_len0 _) ?_
            rintro rv h' ⟨rfl, rfl⟩
            refine ik_Wk 0 (pc' := 63) (loc' := [some (.ref 1), some (.retAddr 1), some (fI e), some (fI 4)]) (st' := [fI 6, fI 4]) (h' := (c0 :: cz_t T n cur fl fb pl C G P B tl)) (cl' := 0) (sl' := 0) rfl ?_
            refine fw_ic_ge rfl rfl (by omega) (by omega) (by omega) (by omega) (fun hc18 => absurd hc18 (by omega)) (fun hc18 => ?_)
            refine ik_Wk 1 (pc' := 67) (loc' := [some (.ref 1), some (.retAddr 1), some (fI e), some (fI 4)]) (st' := [.ref 1]) (h' := (c0 :: cz_t T n cur fl fb pl C G P B tl)) (cl' := 0) (sl' := 0) rfl ?_
            refine fw_gf rfl rfl rfl rfl ?_
            refine ik_Wk 1 (pc' := 71) (loc' := [some (.ref 1), some (.retAddr 1), some (fI e), some (fI 4)]) (st' := [.ref 1, .ref 2]) (h' := (c0 :: cz_t T n cur fl fb pl C G P B tl)) (cl' := 0) (sl' := 0) rfl ?_
            refine fw_gf rfl rfl rfl rfl ?_
            refine ik_Wk 1 (pc' := 75) (loc' := [some (.ref 1), some (.retAddr 1), some (fI e), some (fI 4)]) (st' := [fI 4, fI cur, .ref 2]) (h' := (c0 :: cz_t T n cur fl fb pl C G P B tl)) (cl' := 0) (sl' := 0) rfl ?_
            refine fw_add rfl ?_
            refine fw_bal rfl rfl (by omega) (by omega) (by omega) ?_
            have hb19 := bT (cur + 4) (by omega) (by omega)
            have hb20 := hy (cur + 4) (by omega) (by omega)
            refine ik_Wk 2 (pc' := 79) (loc' := [some (.ref 1), some (.retAddr 1), some (fI e), some (fI 4)]) (st' := [fI 4, .retAddr 1, fI (T.getD (cur + 4).toNat 0)]) (h' := (c0 :: cz_t T n cur fl fb pl C G P B tl)) (cl' := 0) (sl' := 0) rfl ?_
            refine fw_call 213 2 0 [.retAddr 1, fI 4] [fI (T.getD (cur + 4).toNat 0)] rfl rfl rfl (by decide) rfl rfl (fw_str (cz_len htl) rfl (by decide) (by decide) rfl) (cs_ch0_4 _) ?_
            rintro rv h' ⟨rfl, rfl⟩
            refine ik_Wk 0 (pc' := 82) (loc' := [some (.ref 1), some (.retAddr 1), some (fI e), some (fI 4)]) (st' := [fI 103, fI (T.getD (cur + 4).toNat 0)]) (h' := (c0 :: cz_t T n cur fl fb pl C G P B tl)) (cl' := 0) (sl' := 0) rfl ?_
            refine fw_ic_eq rfl rfl (by omega) (by omega) (by omega) (by omega) (fun hc21 => ?_) (fun hc21 => ?_)
            · refine fw_inc (a := 4) (loc' := [some (.ref 1), some (.retAddr 1), some (fI e), some (fI 5)]) rfl rfl (Nat.le_of_ble_eq_true rfl) rfl ?_
              refine ik_Wk 3 (pc' := 60) (loc' := [some (.ref 1), some (.retAddr 1), some (fI e), some (fI 5)]) (st' := [.retAddr 1, fI 5]) (h' := (c0 :: cz_t T n cur fl fb pl C G P B tl)) (cl' := 0) (sl' := 0) rfl ?_
              refine fw_call 212 1 0 [.retAddr 1] [fI 5] rfl rfl rfl (by decide) rfl rfl (fw_str (cz_len htl) rfl (by decide) (by decide) rfl) (cs_len0 _) ?_
              rintro rv h' ⟨rfl, rfl⟩
              refine ik_Wk 0 (pc' := 63) (loc' := [some (.ref 1), some (.retAddr 1), some (fI e), some (fI 5)]) (st' := [fI 6, fI 5]) (h' := (c0 :: cz_t T n cur fl fb pl C G P B tl)) (cl' := 0) (sl' := 0) rfl ?_
              refine fw_ic_ge rfl rfl (by omega) (by omega) (by omega) (by omega) (fun hc22 => absurd hc22 (by omega)) (fun hc22 => ?_)
              refine ik_Wk 1 (pc' := 67) (loc' := [some (.ref 1), some (.retAddr 1), some (fI e), some (fI 5)]) (st' := [.ref 1]) (h' := (c0 :: cz_t T n cur fl fb pl C G P B tl)) (cl' := 0) (sl' := 0) rfl ?_
              refine fw_gf rfl rfl rfl rfl ?_
              refine ik_Wk 1 (pc' := 71) (loc' := [some (.ref 1), some (.retAddr 1), some (fI e), some (fI 5)]) (st' := [.ref 1, .ref 2]) (h' := (c0 :: cz_t T n cur fl fb pl C G P B tl)) (cl' := 0) (sl' := 0) rfl ?_
              refine fw_gf rfl rfl rfl rfl ?_
              refine ik_Wk 1 (pc' := 75) (loc' := [some (.ref 1), some (.retAddr 1), some (fI e), some (fI 5)]) (st' := [fI 5, fI cur, .ref 2]) (h' := (c0 :: cz_t T n cur fl fb pl C G P B tl)) (cl' := 0) (sl' := 0) rfl ?_
              refine fw_add rfl ?_
              refine fw_bal rfl rfl (by omega) (by omega) (by omega) ?_
              have hb23 := bT (cur + 5) (by omega) (by omega)
              have hb24 := hy (cur + 5) (by omega) (by omega)
              refine ik_Wk 2 (pc' := 79) (loc' := [some (.ref 1), some (.retAddr 1), some (fI e), some (fI 5)]) (st' := [fI 5, .retAddr 1, fI (T.getD (cur + 5).toNat 0)]) (h' := (c0 :: cz_t T n cur fl fb pl C G P B tl)) (cl' := 0) (sl' := 0) rfl ?_
              refine fw_call 213 2 0 [.retAddr 1, fI 5] [fI (T.getD (cur + 5).toNat 0)] rfl rfl rfl (by decide) rfl rfl (fw_str (cz_len htl) rfl (by decide) (by decide) rfl) (cs_ch0_5 _) ?_
              rintro rv h' ⟨rfl, rfl⟩
              refine ik_Wk 0 (pc' := 82) (loc' := [some (.ref 1), some (.retAddr 1), some (fI e), some (fI 5)]) (st' := [fI 101, fI (T.getD (cur + 5).toNat 0)]) (h' := (c0 :: cz_t T n cur fl fb pl C G P B tl)) (cl' := 0) (sl' := 0) rfl ?_
              refine fw_ic_eq rfl rfl (by omega) (by omega) (by omega) (by omega) (fun hc25 => ?_) (fun hc25 => ?_)
              · refine fw_inc (a := 5) (loc' := [some (.ref 1), some (.retAddr 1), some (fI e), some (fI 6)]) rfl rfl (Nat.le_of_ble_eq_true rfl) rfl ?_
                refine ik_Wk 3 (pc' := 60) (loc' := [some (.ref 1), some (.retAddr 1), some (fI e), some (fI 6)]) (st' := [.retAddr 1, fI 6]) (h' := (c0 :: cz_t T n cur fl fb pl C G P B tl)) (cl' := 0) (sl' := 0) rfl ?_
                refine fw_call 212 1 0 [.retAddr 1] [fI 6] rfl rfl rfl (by decide) rfl rfl (fw_str (cz_len htl) rfl (by decide) (by decide) rfl) (cs_len0 _) ?_
                rintro rv h' ⟨rfl, rfl⟩
                refine ik_Wk 0 (pc' := 63) (loc' := [some (.ref 1), some (.retAddr 1), some (fI e), some (fI 6)]) (st' := [fI 6, fI 6]) (h' := (c0 :: cz_t T n cur fl fb pl C G P B tl)) (cl' := 0) (sl' := 0) rfl ?_
                refine fw_ic_ge rfl rfl (by omega) (by omega) (by omega) (by omega) (fun hc26 => ?_) (fun hc26 => absurd hc26 (by omega))
                refine ik_Wk 2 (pc' := 95) (loc' := [some (.ref 1), some (.retAddr 1), some (fI e), some (fI 6)]) (st' := [fI e, .ref 1]) (h' := (c0 :: cz_t T n cur fl fb pl C G P B tl)) (cl' := 0) (sl' := 0) rfl ?_
                refine fw_pf (h' := (c0 :: cz_t T n e fl fb pl C G P B tl)) rfl rfl rfl (Nat.le_of_ble_eq_true rfl) rfl rfl rfl ?_
                refine ik_Wk 1 (pc' := 99) (loc' := [some (.ref 1), some (.retAddr 1), some (fI e), some (fI 6)]) (st' := [fI 1]) (h' := (c0 :: cz_t T n e fl fb pl C G P B tl)) (cl' := 0) (sl' := 0) rfl ?_
                exact ik_Wret rfl rfl ⟨_, _, rfl, rfl, rfl, rfl, (Or.inl ⟨by unfold zbr; exact decide_eq_true (by omega), rfl, by rw [show e = cur + 6 by omega]⟩)⟩
              · refine ik_Wk 1 (pc' := 86) (loc' := [some (.ref 1), some (.retAddr 1), some (fI e), some (fI 5)]) (st' := [fI 0]) (h' := (c0 :: cz_t T n cur fl fb pl C G P B tl)) (cl' := 0) (sl' := 0) rfl ?_
                exact ik_Wret rfl rfl ⟨_, _, rfl, rfl, rfl, rfl, (Or.inr ⟨by unfold zbr; exact decide_eq_false (by omega), rfl, rfl⟩)⟩
            · refine ik_Wk 1 (pc' := 86) (loc' := [some (.ref 1), some (.retAddr 1), some (fI e), some (fI 4)]) (st' := [fI 0]) (h' := (c0 :: cz_t T n cur fl fb pl C G P B tl)) (cl' := 0) (sl' := 0) rfl ?_
              exact ik_Wret rfl rfl ⟨_, _, rfl, rfl, rfl, rfl, (Or.inr ⟨by unfold zbr; exact decide_eq_false (by omega), rfl, rfl⟩)⟩
          · refine ik_Wk 1 (pc' := 86) (loc' := [some (.ref 1), some (.retAddr 1), some (fI e), some (fI 3)]) (st' := [fI 0]) (h' := (c0 :: cz_t T n cur fl fb pl C G P B tl)) (cl' := 0) (sl' := 0) rfl ?_
            exact ik_Wret rfl rfl ⟨_, _, rfl, rfl, rfl, rfl, (Or.inr ⟨by unfold zbr; exact decide_eq_false (by omega), rfl, rfl⟩)⟩
        · refine ik_Wk 1 (pc' := 86) (loc' := [some (.ref 1), some (.retAddr 1), some (fI e), some (fI 2)]) (st' := [fI 0]) (h' := (c0 :: cz_t T n cur fl fb pl C G P B tl)) (cl' := 0) (sl' := 0) rfl ?_
          exact ik_Wret rfl rfl ⟨_, _, rfl, rfl, rfl, rfl, (Or.inr ⟨by unfold zbr; exact decide_eq_false (by omega), rfl, rfl⟩)⟩
      · refine ik_Wk 1 (pc' := 86) (loc' := [some (.ref 1), some (.retAddr 1), some (fI e), some (fI 1)]) (st' := [fI 0]) (h' := (c0 :: cz_t T n cur fl fb pl C G P B tl)) (cl' := 0) (sl' := 0) rfl ?_
        exact ik_Wret rfl rfl ⟨_, _, rfl, rfl, rfl, rfl, (Or.inr ⟨by unfold zbr; exact decide_eq_false (by omega), rfl, rfl⟩)⟩
    · refine ik_Wk 1 (pc' := 86) (loc' := [some (.ref 1), some (.retAddr 1), some (fI e), some (fI 0)]) (st' := [fI 0]) (h' := (c0 :: cz_t T n cur fl fb pl C G P B tl)) (cl' := 0) (sl' := 0) rfl ?_
      exact ik_Wret rfl rfl ⟨_, _, rfl, rfl, rfl, rfl, (Or.inr ⟨by unfold zbr; exact decide_eq_false (by omega), rfl, rfl⟩)⟩
  · refine ik_Wk 1 (pc' := 55) (loc' := [some (.ref 1), some (.retAddr 1), some (fI e), none]) (st' := [fI 0]) (h' := (c0 :: cz_t T n cur fl fb pl C G P B tl)) (cl' := 0) (sl' := 0) rfl ?_
    exact ik_Wret rfl rfl ⟨_, _, rfl, rfl, rfl, rfl, (Or.inr ⟨by unfold zbr; exact decide_eq_false (by omega), rfl, rfl⟩)⟩

theorem cz_rw0L {c0 : ik_E} {tl : List ik_E} {y : Int → Int} {T : List Int} {n fl fb pl : Int} {C G P B : List Int} (ok : cz_ok y T n tl) {cur : Int} (h0 : 0 ≤ cur) : ∀ (k : Nat) (e : Int), (n - e).toNat = k → cur ≤ e → e ≤ n → zE y n cur = zE y n e → ik_G 64 5 [some (.ref 1), some (.retAddr 1), some (fI e), none] [] (c0 :: cz_t T n cur fl fb pl C G P B tl) (fun rv h' => (zbr y n cur = true ∧ rv = [fI 1] ∧ h' = (c0 :: cz_t T n (cur + 6) fl fb pl C G P B tl)) ∨ (zbr y n cur = false ∧ rv = [fI 0] ∧ h' = (c0 :: cz_t T n cur fl fb pl C G P B tl))) := by
  have ok' := ok
  obtain ⟨htl, hT, bT, hn, hn2, hy⟩ := ok'
  intro k
  induction k using Nat.strongRecOn with
  | _ k ih =>
    intro e hk h1 h2 he
    refine ik_Wk 2 (pc' := 7) (loc' := [some (.ref 1), some (.retAddr 1), some (fI e), none]) (st' := [.ref 1, fI e]) (h' := (c0 :: cz_t T n cur fl fb pl C G P B tl)) (cl' := 0) (sl' := 0) rfl ?_
    refine fw_gf rfl rfl rfl rfl ?_
    refine fw_ic_ge rfl rfl (by omega) (by omega) (by omega) (by omega) (fun hc1 => ?_) (fun hc1 => ?_)
    · exact cz_rw0E ok h0 h1 h2 (he.trans (zE_stop (y := y) (n := n) (i := e) (by omega)))
    · refine ik_Wk 1 (pc' := 14) (loc' := [some (.ref 1), some (.retAddr 1), some (fI e), none]) (st' := [.ref 1]) (h' := (c0 :: cz_t T n cur fl fb pl C G P B tl)) (cl' := 0) (sl' := 0) rfl ?_
      refine fw_gf rfl rfl rfl rfl ?_
      refine ik_Wk 1 (pc' := 18) (loc' := [some (.ref 1), some (.retAddr 1), some (fI e), none]) (st' := [fI e, .ref 2]) (h' := (c0 :: cz_t T n cur fl fb pl C G P B tl)) (cl' := 0) (sl' := 0) rfl ?_
      refine fw_bal rfl rfl (by omega) (by omega) (by omega) ?_
      have hb2 := bT e (by omega) (by omega)
      have hb3 := hy e (by omega) (by omega)
      refine fw_bi rfl (by decide) ?_
      refine fw_ic_lt rfl rfl (by omega) (by omega) (by omega) (by omega) (fun hc4 => ?_) (fun hc4 => ?_)
      · exact cz_rw0E ok h0 h1 h2 (he.trans (zE_stop (y := y) (n := n) (i := e) (by omega)))
      · refine ik_Wk 1 (pc' := 25) (loc' := [some (.ref 1), some (.retAddr 1), some (fI e), none]) (st' := [.ref 1]) (h' := (c0 :: cz_t T n cur fl fb pl C G P B tl)) (cl' := 0) (sl' := 0) rfl ?_
        refine fw_gf rfl rfl rfl rfl ?_
        refine ik_Wk 1 (pc' := 29) (loc' := [some (.ref 1), some (.retAddr 1), some (fI e), none]) (st' := [fI e, .ref 2]) (h' := (c0 :: cz_t T n cur fl fb pl C G P B tl)) (cl' := 0) (sl' := 0) rfl ?_
        refine fw_bal rfl rfl (by omega) (by omega) (by omega) ?_
        have hb5 := bT e (by omega) (by omega)
        have hb6 := hy e (by omega) (by omega)
        refine fw_bi rfl (by decide) ?_
        refine fw_ic_gt rfl rfl (by omega) (by omega) (by omega) (by omega) (fun hc7 => ?_) (fun hc7 => ?_)
        · exact cz_rw0E ok h0 h1 h2 (he.trans (zE_stop (y := y) (n := n) (i := e) (by omega)))
        · refine fw_inc (a := e) (loc' := [some (.ref 1), some (.retAddr 1), some (fI (e + 1)), none]) rfl rfl (Nat.le_of_ble_eq_true rfl) rfl ?_
          refine ik_Wk 1 (pc' := 5) (loc' := [some (.ref 1), some (.retAddr 1), some (fI (e + 1)), none]) (st' := []) (h' := (c0 :: cz_t T n cur fl fb pl C G P B tl)) (cl' := 0) (sl' := 0) rfl ?_
          exact ih _ (by omega) (e + 1) rfl (by omega) (by omega) (by rw [he, zE_step (y := y) (n := n) (i := e) (by omega) (by omega)])

theorem cz_rw0 {c0 : ik_E} {tl : List ik_E} {y : Int → Int} {T : List Int} {n fl fb pl : Int} {C G P B : List Int} (ok : cz_ok y T n tl) {cur : Int} (h0 : 0 ≤ cur) (h1 : cur ≤ n) : ik_F 64 [.ref 1, .retAddr 1] (c0 :: cz_t T n cur fl fb pl C G P B tl) (fun rv h' => (zbr y n cur = true ∧ rv = [fI 1] ∧ h' = (c0 :: cz_t T n (cur + 6) fl fb pl C G P B tl)) ∨ (zbr y n cur = false ∧ rv = [fI 0] ∧ h' = (c0 :: cz_t T n cur fl fb pl C G P B tl))) := by
  have ok' := ok
  obtain ⟨htl, hT, bT, hn, hn2, hy⟩ := ok'
  refine ik_Wk 1 (pc' := 1) (loc' := [some (.ref 1), some (.retAddr 1), none, none]) (st' := [.ref 1]) (h' := (c0 :: cz_t T n cur fl fb pl C G P B tl)) (cl' := 0) (sl' := 0) rfl ?_
  refine fw_gf rfl rfl rfl rfl ?_
  refine ik_Wk 1 (pc' := 5) (loc' := [some (.ref 1), some (.retAddr 1), some (fI cur), none]) (st' := []) (h' := (c0 :: cz_t T n cur fl fb pl C G P B tl)) (cl' := 0) (sl' := 0) rfl ?_
  exact cz_rw0L ok h0 _ cur rfl (by omega) (by omega) rfl

