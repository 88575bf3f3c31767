/-! THE CLASS READS: its cells 1 .. 6 -/
def cz_t (T : List Int) (n cur fl fb pl : Int) (C G P B : List Int) (tl : List ik_E) : List ik_E := .inr (6, [.ref 2, fI n, fI cur, fI fl, fI fb, fI pl, .ref 3, .ref 4, .ref 5, .ref 6]) :: .inl (.byte, fA T) :: .inl (.int, fA C) :: .inl (.int, fA G) :: .inl (.int, fA P) :: .inl (.int, fA B) :: tl
theorem cz_len {c0 : ik_E} {T : List Int} {n cur fl fb pl : Int} {C G P B : List Int} {tl : List ik_E} (htl : tl.length = 87) : (c0 :: cz_t T n cur fl fb pl C G P B tl).length = 94 := by
  unfold cz_t
  simp only [List.length_cons, htl]
def cz_ok (y : Int → Int) (T : List Int) (n : Int) (tl : List ik_E) : Prop := tl.length = 87 ∧ T.length = 500 ∧ (∀ i : Int, 0 ≤ i → i < n → -128 ≤ T.getD i.toNat 0 ∧ T.getD i.toNat 0 ≤ 127) ∧ 0 ≤ n ∧ n ≤ 500 ∧ ∀ i, 0 ≤ i → i < n → y i = T.getD i.toNat 0 % 256

theorem cz_skip0 {c0 : ik_E} {tl : List ik_E} {y : Int → Int} {T : List Int} {n fl fb pl : Int} {C G P B : List Int} (ok : cz_ok y T n tl) : ∀ (k : Nat) (cur : Int), (n - cur).toNat = k → 0 ≤ cur → cur ≤ n → ik_G 66 0 [some (.ref 1)] [] (c0 :: cz_t T n cur fl fb pl C G P B tl) (fun rv h' => rv = [] ∧ h' = (c0 :: cz_t T n (zS y n cur) fl fb pl C G P B tl)) := by
  have ok' := ok
  obtain ⟨htl, hT, bT, hn, hn2, hy⟩ := ok'
  intro k
  induction k using Nat.strongRecOn with
  | _ k ih =>
    intro cur hk h0 h1
    refine ik_Wk 1 (pc' := 1) (loc' := [some (.ref 1)]) (st' := [.ref 1]) (h' := (c0 :: cz_t T n cur fl fb pl C G P B tl)) (cl' := 0) (sl' := 0) rfl ?_
    refine fw_gf rfl rfl rfl rfl ?_
    refine ik_Wk 1 (pc' := 5) (loc' := [some (.ref 1)]) (st' := [.ref 1, fI cur]) (h' := (c0 :: cz_t T n cur fl fb pl C G P B tl)) (cl' := 0) (sl' := 0) rfl ?_
    refine fw_gf rfl rfl rfl rfl ?_
    refine fw_ic_ge rfl rfl (by omega) (by omega) (by omega) (by omega) (fun hc1 => ?_) (fun hc1 => ?_)
    · exact ik_Wret rfl rfl ⟨_, _, rfl, rfl, rfl, rfl, ⟨rfl, by rw [zS_stop (y := y) (n := n) (i := cur) (by omega)]⟩⟩
    · refine ik_Wk 1 (pc' := 12) (loc' := [some (.ref 1)]) (st' := [.ref 1]) (h' := (c0 :: cz_t T n cur fl fb pl C G P B tl)) (cl' := 0) (sl' := 0) rfl ?_
      refine fw_gf rfl rfl rfl rfl ?_
      refine ik_Wk 1 (pc' := 16) (loc' := [some (.ref 1)]) (st' := [.ref 1, .ref 2]) (h' := (c0 :: cz_t T n cur fl fb pl C G P B tl)) (cl' := 0) (sl' := 0) rfl ?_
      refine fw_gf rfl rfl rfl rfl ?_
      refine fw_bal rfl rfl (by omega) (by omega) (by omega) ?_
      have hb2 := bT cur (by omega) (by omega)
      have hb3 := hy cur (by omega) (by omega)
      refine fw_bi rfl (by decide) ?_
      refine fw_ic_ne rfl rfl (by omega) (by omega) (by omega) (by omega) (fun hc4 => ?_) (fun hc4 => ?_)
      · refine ik_Wk 2 (pc' := 27) (loc' := [some (.ref 1)]) (st' := [.ref 1, .ref 1]) (h' := (c0 :: cz_t T n cur fl fb pl C G P B tl)) (cl' := 0) (sl' := 0) rfl ?_
        refine fw_gf rfl rfl rfl rfl ?_
        refine ik_Wk 1 (pc' := 31) (loc' := [some (.ref 1)]) (st' := [fI 1, fI cur, .ref 1]) (h' := (c0 :: cz_t T n cur fl fb pl C G P B tl)) (cl' := 0) (sl' := 0) rfl ?_
        refine fw_add rfl ?_
        refine fw_pf (h' := (c0 :: cz_t T n (cur + 1) fl fb pl C G P B tl)) rfl rfl rfl (Nat.le_of_ble_eq_true rfl) rfl rfl rfl ?_
        refine ik_Wk 1 (pc' := 0) (loc' := [some (.ref 1)]) (st' := []) (h' := (c0 :: cz_t T n (cur + 1) fl fb pl C G P B tl)) (cl' := 0) (sl' := 0) rfl ?_
        rw [zS_step (y := y) (n := n) (i := cur) (by omega) (by omega)]
        exact ih _ (by omega) (cur + 1) rfl (by omega) (by omega)
      · exact ik_Wret rfl rfl ⟨_, _, rfl, rfl, rfl, rfl, ⟨rfl, by rw [zS_stop (y := y) (n := n) (i := cur) (by omega)]⟩⟩

theorem cz_skip {c0 : ik_E} {tl : List ik_E} {y : Int → Int} {T : List Int} {n fl fb pl : Int} {C G P B : List Int} (ok : cz_ok y T n tl) {cur : Int} (h0 : 0 ≤ cur) (h1 : cur ≤ n) : ik_F 66 [.ref 1] (c0 :: cz_t T n cur fl fb pl C G P B tl) (fun rv h' => rv = [] ∧ h' = (c0 :: cz_t T n (zS y n cur) fl fb pl C G P B tl)) := cz_skip0 ok _ cur rfl h0 h1

theorem cz_refuse {c0 : ik_E} {tl : List ik_E} {y : Int → Int} {T : List Int} {n fl fb pl : Int} {C G P B : List Int} (ok : cz_ok y T n tl) {cur f a : Int} : ik_F 67 [.ref 1, fI f, fI a] (c0 :: cz_t T n cur fl fb pl C G P B tl) (fun rv h' => rv = [fI 0] ∧ h' = (c0 :: cz_t T n cur f a pl C G P B tl)) := by
  have ok' := ok
  obtain ⟨htl, hT, bT, hn, hn2, hy⟩ := ok'
  refine ik_Wk 2 (pc' := 2) (loc' := [some (.ref 1), some (fI f), some (fI a)]) (st' := [fI f, .ref 1]) (h' := (c0 :: cz_t T n cur fl fb pl C G P B tl)) (cl' := 0) (sl' := 0) rfl ?_
  refine fw_pf (h' := (c0 :: cz_t T n cur f fb pl C G P B tl)) rfl rfl rfl (Nat.le_of_ble_eq_true rfl) rfl rfl rfl ?_
  refine ik_Wk 2 (pc' := 7) (loc' := [some (.ref 1), some (fI f), some (fI a)]) (st' := [fI a, .ref 1]) (h' := (c0 :: cz_t T n cur f fb pl C G P B tl)) (cl' := 0) (sl' := 0) rfl ?_
  refine fw_pf (h' := (c0 :: cz_t T n cur f a pl C G P B tl)) rfl rfl rfl (Nat.le_of_ble_eq_true rfl) rfl rfl rfl ?_
  refine ik_Wk 1 (pc' := 11) (loc' := [some (.ref 1), some (fI f), some (fI a)]) (st' := [fI 0]) (h' := (c0 :: cz_t T n cur f a pl C G P B tl)) (cl' := 0) (sl' := 0) rfl ?_
  exact ik_Wret rfl rfl ⟨_, _, rfl, rfl, rfl, rfl, ⟨rfl, rfl⟩⟩

theorem cz_stands {c0 : ik_E} {tl : List ik_E} {y : Int → Int} {T : List Int} {n fl fb pl : Int} {C G P B : List Int} (ok : cz_ok y T n tl) {cur c : Int} (h0 : 0 ≤ cur) (h1 : cur ≤ n) (hc0 : 0 ≤ c) (hc1 : c ≤ 127) : ik_F 65 [.ref 1, fI c] (c0 :: cz_t T n cur fl fb pl C G P B tl) (fun rv h' => ((cur < n ∧ y cur = c ∧ rv = [fI 1]) ∨ (¬ (cur < n ∧ y cur = c) ∧ rv = [fI 0])) ∧ h' = (c0 :: cz_t T n cur fl fb pl C G P B tl)) := by
  have ok' := ok
  obtain ⟨htl, hT, bT, hn, hn2, hy⟩ := ok'
  refine ik_Wk 1 (pc' := 1) (loc' := [some (.ref 1), some (fI c)]) (st' := [.ref 1]) (h' := (c0 :: cz_t T n cur fl fb pl C G P B tl)) (cl' := 0) (sl' := 0) rfl ?_
  refine fw_gf rfl rfl rfl rfl ?_
  refine ik_Wk 1 (pc' := 5) (loc' := [some (.ref 1), some (fI c)]) (st' := [.ref 1, fI cur]) (h' := (c0 :: cz_t T n cur fl fb pl C G P B tl)) (cl' := 0) (sl' := 0) rfl ?_
  refine fw_gf rfl rfl rfl rfl ?_
  refine fw_ic_ge rfl rfl (by omega) (by omega) (by omega) (by omega) (fun hc1 => ?_) (fun hc1 => ?_)
  · refine ik_Wk 1 (pc' := 29) (loc' := [some (.ref 1), some (fI c)]) (st' := [fI 0]) (h' := (c0 :: cz_t T n cur fl fb pl C G P B tl)) (cl' := 0) (sl' := 0) rfl ?_
    exact ik_Wret rfl rfl ⟨_, _, rfl, rfl, rfl, rfl, ⟨Or.inr ⟨by omega, rfl⟩, rfl⟩⟩
  · refine ik_Wk 1 (pc' := 12) (loc' := [some (.ref 1), some (fI c)]) (st' := [.ref 1]) (h' := (c0 :: cz_t T n cur fl fb pl C G P B tl)) (cl' := 0) (sl' := 0) rfl ?_
    refine fw_gf rfl rfl rfl rfl ?_
    refine ik_Wk 1 (pc' := 16) (loc' := [some (.ref 1), some (fI c)]) (st' := [.ref 1, .ref 2]) (h' := (c0 :: cz_t T n cur fl fb pl C G P B tl)) (cl' := 0) (sl' := 0) rfl ?_
    refine fw_gf rfl rfl rfl rfl ?_
    refine fw_bal rfl rfl (by omega) (by omega) (by omega) ?_
    have hb2 := bT cur (by omega) (by omega)
    have hb3 := hy cur (by omega) (by omega)
    refine ik_Wk 1 (pc' := 21) (loc' := [some (.ref 1), some (fI c)]) (st' := [fI c, fI (T.getD cur.toNat 0)]) (h' := (c0 :: cz_t T n cur fl fb pl C G P B tl)) (cl' := 0) (sl' := 0) rfl ?_
    refine fw_ic_ne rfl rfl (by omega) (by omega) (by omega) (by omega) (fun hc4 => ?_) (fun hc4 => ?_)
    · refine ik_Wk 2 (pc' := 29) (loc' := [some (.ref 1), some (fI c)]) (st' := [fI 1]) (h' := (c0 :: cz_t T n cur fl fb pl C G P B tl)) (cl' := 0) (sl' := 0) rfl ?_
      exact ik_Wret rfl rfl ⟨_, _, rfl, rfl, rfl, rfl, ⟨Or.inl ⟨by omega, by omega, rfl⟩, rfl⟩⟩
    · refine ik_Wk 1 (pc' := 29) (loc' := [some (.ref 1), some (fI c)]) (st' := [fI 0]) (h' := (c0 :: cz_t T n cur fl fb pl C G P B tl)) (cl' := 0) (sl' := 0) rfl ?_
      exact ik_Wret rfl rfl ⟨_, _, rfl, rfl, rfl, rfl, ⟨Or.inr ⟨by omega, rfl⟩, rfl⟩⟩

