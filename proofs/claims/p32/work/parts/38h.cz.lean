/-! THE CLASS READS: its cells 1 .. 6 -/
def cz_t (T : List Int) (n cur fl fb pl : Int) (C G P B : List Int) (tl : List ik_E) : List ik_E := .inr (6, [.ref 2, fI n, fI cur, fI fl, fI fb, fI pl, .ref 3, .ref 4, .ref 5, .ref 6]) :: .inl (.byte, fA T) :: .inl (.int, fA C) :: .inl (.int, fA G) :: .inl (.int, fA P) :: .inl (.int, fA B) :: tl
theorem cz_len {c0 : ik_E} {T : List Int} {n cur fl fb pl : Int} {C G P B : List Int} {tl : List ik_E} (htl : tl.length = 87) : (c0 :: cz_t T n cur fl fb pl C G P B tl).length = 94 := by
  unfold cz_t
  simp only [List.length_cons, htl]
def cz_ok (y : Int → Int) (T : List Int) (n : Int) (tl : List ik_E) : Prop := tl.length = 87 ∧ T.length = 500 ∧ (∀ i : Int, 0 ≤ i → i < n → -128 ≤ T.getD i.toNat 0 ∧ T.getD i.toNat 0 ≤ 127) ∧ 0 ≤ n ∧ n ≤ 500 ∧ ∀ i, 0 ≤ i → i < n → y i = T.getD i.toNat 0 % 256

theorem cz_skip0 {c0 : ik_E} {tl : List ik_E} {y : Int → Int} {T : List Int} {n fl fb pl : Int} {C G P B : List Int} (ok : cz_ok y T n tl) : ∀ (k : Nat) (cur : Int), (n - cur).toNat = k → 0 ≤ cur → cur ≤ n → ik_G 66 0 [some (.ref 1)] [] (c0 :: cz_t T n cur fl fb pl C G P B tl) (fun rv h' => rv = [] ∧ h' = (c0 :: cz_t T n (zS y n cur) fl fb pl C G P B tl)) := by
  have ok' := ok
  obtain ⟨htl, hT, bT, hn, hn2, hy⟩ := ok'
  intro k
  induction k using Nat.strongRecOn with
  | _ k ih =>
    intro cur hk h0 h1
    refine ik_Wk 1 (pc' := 1) (loc' := [some (.ref 1)]) (st' := [.ref 1]) (h' := (c0 :: cz_t T n cur fl fb pl C G P B tl)) (cl' := 0) (sl' := 0) rfl ?_
    refine fw_gf rfl rfl rfl rfl ?_
    refine ik_Wk 1 (pc' := 5) (loc' := [some (.ref 1)]) (st' := [.ref 1, fI cur]) (h' := (c0 :: cz_t T n cur fl fb pl C G P B tl)) (cl' := 0) (sl' := 0) rfl ?_
    refine fw_gf rfl rfl rfl rfl ?_
    refine fw_ic_ge rfl rfl (by omega) (by omega) (by omega) (by omega) (fun hc1 => ?_) (fun hc1 => ?_)
    · exact ik_Wret rfl rfl ⟨_, _, rfl, rfl, rfl, rfl, ⟨rfl, by rw [zS_stop (y := y) (n := n) (i := cur) (by omega)]⟩⟩
    · refine ik_Wk 1 (pc' := 12) (loc' := [some (.ref 1)]) (st' := [.ref 1]) (h' := (c0 :: cz_t T n cur fl fb pl C G P B tl)) (cl' := 0) (sl' := 0) rfl ?_
      refine fw_gf rfl rfl rfl rfl ?_
      refine ik_Wk 1 (pc' := 16) (loc' := [some (.ref 1)]) (st' := [.ref 1, .ref 2]) (h' := (c0 :: cz_t T n cur fl fb pl C G P B tl)) (cl' := 0) (sl' := 0) rfl ?_
      refine fw_gf rfl rfl rfl rfl ?_
      refine fw_bal rfl rfl (by omega) (by omega) (by omega) ?_
      have hb2 := bT cur (by omega) (by omega)
      have hb3 := hy cur (by omega) (by omega)
      refine fw_bi rfl (by decide) ?_
      refine fw_ic_ne rfl rfl (by omega) (by omega) (by omega) (by omega) (fun hc4 => ?_) (fun hc4 => ?_)
      · refine ik_Wk 2 (pc' := 27) (loc' := [some (.ref 1)]) (st' := [.ref 1, .ref 1]) (h' := (c0 :: cz_t T n cur fl fb pl C G P B tl)) (cl' := 0) (sl' := 0) rfl ?_
        refine fw_gf rfl rfl rfl rfl ?_
        refine ik_Wk 1 (pc' := 31) (loc' := [some (.ref 1)]) (st' := [fI 1, fI cur, .ref 1]) (h' := (c0 :: cz_t T n cur fl fb pl C G P B tl)) (cl' := 0) (sl' := 0) rfl ?_
        refine fw_add rfl ?_
        refine fw_pf (h' := (c0 :: cz_t T n (cur + 1) fl fb pl C G P B tl)) rfl rfl rfl (Nat.le_of_ble_eq_true rfl) rfl rfl rfl ?_
        refine ik_Wk 1 (pc' := 0) (loc' := [some (.ref 1)]) (st' := []) (h' := (c0 :: cz_t T n (cur + 1) fl fb pl C G P B tl)) (cl' := 0) (sl' := 0) rfl ?_
        rw [zS_step (y := y) (n := n) (i := cur) (by omega) (by omega)]
        exact ih _ (by omega) (cur + 1) rfl (by omega) (by omega)
      · exact ik_Wret rfl rfl ⟨_, _, rfl, rfl, rfl, rfl, ⟨rfl, by rw [zS_stop (y := y) (n := n) (i := cur) (by omega)]⟩⟩

theorem cz_skip {c0 : ik_E} {tl : List ik_E} {y : Int → Int} {T : List Int} {n fl fb pl : Int} {C G P B : List Int} (ok : cz_ok y T n tl) {cur : Int} (h0 : 0 ≤ cur) (h1 : cur ≤ n) : ik_F 66 [.ref 1] (c0 :: cz_t T n cur fl fb pl C G P B tl) (fun rv h' => rv = [] ∧ h' = (c0 :: cz_t T n (zS y n cur) fl fb pl C G P B tl)) := cz_skip0 ok _ cur rfl h0 h1

theorem cz_refuse {c0 : ik_E} {tl : List ik_E} {y : Int → Int} {T : List Int} {n fl fb pl : Int} {C G P B : List Int} (ok : cz_ok y T n tl) {cur f a : Int} : ik_F 67 [.ref 1, fI f, fI a] (c0 :: cz_t T n cur fl fb pl C G P B tl) (fun rv h' => rv = [fI 0] ∧ h' = (c0 :: cz_t T n cur f a pl C G P B tl)) := by
  have ok' := ok
  obtain ⟨htl, hT, bT, hn, hn2, hy⟩ := ok'
  refine ik_Wk 2 (pc' := 2) (loc' := [some (.ref 1), some (fI f), some (fI a)]) (st' := [fI f, .ref 1]) (h' := (c0 :: cz_t T n cur fl fb pl C G P B tl)) (cl' := 0) (sl' := 0) rfl ?_
  refine fw_pf (h' := (c0 :: cz_t T n cur f fb pl C G P B tl)) rfl rfl rfl (Nat.le_of_ble_eq_true rfl) rfl rfl rfl ?_
  refine ik_Wk 2 (pc' := 7) (loc' := [some (.ref 1), some (fI f), some (fI a)]) (st' := [fI a, .ref 1]) (h' := (c0 :: cz_t T n cur f fb pl C G P B tl)) (cl' := 0) (sl' := 0) rfl ?_
  refine fw_pf (h' := (c0 :: cz_t T n cur f a pl C G P B tl)) rfl rfl rfl (Nat.le_of_ble_eq_true rfl) rfl rfl rfl ?_
  refine ik_Wk 1 (pc' := 11) (loc' := [some (.ref 1), some (fI f), some (fI a)]) (st' := [fI 0]) (h' := (c0 :: cz_t T n cur f a pl C G P B tl)) (cl' := 0) (sl' := 0) rfl ?_
  exact ik_Wret rfl rfl ⟨_, _, rfl, rfl, rfl, rfl, ⟨rfl, rfl⟩⟩

theorem cz_stands {c0 : ik_E} {tl : List ik_E} {y : Int → Int} {T : List Int} {n fl fb pl : Int} {C G P B : List Int} (ok : cz_ok y T n tl) {cur c : Int} (h0 : 0 ≤ cur) (h1 : cur ≤ n) (hc0 : 0 ≤ c) (hc1 : c ≤ 127) : ik_F 65 [.ref 1, fI c] (c0 :: cz_t T n cur fl fb pl C G P B tl) (fun rv h' => ((cur < n ∧ y cur = c ∧ rv = [fI 1]) ∨ (¬ (cur < n ∧ y cur = c) ∧ rv = [fI 0])) ∧ h' = (c0 :: cz_t T n cur fl fb pl C G P B tl)) := by
  have ok' := ok
  obtain ⟨htl, hT, bT, hn, hn2, hy⟩ := ok'
  refine ik_Wk 1 (pc' := 1) (loc' := [some (.ref 1), some (fI c)]) (st' := [.ref 1]) (h' := (c0 :: cz_t T n cur fl fb pl C G P B tl)) (cl' := 0) (sl' := 0) rfl ?_
  refine fw_gf rfl rfl rfl rfl ?_
  refine ik_Wk 1 (pc' := 5) (loc' := [some (.ref 1), some (fI c)]) (st' := [.ref 1, fI cur]) (h' := (c0 :: cz_t T n cur fl fb pl C G P B tl)) (cl' := 0) (sl' := 0) rfl ?_
  refine fw_gf rfl rfl rfl rfl ?_
  refine fw_ic_ge rfl rfl (by omega) (by omega) (by omega) (by omega) (fun hc1 => ?_) (fun hc1 => ?_)
  · refine ik_Wk 1 (pc' := 29) (loc' := [some (.ref 1), some (fI c)]) (st' := [fI 0]) (h' := (c0 :: cz_t T n cur fl fb pl C G P B tl)) (cl' := 0) (sl' := 0) rfl ?_
    exact ik_Wret rfl rfl ⟨_, _, rfl, rfl, rfl, rfl, ⟨Or.inr ⟨by omega, rfl⟩, rfl⟩⟩
  · refine ik_Wk 1 (pc' := 12) (loc' := [some (.ref 1), some (fI c)]) (st' := [.ref 1]) (h' := (c0 :: cz_t T n cur fl fb pl C G P B tl)) (cl' := 0) (sl' := 0) rfl ?_
    refine fw_gf rfl rfl rfl rfl ?_
    refine ik_Wk 1 (pc' := 16) (loc' := [some (.ref 1), some (fI c)]) (st' := [.ref 1, .ref 2]) (h' := (c0 :: cz_t T n cur fl fb pl C G P B tl)) (cl' := 0) (sl' := 0) rfl ?_
    refine fw_gf rfl rfl rfl rfl ?_
    refine fw_bal rfl rfl (by omega) (by omega) (by omega) ?_
    have hb2 := bT cur (by omega) (by omega)
    have hb3 := hy cur (by omega) (by omega)
    refine ik_Wk 1 (pc' := 21) (loc' := [some (.ref 1), some (fI c)]) (st' := [fI c, fI (T.getD cur.toNat 0)]) (h' := (c0 :: cz_t T n cur fl fb pl C G P B tl)) (cl' := 0) (sl' := 0) rfl ?_
    refine fw_ic_ne rfl rfl (by omega) (by omega) (by omega) (by omega) (fun hc4 => ?_) (fun hc4 => ?_)
    · refine ik_Wk 2 (pc' := 29) (loc' := [some (.ref 1), some (fI c)]) (st' := [fI 1]) (h' := (c0 :: cz_t T n cur fl fb pl C G P B tl)) (cl' := 0) (sl' := 0) rfl ?_
      exact ik_Wret rfl rfl ⟨_, _, rfl, rfl, rfl, rfl, ⟨Or.inl ⟨by omega, by omega, rfl⟩, rfl⟩⟩
    · refine ik_Wk 1 (pc' := 29) (loc' := [some (.ref 1), some (fI c)]) (st' := [fI 0]) (h' := (c0 :: cz_t T n cur fl fb pl C G P B tl)) (cl' := 0) (sl' := 0) rfl ?_
      exact ik_Wret rfl rfl ⟨_, _, rfl, rfl, rfl, rfl, ⟨Or.inr ⟨by omega, rfl⟩, rfl⟩⟩

set_option maxRecDepth 100000 in
theorem cs_len0 (h : List ik_E) : ik_F 212 [.retAddr 1] h (fun rv h' => rv = [fI 6] ∧ h' = h) := ⟨60, (10, [some (.retAddr 1)], [.int 6], h, 0, 0), rfl, .ireturn, [fI 6], rfl, rfl, rfl, rfl, rfl, rfl⟩

set_option maxRecDepth 100000 in
theorem cs_ch0_0 (h : List ik_E) : ik_F 213 [.retAddr 1, fI 0] h (fun rv h' => rv = [fI 98] ∧ h' = h) := ⟨60, (15, [some (.retAddr 1), some (.int 0)], [.int 98], h, 0, 0), rfl, .ireturn, [fI 98], rfl, rfl, rfl, rfl, rfl, rfl⟩

set_option maxRecDepth 100000 in
theorem cs_ch0_1 (h : List ik_E) : ik_F 213 [.retAddr 1, fI 1] h (fun rv h' => rv = [fI 114] ∧ h' = h) := ⟨60, (15, [some (.retAddr 1), some (.int 1)], [.int 114], h, 0, 0), rfl, .ireturn, [fI 114], rfl, rfl, rfl, rfl, rfl, rfl⟩

set_option maxRecDepth 100000 in
theorem cs_ch0_2 (h : List ik_E) : ik_F 213 [.retAddr 1, fI 2] h (fun rv h' => rv = [fI 105] ∧ h' = h) := ⟨60, (15, [some (.retAddr 1), some (.int 2)], [.int 105], h, 0, 0), rfl, .ireturn, [fI 105], rfl, rfl, rfl, rfl, rfl, rfl⟩

set_option maxRecDepth 100000 in
theorem cs_ch0_3 (h : List ik_E) : ik_F 213 [.retAddr 1, fI 3] h (fun rv h' => rv = [fI 100] ∧ h' = h) := ⟨60, (15, [some (.retAddr 1), some (.int 3)], [.int 100], h, 0, 0), rfl, .ireturn, [fI 100], rfl, rfl, rfl, rfl, rfl, rfl⟩

set_option maxRecDepth 100000 in
theorem cs_ch0_4 (h : List ik_E) : ik_F 213 [.retAddr 1, fI 4] h (fun rv h' => rv = [fI 103] ∧ h' = h) := ⟨60, (15, [some (.retAddr 1), some (.int 4)], [.int 103], h, 0, 0), rfl, .ireturn, [fI 103], rfl, rfl, rfl, rfl, rfl, rfl⟩

set_option maxRecDepth 100000 in
theorem cs_ch0_5 (h : List ik_E) : ik_F 213 [.retAddr 1, fI 5] h (fun rv h' => rv = [fI 101] ∧ h' = h) := ⟨60, (15, [some (.retAddr 1), some (.int 5)], [.int 101], h, 0, 0), rfl, .ireturn, [fI 101], rfl, rfl, rfl, rfl, rfl, rfl⟩

set_option maxRecDepth 100000 in
theorem cs_len1 (h : List ik_E) : ik_F 212 [.retAddr 3] h (fun rv h' => rv = [fI 5] ∧ h' = h) := ⟨60, (10, [some (.retAddr 3)], [.int 5], h, 0, 0), rfl, .ireturn, [fI 5], rfl, rfl, rfl, rfl, rfl, rfl⟩

set_option maxRecDepth 100000 in
theorem cs_ch1_0 (h : List ik_E) : ik_F 213 [.retAddr 3, fI 0] h (fun rv h' => rv = [fI 112] ∧ h' = h) := ⟨60, (15, [some (.retAddr 3), some (.int 0)], [.int 112], h, 0, 0), rfl, .ireturn, [fI 112], rfl, rfl, rfl, rfl, rfl, rfl⟩

set_option maxRecDepth 100000 in
theorem cs_ch1_1 (h : List ik_E) : ik_F 213 [.retAddr 3, fI 1] h (fun rv h' => rv = [fI 108] ∧ h' = h) := ⟨60, (15, [some (.retAddr 3), some (.int 1)], [.int 108], h, 0, 0), rfl, .ireturn, [fI 108], rfl, rfl, rfl, rfl, rfl, rfl⟩

set_option maxRecDepth 100000 in
theorem cs_ch1_2 (h : List ik_E) : ik_F 213 [.retAddr 3, fI 2] h (fun rv h' => rv = [fI 97] ∧ h' = h) := ⟨60, (15, [some (.retAddr 3), some (.int 2)], [.int 97], h, 0, 0), rfl, .ireturn, [fI 97], rfl, rfl, rfl, rfl, rfl, rfl⟩

set_option maxRecDepth 100000 in
theorem cs_ch1_3 (h : List ik_E) : ik_F 213 [.retAddr 3, fI 3] h (fun rv h' => rv = [fI 99] ∧ h' = h) := ⟨60, (15, [some (.retAddr 3), some (.int 3)], [.int 99], h, 0, 0), rfl, .ireturn, [fI 99], rfl, rfl, rfl, rfl, rfl, rfl⟩

set_option maxRecDepth 100000 in
theorem cs_ch1_4 (h : List ik_E) : ik_F 213 [.retAddr 3, fI 4] h (fun rv h' => rv = [fI 101] ∧ h' = h) := ⟨60, (15, [some (.retAddr 3), some (.int 4)], [.int 101], h, 0, 0), rfl, .ireturn, [fI 101], rfl, rfl, rfl, rfl, rfl, rfl⟩

set_option maxRecDepth 100000 in
theorem cs_len2 (h : List ik_E) : ik_F 212 [.retAddr 5] h (fun rv h' => rv = [fI 2] ∧ h' = h) := ⟨60, (10, [some (.retAddr 5)], [.int 2], h, 0, 0), rfl, .ireturn, [fI 2], rfl, rfl, rfl, rfl, rfl, rfl⟩

set_option maxRecDepth 100000 in
theorem cs_ch2_0 (h : List ik_E) : ik_F 213 [.retAddr 5, fI 0] h (fun rv h' => rv = [fI 116] ∧ h' = h) := ⟨60, (15, [some (.retAddr 5), some (.int 0)], [.int 116], h, 0, 0), rfl, .ireturn, [fI 116], rfl, rfl, rfl, rfl, rfl, rfl⟩

set_option maxRecDepth 100000 in
theorem cs_ch2_1 (h : List ik_E) : ik_F 213 [.retAddr 5, fI 1] h (fun rv h' => rv = [fI 111] ∧ h' = h) := ⟨60, (15, [some (.retAddr 5), some (.int 1)], [.int 111], h, 0, 0), rfl, .ireturn, [fI 111], rfl, rfl, rfl, rfl, rfl, rfl⟩

theorem cz_rw0E {c0 : ik_E} {tl : List ik_E} {y : Int → Int} {T : List Int} {n fl fb pl : Int} {C G P B : List Int} (ok : cz_ok y T n tl) {cur e : Int} (h0 : 0 ≤ cur) (h1 : cur ≤ e) (h2 : e ≤ n) (he : zE y n cur = e) : ik_G 64 41 [some (.ref 1), some (.retAddr 1), some (fI e), none] [] (c0 :: cz_t T n cur fl fb pl C G P B tl) (fun rv h' => (zbr y n cur = true ∧ rv = [fI 1] ∧ h' = (c0 :: cz_t T n (cur + 6) fl fb pl C G P B tl)) ∨ (zbr y n cur = false ∧ rv = [fI 0] ∧ h' = (c0 :: cz_t T n cur fl fb pl C G P B tl))) := by
  have ok' := ok
  obtain ⟨htl, hT, bT, hn, hn2, hy⟩ := ok'
  have q0 : y (cur + 0) = y cur := congrArg y (Int.add_zero cur)
  refine ik_Wk 2 (pc' := 43) (loc' := [some (.ref 1), some (.retAddr 1), some (fI e), none]) (st' := [.ref 1, fI e]) (h' := (c0 :: cz_t T n cur fl fb pl C G P B tl)) (cl' := 0) (sl' := 0) rfl ?_
  refine fw_gf rfl rfl rfl rfl ?_
  refine fw_sub rfl ?_
  refine ik_Wk 1 (pc' := 48) (loc' := [some (.ref 1), some (.retAddr 1), some (fI e), none]) (st' := [.retAddr 1, fI (e - cur)]) (h' := (c0 :: cz_t T n cur fl fb pl C G P B tl)) (cl' := 0) (sl' := 0) rfl ?_
  refine fw_call 212 1 0 [.retAddr 1] [fI (e - cur)] rfl rfl rfl (by decide) rfl rfl (fw_str (cz_len htl) rfl (by decide) (by decide) rfl) (cs_len0 _) ?_
  rintro rv h' ⟨rfl, rfl⟩
  refine ik_Wk 0 (pc' := 51) (loc' := [some (.ref 1), some (.retAddr 1), some (fI e), none]) (st' := [fI 6, fI (e - cur)]) (h' := (c0 :: cz_t T n cur fl fb pl C G P B tl)) (cl' := 0) (sl' := 0) rfl ?_
  refine fw_ic_eq rfl rfl (by omega) (by omega) (by omega) (by omega) (fun hc1 => ?_) (fun hc1 => ?_)
  · refine ik_Wk 4 (pc' := 60) (loc' := [some (.ref 1), some (.retAddr 1), some (fI e), some (fI 0)]) (st' := [.retAddr 1, fI 0]) (h' := (c0 :: cz_t T n cur fl fb pl C G P B tl)) (cl' := 0) (sl' := 0) rfl ?_
    refine fw_call 212 1 0 [.retAddr 1] [fI 0] rfl rfl rfl (by decide) rfl rfl (fw_str (cz_len htl) rfl (by decide) (by decide) rfl) (cs_len0 _) ?_
    rintro rv h' ⟨rfl, rfl⟩
    refine ik_Wk 0 (pc' := 63) (loc' := [some (.ref 1), some (.retAddr 1), some (fI e), some (fI 0)]) (st' := [fI 6, fI 0]) (h' := (c0 :: cz_t T n cur fl fb pl C G P B tl)) (cl' := 0) (sl' := 0) rfl ?_
    refine fw_ic_ge rfl rfl (by omega) (by omega) (by omega) (by omega) (fun hc2 => absurd hc2 (by omega)) (fun hc2 => ?_)
    refine ik_Wk 1 (pc' := 67) (loc' := [some (.ref 1), some (.retAddr 1), some (fI e), some (fI 0)]) (st' := [.ref 1]) (h' := (c0 :: cz_t T n cur fl fb pl C G P B tl)) (cl' := 0) (sl' := 0) rfl ?_
    refine fw_gf rfl rfl rfl rfl ?_
    refine ik_Wk 1 (pc' := 71) (loc' := [some (.ref 1), some (.retAddr 1), some (fI e), some (fI 0)]) (st' := [.ref 1, .ref 2]) (h' := (c0 :: cz_t T n cur fl fb pl C G P B tl)) (cl' := 0) (sl' := 0) rfl ?_
    refine fw_gf rfl rfl rfl rfl ?_
    refine ik_Wk 1 (pc' := 75) (loc' := [some (.ref 1), some (.retAddr 1), some (fI e), some (fI 0)]) (st' := [fI 0, fI cur, .ref 2]) (h' := (c0 :: cz_t T n cur fl fb pl C G P B tl)) (cl' := 0) (sl' := 0) rfl ?_
    refine fw_add rfl ?_
    refine fw_bal rfl rfl (by omega) (by omega) (by omega) ?_
    have hb3 := bT (cur + 0) (by omega) (by omega)
    have hb4 := hy (cur + 0) (by omega) (by omega)
    refine ik_Wk 2 (pc' := 79) (loc' := [some (.ref 1), some (.retAddr 1), some (fI e), some (fI 0)]) (st' := [fI 0, .retAddr 1, fI (T.getD (cur + 0).toNat 0)]) (h' := (c0 :: cz_t T n cur fl fb pl C G P B tl)) (cl' := 0) (sl' := 0) rfl ?_
    refine fw_call 213 2 0 [.retAddr 1, fI 0] [fI (T.getD (cur + 0).toNat 0)] rfl rfl rfl (by decide) rfl rfl (fw_str (cz_len htl) rfl (by decide) (by decide) rfl) (cs_ch0_0 _) ?_
    rintro rv h' ⟨rfl, rfl⟩
    refine ik_Wk 0 (pc' := 82) (loc' := [some (.ref 1), some (.retAddr 1), some (fI e), some (fI 0)]) (st' := [fI 98, fI (T.getD (cur + 0).toNat 0)]) (h' := (c0 :: cz_t T n cur fl fb pl C G P B tl)) (cl' := 0) (sl' := 0) rfl ?_
    refine fw_ic_eq rfl rfl (by omega) (by omega) (by omega) (by omega) (fun hc5 => ?_) (fun hc5 => ?_)
    · refine fw_inc (a := 0) (loc' := [some (.ref 1), some (.retAddr 1), some (fI e), some (fI 1)]) rfl rfl (Nat.le_of_ble_eq_true rfl) rfl ?_
      refine ik_Wk 3 (pc' := 60) (loc' := [some (.ref 1), some (.retAddr 1), some (fI e), some (fI 1)]) (st' := [.retAddr 1, fI 1]) (h' := (c0 :: cz_t T n cur fl fb pl C G P B tl)) (cl' := 0) (sl' := 0) rfl ?_
      refine fw_call 212 1 0 [.retAddr 1] [fI 1] rfl rfl rfl (by decide) rfl rfl (fw_str (cz_len htl) rfl (by decide) (by decide) rfl) (cs_len0 _) ?_
      rintro rv h' ⟨rfl, rfl⟩
      refine ik_Wk 0 (pc' := 63) (loc' := [some (.ref 1), some (.retAddr 1), some (fI e), some (fI 1)]) (st' := [fI 6, fI 1]) (h' := (c0 :: cz_t T n cur fl fb pl C G P B tl)) (cl' := 0) (sl' := 0) rfl ?_
      refine fw_ic_ge rfl rfl (by omega) (by omega) (by omega) (by omega) (fun hc6 => absurd hc6 (by omega)) (fun hc6 => ?_)
      refine ik_Wk 1 (pc' := 67) (loc' := [some (.ref 1), some (.retAddr 1), some (fI e), some (fI 1)]) (st' := [.ref 1]) (h' := (c0 :: cz_t T n cur fl fb pl C G P B tl)) (cl' := 0) (sl' := 0) rfl ?_
      refine fw_gf rfl rfl rfl rfl ?_
      refine ik_Wk 1 (pc' := 71) (loc' := [some (.ref 1), some (.retAddr 1), some (fI e), some (fI 1)]) (st' := [.ref 1, .ref 2]) (h' := (c0 :: cz_t T n cur fl fb pl C G P B tl)) (cl' := 0) (sl' := 0) rfl ?_
      refine fw_gf rfl rfl rfl rfl ?_
      refine ik_Wk 1 (pc' := 75) (loc' := [some (.ref 1), some (.retAddr 1), some (fI e), some (fI 1)]) (st' := [fI 1, fI cur, .ref 2]) (h' := (c0 :: cz_t T n cur fl fb pl C G P B tl)) (cl' := 0) (sl' := 0) rfl ?_
      refine fw_add rfl ?_
      refine fw_bal rfl rfl (by omega) (by omega) (by omega) ?_
      have hb7 := bT (cur + 1) (by omega) (by omega)
      have hb8 := hy (cur + 1) (by omega) (by omega)
      refine ik_Wk 2 (pc' := 79) (loc' := [some (.ref 1), some (.retAddr 1), some (fI e), some (fI 1)]) (st' := [fI 1, .retAddr 1, fI (T.getD (cur + 1).toNat 0)]) (h' := (c0 :: cz_t T n cur fl fb pl C G P B tl)) (cl' := 0) (sl' := 0) rfl ?_
      refine fw_call 213 2 0 [.retAddr 1, fI 1] [fI (T.getD (cur + 1).toNat 0)] rfl rfl rfl (by decide) rfl rfl (fw_str (cz_len htl) rfl (by decide) (by decide) rfl) (cs_ch0_1 _) ?_
      rintro rv h' ⟨rfl, rfl⟩
      refine ik_Wk 0 (pc' := 82) (loc' := [some (.ref 1), some (.retAddr 1), some (fI e), some (fI 1)]) (st' := [fI 114, fI (T.getD (cur + 1).toNat 0)]) (h' := (c0 :: cz_t T n cur fl fb pl C G P B tl)) (cl' := 0) (sl' := 0) rfl ?_
      refine fw_ic_eq rfl rfl (by omega) (by omega) (by omega) (by omega) (fun hc9 => ?_) (fun hc9 => ?_)
      · refine fw_inc (a := 1) (loc' := [some (.ref 1), some (.retAddr 1), some (fI e), some (fI 2)]) rfl rfl (Nat.le_of_ble_eq_true rfl) rfl ?_
        refine ik_Wk 3 (pc' := 60) (loc' := [some (.ref 1), some (.retAddr 1), some (fI e), some (fI 2)]) (st' := [.retAddr 1, fI 2]) (h' := (c0 :: cz_t T n cur fl fb pl C G P B tl)) (cl' := 0) (sl' := 0) rfl ?_
        refine fw_call 212 1 0 [.retAddr 1] [fI 2] rfl rfl rfl (by decide) rfl rfl (fw_str (cz_len htl) rfl (by decide) (by decide) rfl) (cs_len0 _) ?_
        rintro rv h' ⟨rfl, rfl⟩
        refine ik_Wk 0 (pc' := 63) (loc' := [some (.ref 1), some (.retAddr 1), some (fI e), some (fI 2)]) (st' := [fI 6, fI 2]) (h' := (c0 :: cz_t T n cur fl fb pl C G P B tl)) (cl' := 0) (sl' := 0) rfl ?_
        refine fw_ic_ge rfl rfl (by omega) (by omega) (by omega) (by omega) (fun hc10 => absurd hc10 (by omega)) (fun hc10 => ?_)
        refine ik_Wk 1 (pc' := 67) (loc' := [some (.ref 1), some (.retAddr 1), some (fI e), some (fI 2)]) (st' := [.ref 1]) (h' := (c0 :: cz_t T n cur fl fb pl C G P B tl)) (cl' := 0) (sl' := 0) rfl ?_
        refine fw_gf rfl rfl rfl rfl ?_
        refine ik_Wk 1 (pc' := 71) (loc' := [some (.ref 1), some (.retAddr 1), some (fI e), some (fI 2)]) (st' := [.ref 1, .ref 2]) (h' := (c0 :: cz_t T n cur fl fb pl C G P B tl)) (cl' := 0) (sl' := 0) rfl ?_
        refine fw_gf rfl rfl rfl rfl ?_
        refine ik_Wk 1 (pc' := 75) (loc' := [some (.ref 1), some (.retAddr 1), some (fI e), some (fI 2)]) (st' := [fI 2, fI cur, .ref 2]) (h' := (c0 :: cz_t T n cur fl fb pl C G P B tl)) (cl' := 0) (sl' := 0) rfl ?_
        refine fw_add rfl ?_
        refine fw_bal rfl rfl (by omega) (by omega) (by omega) ?_
        have hb11 := bT (cur + 2) (by omega) (by omega)
        have hb12 := hy (cur + 2) (by omega) (by omega)
        refine ik_Wk 2 (pc' := 79) (loc' := [some (.ref 1), some (.retAddr 1), some (fI e), some (fI 2)]) (st' := [fI 2, .retAddr 1, fI (T.getD (cur + 2).toNat 0)]) (h' := (c0 :: cz_t T n cur fl fb pl C G P B tl)) (cl' := 0) (sl' := 0) rfl ?_
        refine fw_call 213 2 0 [.retAddr 1, fI 2] [fI (T.getD (cur + 2).toNat 0)] rfl rfl rfl (by decide) rfl rfl (fw_str (cz_len htl) rfl (by decide) (by decide) rfl) (cs_ch0_2 _) ?_
        rintro rv h' ⟨rfl, rfl⟩
        refine ik_Wk 0 (pc' := 82) (loc' := [some (.ref 1), some (.retAddr 1), some (fI e), some (fI 2)]) (st' := [fI 105, fI (T.getD (cur + 2).toNat 0)]) (h' := (c0 :: cz_t T n cur fl fb pl C G P B tl)) (cl' := 0) (sl' := 0) rfl ?_
        refine fw_ic_eq rfl rfl (by omega) (by omega) (by omega) (by omega) (fun hc13 => ?_) (fun hc13 => ?_)
        · refine fw_inc (a := 2) (loc' := [some (.ref 1), some (.retAddr 1), some (fI e), some (fI 3)]) rfl rfl (Nat.le_of_ble_eq_true rfl) rfl ?_
          refine ik_Wk 3 (pc' := 60) (loc' := [some (.ref 1), some (.retAddr 1), some (fI e), some (fI 3)]) (st' := [.retAddr 1, fI 3]) (h' := (c0 :: cz_t T n cur fl fb pl C G P B tl)) (cl' := 0) (sl' := 0) rfl ?_
          refine fw_call 212 1 0 [.retAddr 1] [fI 3] rfl rfl rfl (by decide) rfl rfl (fw_str (cz_len htl) rfl (by decide) (by decide) rfl) (cs_len0 _) ?_
          rintro rv h' ⟨rfl, rfl⟩
          refine ik_Wk 0 (pc' := 63) (loc' := [some (.ref 1), some (.retAddr 1), some (fI e), some (fI 3)]) (st' := [fI 6, fI 3]) (h' := (c0 :: cz_t T n cur fl fb pl C G P B tl)) (cl' := 0) (sl' := 0) rfl ?_
          refine fw_ic_ge rfl rfl (by omega) (by omega) (by omega) (by omega) (fun hc14 => absurd hc14 (by omega)) (fun hc14 => ?_)
          refine ik_Wk 1 (pc' := 67) (loc' := [some (.ref 1), some (.retAddr 1), some (fI e), some (fI 3)]) (st' := [.ref 1]) (h' := (c0 :: cz_t T n cur fl fb pl C G P B tl)) (cl' := 0) (sl' := 0) rfl ?_
          refine fw_gf rfl rfl rfl rfl ?_
          refine ik_Wk 1 (pc' := 71) (loc' := [some (.ref 1), some (.retAddr 1), some (fI e), some (fI 3)]) (st' := [.ref 1, .ref 2]) (h' := (c0 :: cz_t T n cur fl fb pl C G P B tl)) (cl' := 0) (sl' := 0) rfl ?_
          refine fw_gf rfl rfl rfl rfl ?_
          refine ik_Wk 1 (pc' := 75) (loc' := [some (.ref 1), some (.retAddr 1), some (fI e), some (fI 3)]) (st' := [fI 3, fI cur, .ref 2]) (h' := (c0 :: cz_t T n cur fl fb pl C G P B tl)) (cl' := 0) (sl' := 0) rfl ?_
          refine fw_add rfl ?_
          refine fw_bal rfl rfl (by omega) (by omega) (by omega) ?_
          have hb15 := bT (cur + 3) (by omega) (by omega)
          have hb16 := hy (cur + 3) (by omega) (by omega)
          refine ik_Wk 2 (pc' := 79) (loc' := [some (.ref 1), some (.retAddr 1), some (fI e), some (fI 3)]) (st' := [fI 3, .retAddr 1, fI (T.getD (cur + 3).toNat 0)]) (h' := (c0 :: cz_t T n cur fl fb pl C G P B tl)) (cl' := 0) (sl' := 0) rfl ?_
          refine fw_call 213 2 0 [.retAddr 1, fI 3] [fI (T.getD (cur + 3).toNat 0)] rfl rfl rfl (by decide) rfl rfl (fw_str (cz_len htl) rfl (by decide) (by decide) rfl) (cs_ch0_3 _) ?_
          rintro rv h' ⟨rfl, rfl⟩
          refine ik_Wk 0 (pc' := 82) (loc' := [some (.ref 1), some (.retAddr 1), some (fI e), some (fI 3)]) (st' := [fI 100, fI (T.getD (cur + 3).toNat 0)]) (h' := (c0 :: cz_t T n cur fl fb pl C G P B tl)) (cl' := 0) (sl' := 0) rfl ?_
          refine fw_ic_eq rfl rfl (by omega) (by omega) (by omega) (by omega) (fun hc17 => ?_) (fun hc17 => ?_)
          · refine fw_inc (a := 3) (loc' := [some (.ref 1), some (.retAddr 1), some (fI e), some (fI 4)]) rfl rfl (Nat.le_of_ble_eq_true rfl) rfl ?_
            refine ik_Wk 3 (pc' := 60) (loc' := [some (.ref 1), some (.retAddr 1), some (fI e), some (fI 4)]) (st' := [.retAddr 1, fI 4]) (h' := (c0 :: cz_t T n cur fl fb pl C G P B tl)) (cl' := 0) (sl' := 0) rfl ?_
            refine fw_call 212 1 0 [.retAddr 1] [fI 4] rfl rfl rfl (by decide) rfl rfl (fw_str (cz_len htl) rfl (by decide) (by decide) rfl) (cs_len0 _) ?_
            rintro rv h' ⟨rfl, rfl⟩
            refine ik_Wk 0 (pc' := 63) (loc' := [some (.ref 1), some (.retAddr 1), some (fI e), some (fI 4)]) (st' := [fI 6, fI 4]) (h' := (c0 :: cz_t T n cur fl fb pl C G P B tl)) (cl' := 0) (sl' := 0) rfl ?_
            refine fw_ic_ge rfl rfl (by omega) (by omega) (by omega) (by omega) (fun hc18 => absurd hc18 (by omega)) (fun hc18 => ?_)
            refine ik_Wk 1 (pc' := 67) (loc' := [some (.ref 1), some (.retAddr 1), some (fI e), some (fI 4)]) (st' := [.ref 1]) (h' := (c0 :: cz_t T n cur fl fb pl C G P B tl)) (cl' := 0) (sl' := 0) rfl ?_
            refine fw_gf rfl rfl rfl rfl ?_
            refine ik_Wk 1 (pc' := 71) (loc' := [some (.ref 1), some (.retAddr 1), some (fI e), some (fI 4)]) (st' := [.ref 1, .ref 2]) (h' := (c0 :: cz_t T n cur fl fb pl C G P B tl)) (cl' := 0) (sl' := 0) rfl ?_
            refine fw_gf rfl rfl rfl rfl ?_
            refine ik_Wk 1 (pc' := 75) (loc' := [some (.ref 1), some (.retAddr 1), some (fI e), some (fI 4)]) (st' := [fI 4, fI cur, .ref 2]) (h' := (c0 :: cz_t T n cur fl fb pl C G P B tl)) (cl' := 0) (sl' := 0) rfl ?_
            refine fw_add rfl ?_
            refine fw_bal rfl rfl (by omega) (by omega) (by omega) ?_
            have hb19 := bT (cur + 4) (by omega) (by omega)
            have hb20 := hy (cur + 4) (by omega) (by omega)
            refine ik_Wk 2 (pc' := 79) (loc' := [some (.ref 1), some (.retAddr 1), some (fI e), some (fI 4)]) (st' := [fI 4, .retAddr 1, fI (T.getD (cur + 4).toNat 0)]) (h' := (c0 :: cz_t T n cur fl fb pl C G P B tl)) (cl' := 0) (sl' := 0) rfl ?_
            refine fw_call 213 2 0 [.retAddr 1, fI 4] [fI (T.getD (cur + 4).toNat 0)] rfl rfl rfl (by decide) rfl rfl (fw_str (cz_len htl) rfl (by decide) (by decide) rfl) (cs_ch0_4 _) ?_
            rintro rv h' ⟨rfl, rfl⟩
            refine ik_Wk 0 (pc' := 82) (loc' := [some (.ref 1), some (.retAddr 1), some (fI e), some (fI 4)]) (st' := [fI 103, fI (T.getD (cur + 4).toNat 0)]) (h' := (c0 :: cz_t T n cur fl fb pl C G P B tl)) (cl' := 0) (sl' := 0) rfl ?_
            refine fw_ic_eq rfl rfl (by omega) (by omega) (by omega) (by omega) (fun hc21 => ?_) (fun hc21 => ?_)
            · refine fw_inc (a := 4) (loc' := [some (.ref 1), some (.retAddr 1), some (fI e), some (fI 5)]) rfl rfl (Nat.le_of_ble_eq_true rfl) rfl ?_
              refine ik_Wk 3 (pc' := 60) (loc' := [some (.ref 1), some (.retAddr 1), some (fI e), some (fI 5)]) (st' := [.retAddr 1, fI 5]) (h' := (c0 :: cz_t T n cur fl fb pl C G P B tl)) (cl' := 0) (sl' := 0) rfl ?_
              refine fw_call 212 1 0 [.retAddr 1] [fI 5] rfl rfl rfl (by decide) rfl rfl (fw_str (cz_len htl) rfl (by decide) (by decide) rfl) (cs_len0 _) ?_
              rintro rv h' ⟨rfl, rfl⟩
              refine ik_Wk 0 (pc' := 63) (loc' := [some (.ref 1), some (.retAddr 1), some (fI e), some (fI 5)]) (st' := [fI 6, fI 5]) (h' := (c0 :: cz_t T n cur fl fb pl C G P B tl)) (cl' := 0) (sl' := 0) rfl ?_
              refine fw_ic_ge rfl rfl (by omega) (by omega) (by omega) (by omega) (fun hc22 => absurd hc22 (by omega)) (fun hc22 => ?_)
              refine ik_Wk 1 (pc' := 67) (loc' := [some (.ref 1), some (.retAddr 1), some (fI e), some (fI 5)]) (st' := [.ref 1]) (h' := (c0 :: cz_t T n cur fl fb pl C G P B tl)) (cl' := 0) (sl' := 0) rfl ?_
              refine fw_gf rfl rfl rfl rfl ?_
              refine ik_Wk 1 (pc' := 71) (loc' := [some (.ref 1), some (.retAddr 1), some (fI e), some (fI 5)]) (st' := [.ref 1, .ref 2]) (h' := (c0 :: cz_t T n cur fl fb pl C G P B tl)) (cl' := 0) (sl' := 0) rfl ?_
              refine fw_gf rfl rfl rfl rfl ?_
              refine ik_Wk 1 (pc' := 75) (loc' := [some (.ref 1), some (.retAddr 1), some (fI e), some (fI 5)]) (st' := [fI 5, fI cur, .ref 2]) (h' := (c0 :: cz_t T n cur fl fb pl C G P B tl)) (cl' := 0) (sl' := 0) rfl ?_
              refine fw_add rfl ?_
              refine fw_bal rfl rfl (by omega) (by omega) (by omega) ?_
              have hb23 := bT (cur + 5) (by omega) (by omega)
              have hb24 := hy (cur + 5) (by omega) (by omega)
              refine ik_Wk 2 (pc' := 79) (loc' := [some (.ref 1), some (.retAddr 1), some (fI e), some (fI 5)]) (st' := [fI 5, .retAddr 1, fI (T.getD (cur + 5).toNat 0)]) (h' := (c0 :: cz_t T n cur fl fb pl C G P B tl)) (cl' := 0) (sl' := 0) rfl ?_
              refine fw_call 213 2 0 [.retAddr 1, fI 5] [fI (T.getD (cur + 5).toNat 0)] rfl rfl rfl (by decide) rfl rfl (fw_str (cz_len htl) rfl (by decide) (by decide) rfl) (cs_ch0_5 _) ?_
              rintro rv h' ⟨rfl, rfl⟩
              refine ik_Wk 0 (pc' := 82) (loc' := [some (.ref 1), some (.retAddr 1), some (fI e), some (fI 5)]) (st' := [fI 101, fI (T.getD (cur + 5).toNat 0)]) (h' := (c0 :: cz_t T n cur fl fb pl C G P B tl)) (cl' := 0) (sl' := 0) rfl ?_
              refine fw_ic_eq rfl rfl (by omega) (by omega) (by omega) (by omega) (fun hc25 => ?_) (fun hc25 => ?_)
              · refine fw_inc (a := 5) (loc' := [some (.ref 1), some (.retAddr 1), some (fI e), some (fI 6)]) rfl rfl (Nat.le_of_ble_eq_true rfl) rfl ?_
                refine ik_Wk 3 (pc' := 60) (loc' := [some (.ref 1), some (.retAddr 1), some (fI e), some (fI 6)]) (st' := [.retAddr 1, fI 6]) (h' := (c0 :: cz_t T n cur fl fb pl C G P B tl)) (cl' := 0) (sl' := 0) rfl ?_
                refine fw_call 212 1 0 [.retAddr 1] [fI 6] rfl rfl rfl (by decide) rfl rfl (fw_str (cz_len htl) rfl (by decide) (by decide) rfl) (cs_len0 _) ?_
                rintro rv h' ⟨rfl, rfl⟩
                refine ik_Wk 0 (pc' := 63) (loc' := [some (.ref 1), some (.retAddr 1), some (fI e), some (fI 6)]) (st' := [fI 6, fI 6]) (h' := (c0 :: cz_t T n cur fl fb pl C G P B tl)) (cl' := 0) (sl' := 0) rfl ?_
                refine fw_ic_ge rfl rfl (by omega) (by omega) (by omega) (by omega) (fun hc26 => ?_) (fun hc26 => absurd hc26 (by omega))
                refine ik_Wk 2 (pc' := 95) (loc' := [some (.ref 1), some (.retAddr 1), some (fI e), some (fI 6)]) (st' := [fI e, .ref 1]) (h' := (c0 :: cz_t T n cur fl fb pl C G P B tl)) (cl' := 0) (sl' := 0) rfl ?_
                refine fw_pf (h' := (c0 :: cz_t T n e fl fb pl C G P B tl)) rfl rfl rfl (Nat.le_of_ble_eq_true rfl) rfl rfl rfl ?_
                refine ik_Wk 1 (pc' := 99) (loc' := [some (.ref 1), some (.retAddr 1), some (fI e), some (fI 6)]) (st' := [fI 1]) (h' := (c0 :: cz_t T n e fl fb pl C G P B tl)) (cl' := 0) (sl' := 0) rfl ?_
                exact ik_Wret rfl rfl ⟨_, _, rfl, rfl, rfl, rfl, (Or.inl ⟨by unfold zbr; exact decide_eq_true (by omega), rfl, by rw [show e = cur + 6 by omega]⟩)⟩
              · refine ik_Wk 1 (pc' := 86) (loc' := [some (.ref 1), some (.retAddr 1), some (fI e), some (fI 5)]) (st' := [fI 0]) (h' := (c0 :: cz_t T n cur fl fb pl C G P B tl)) (cl' := 0) (sl' := 0) rfl ?_
                exact ik_Wret rfl rfl ⟨_, _, rfl, rfl, rfl, rfl, (Or.inr ⟨by unfold zbr; exact decide_eq_false (by omega), rfl, rfl⟩)⟩
            · refine ik_Wk 1 (pc' := 86) (loc' := [some (.ref 1), some (.retAddr 1), some (fI e), some (fI 4)]) (st' := [fI 0]) (h' := (c0 :: cz_t T n cur fl fb pl C G P B tl)) (cl' := 0) (sl' := 0) rfl ?_
              exact ik_Wret rfl rfl ⟨_, _, rfl, rfl, rfl, rfl, (Or.inr ⟨by unfold zbr; exact decide_eq_false (by omega), rfl, rfl⟩)⟩
          · refine ik_Wk 1 (pc' := 86) (loc' := [some (.ref 1), some (.retAddr 1), some (fI e), some (fI 3)]) (st' := [fI 0]) (h' := (c0 :: cz_t T n cur fl fb pl C G P B tl)) (cl' := 0) (sl' := 0) rfl ?_
            exact ik_Wret rfl rfl ⟨_, _, rfl, rfl, rfl, rfl, (Or.inr ⟨by unfold zbr; exact decide_eq_false (by omega), rfl, rfl⟩)⟩
        · refine ik_Wk 1 (pc' := 86) (loc' := [some (.ref 1), some (.retAddr 1), some (fI e), some (fI 2)]) (st' := [fI 0]) (h' := (c0 :: cz_t T n cur fl fb pl C G P B tl)) (cl' := 0) (sl' := 0) rfl ?_
          exact ik_Wret rfl rfl ⟨_, _, rfl, rfl, rfl, rfl, (Or.inr ⟨by unfold zbr; exact decide_eq_false (by omega), rfl, rfl⟩)⟩
      · refine ik_Wk 1 (pc' := 86) (loc' := [some (.ref 1), some (.retAddr 1), some (fI e), some (fI 1)]) (st' := [fI 0]) (h' := (c0 :: cz_t T n cur fl fb pl C G P B tl)) (cl' := 0) (sl' := 0) rfl ?_
        exact ik_Wret rfl rfl ⟨_, _, rfl, rfl, rfl, rfl, (Or.inr ⟨by unfold zbr; exact decide_eq_false (by omega), rfl, rfl⟩)⟩
    · refine ik_Wk 1 (pc' := 86) (loc' := [some (.ref 1), some (.retAddr 1), some (fI e), some (fI 0)]) (st' := [fI 0]) (h' := (c0 :: cz_t T n cur fl fb pl C G P B tl)) (cl' := 0) (sl' := 0) rfl ?_
      exact ik_Wret rfl rfl ⟨_, _, rfl, rfl, rfl, rfl, (Or.inr ⟨by unfold zbr; exact decide_eq_false (by omega), rfl, rfl⟩)⟩
  · refine ik_Wk 1 (pc' := 55) (loc' := [some (.ref 1), some (.retAddr 1), some (fI e), none]) (st' := [fI 0]) (h' := (c0 :: cz_t T n cur fl fb pl C G P B tl)) (cl' := 0) (sl' := 0) rfl ?_
    exact ik_Wret rfl rfl ⟨_, _, rfl, rfl, rfl, rfl, (Or.inr ⟨by unfold zbr; exact decide_eq_false (by omega), rfl, rfl⟩)⟩

theorem cz_rw0L {c0 : ik_E} {tl : List ik_E} {y : Int → Int} {T : List Int} {n fl fb pl : Int} {C G P B : List Int} (ok : cz_ok y T n tl) {cur : Int} (h0 : 0 ≤ cur) : ∀ (k : Nat) (e : Int), (n - e).toNat = k → cur ≤ e → e ≤ n → zE y n cur = zE y n e → ik_G 64 5 [some (.ref 1), some (.retAddr 1), some (fI e), none] [] (c0 :: cz_t T n cur fl fb pl C G P B tl) (fun rv h' => (zbr y n cur = true ∧ rv = [fI 1] ∧ h' = (c0 :: cz_t T n (cur + 6) fl fb pl C G P B tl)) ∨ (zbr y n cur = false ∧ rv = [fI 0] ∧ h' = (c0 :: cz_t T n cur fl fb pl C G P B tl))) := by
  have ok' := ok
  obtain ⟨htl, hT, bT, hn, hn2, hy⟩ := ok'
  intro k
  induction k using Nat.strongRecOn with
  | _ k ih =>
    intro e hk h1 h2 he
    refine ik_Wk 2 (pc' := 7) (loc' := [some (.ref 1), some (.retAddr 1), some (fI e), none]) (st' := [.ref 1, fI e]) (h' := (c0 :: cz_t T n cur fl fb pl C G P B tl)) (cl' := 0) (sl' := 0) rfl ?_
    refine fw_gf rfl rfl rfl rfl ?_
    refine fw_ic_ge rfl rfl (by omega) (by omega) (by omega) (by omega) (fun hc1 => ?_) (fun hc1 => ?_)
    · exact cz_rw0E ok h0 h1 h2 (he.trans (zE_stop (y := y) (n := n) (i := e) (by omega)))
    · refine ik_Wk 1 (pc' := 14) (loc' := [some (.ref 1), some (.retAddr 1), some (fI e), none]) (st' := [.ref 1]) (h' := (c0 :: cz_t T n cur fl fb pl C G P B tl)) (cl' := 0) (sl' := 0) rfl ?_
      refine fw_gf rfl rfl rfl rfl ?_
      refine ik_Wk 1 (pc' := 18) (loc' := [some (.ref 1), some (.retAddr 1), some (fI e), none]) (st' := [fI e, .ref 2]) (h' := (c0 :: cz_t T n cur fl fb pl C G P B tl)) (cl' := 0) (sl' := 0) rfl ?_
      refine fw_bal rfl rfl (by omega) (by omega) (by omega) ?_
      have hb2 := bT e (by omega) (by omega)
      have hb3 := hy e (by omega) (by omega)
      refine fw_bi rfl (by decide) ?_
      refine fw_ic_lt rfl rfl (by omega) (by omega) (by omega) (by omega) (fun hc4 => ?_) (fun hc4 => ?_)
      · exact cz_rw0E ok h0 h1 h2 (he.trans (zE_stop (y := y) (n := n) (i := e) (by omega)))
      · refine ik_Wk 1 (pc' := 25) (loc' := [some (.ref 1), some (.retAddr 1), some (fI e), none]) (st' := [.ref 1]) (h' := (c0 :: cz_t T n cur fl fb pl C G P B tl)) (cl' := 0) (sl' := 0) rfl ?_
        refine fw_gf rfl rfl rfl rfl ?_
        refine ik_Wk 1 (pc' := 29) (loc' := [some (.ref 1), some (.retAddr 1), some (fI e), none]) (st' := [fI e, .ref 2]) (h' := (c0 :: cz_t T n cur fl fb pl C G P B tl)) (cl' := 0) (sl' := 0) rfl ?_
        refine fw_bal rfl rfl (by omega) (by omega) (by omega) ?_
        have hb5 := bT e (by omega) (by omega)
        have hb6 := hy e (by omega) (by omega)
        refine fw_bi rfl (by decide) ?_
        refine fw_ic_gt rfl rfl (by omega) (by omega) (by omega) (by omega) (fun hc7 => ?_) (fun hc7 => ?_)
        · exact cz_rw0E ok h0 h1 h2 (he.trans (zE_stop (y := y) (n := n) (i := e) (by omega)))
        · refine fw_inc (a := e) (loc' := [some (.ref 1), some (.retAddr 1), some (fI (e + 1)), none]) rfl rfl (Nat.le_of_ble_eq_true rfl) rfl ?_
          refine ik_Wk 1 (pc' := 5) (loc' := [some (.ref 1), some (.retAddr 1), some (fI (e + 1)), none]) (st' := []) (h' := (c0 :: cz_t T n cur fl fb pl C G P B tl)) (cl' := 0) (sl' := 0) rfl ?_
          exact ih _ (by omega) (e + 1) rfl (by omega) (by omega) (by rw [he, zE_step (y := y) (n := n) (i := e) (by omega) (by omega)])

theorem cz_rw0 {c0 : ik_E} {tl : List ik_E} {y : Int → Int} {T : List Int} {n fl fb pl : Int} {C G P B : List Int} (ok : cz_ok y T n tl) {cur : Int} (h0 : 0 ≤ cur) (h1 : cur ≤ n) : ik_F 64 [.ref 1, .retAddr 1] (c0 :: cz_t T n cur fl fb pl C G P B tl) (fun rv h' => (zbr y n cur = true ∧ rv = [fI 1] ∧ h' = (c0 :: cz_t T n (cur + 6) fl fb pl C G P B tl)) ∨ (zbr y n cur = false ∧ rv = [fI 0] ∧ h' = (c0 :: cz_t T n cur fl fb pl C G P B tl))) := by
  have ok' := ok
  obtain ⟨htl, hT, bT, hn, hn2, hy⟩ := ok'
  refine ik_Wk 1 (pc' := 1) (loc' := [some (.ref 1), some (.retAddr 1), none, none]) (st' := [.ref 1]) (h' := (c0 :: cz_t T n cur fl fb pl C G P B tl)) (cl' := 0) (sl' := 0) rfl ?_
  refine fw_gf rfl rfl rfl rfl ?_
  refine ik_Wk 1 (pc' := 5) (loc' := [some (.ref 1), some (.retAddr 1), some (fI cur), none]) (st' := []) (h' := (c0 :: cz_t T n cur fl fb pl C G P B tl)) (cl' := 0) (sl' := 0) rfl ?_
  exact cz_rw0L ok h0 _ cur rfl (by omega) (by omega) rfl

theorem cz_rw1E {c0 : ik_E} {tl : List ik_E} {y : Int → Int} {T : List Int} {n fl fb pl : Int} {C G P B : List Int} (ok : cz_ok y T n tl) {cur e : Int} (h0 : 0 ≤ cur) (h1 : cur ≤ e) (h2 : e ≤ n) (he : zE y n cur = e) : ik_G 64 41 [some (.ref 1), some (.retAddr 3), some (fI e), none] [] (c0 :: cz_t T n cur fl fb pl C G P B tl) (fun rv h' => (zpl y n cur = true ∧ rv = [fI 1] ∧ h' = (c0 :: cz_t T n (cur + 5) fl fb pl C G P B tl)) ∨ (zpl y n cur = false ∧ rv = [fI 0] ∧ h' = (c0 :: cz_t T n cur fl fb pl C G P B tl))) := by
  have ok' := ok
  obtain ⟨htl, hT, bT, hn, hn2, hy⟩ := ok'
  have q0 : y (cur + 0) = y cur := congrArg y (Int.add_zero cur)
  refine ik_Wk 2 (pc' := 43) (loc' := [some (.ref 1), some (.retAddr 3), some (fI e), none]) (st' := [.ref 1, fI e]) (h' := (c0 :: cz_t T n cur fl fb pl C G P B tl)) (cl' := 0) (sl' := 0) rfl ?_
  refine fw_gf rfl rfl rfl rfl ?_
  refine fw_sub rfl ?_
  refine ik_Wk 1 (pc' := 48) (loc' := [some (.ref 1), some (.retAddr 3), some (fI e), none]) (st' := [.retAddr 3, fI (e - cur)]) (h' := (c0 :: cz_t T n cur fl fb pl C G P B tl)) (cl' := 0) (sl' := 0) rfl ?_
  refine fw_call 212 1 0 [.retAddr 3] [fI (e - cur)] rfl rfl rfl (by decide) rfl rfl (fw_str (cz_len htl) rfl (by decide) (by decide) rfl) (cs_len1 _) ?_
  rintro rv h' ⟨rfl, rfl⟩
  refine ik_Wk 0 (pc' := 51) (loc' := [some (.ref 1), some (.retAddr 3), some (fI e), none]) (st' := [fI 5, fI (e - cur)]) (h' := (c0 :: cz_t T n cur fl fb pl C G P B tl)) (cl' := 0) (sl' := 0) rfl ?_
  refine fw_ic_eq rfl rfl (by omega) (by omega) (by omega) (by omega) (fun hc1 => ?_) (fun hc1 => ?_)
  · refine ik_Wk 4 (pc' := 60) (loc' := [some (.ref 1), some (.retAddr 3), some (fI e), some (fI 0)]) (st' := [.retAddr 3, fI 0]) (h' := (c0 :: cz_t T n cur fl fb pl C G P B tl)) (cl' := 0) (sl' := 0) rfl ?_
    refine fw_call 212 1 0 [.retAddr 3] [fI 0] rfl rfl rfl (by decide) rfl rfl (fw_str (cz_len htl) rfl (by decide) (by decide) rfl) (cs_len1 _) ?_
    rintro rv h' ⟨rfl, rfl⟩
    refine ik_Wk 0 (pc' := 63) (loc' := [some (.ref 1), some (.retAddr 3), some (fI e), some (fI 0)]) (st' := [fI 5, fI 0]) (h' := (c0 :: cz_t T n cur fl fb pl C G P B tl)) (cl' := 0) (sl' := 0) rfl ?_
    refine fw_ic_ge rfl rfl (by omega) (by omega) (by omega) (by omega) (fun hc2 => absurd hc2 (by omega)) (fun hc2 => ?_)
    refine ik_Wk 1 (pc' := 67) (loc' := [some (.ref 1), some (.retAddr 3), some (fI e), some (fI 0)]) (st' := [.ref 1]) (h' := (c0 :: cz_t T n cur fl fb pl C G P B tl)) (cl' := 0) (sl' := 0) rfl ?_
    refine fw_gf rfl rfl rfl rfl ?_
    refine ik_Wk 1 (pc' := 71) (loc' := [some (.ref 1), some (.retAddr 3), some (fI e), some (fI 0)]) (st' := [.ref 1, .ref 2]) (h' := (c0 :: cz_t T n cur fl fb pl C G P B tl)) (cl' := 0) (sl' := 0) rfl ?_
    refine fw_gf rfl rfl rfl rfl ?_
    refine ik_Wk 1 (pc' := 75) (loc' := [some (.ref 1), some (.retAddr 3), some (fI e), some (fI 0)]) (st' := [fI 0, fI cur, .ref 2]) (h' := (c0 :: cz_t T n cur fl fb pl C G P B tl)) (cl' := 0) (sl' := 0) rfl ?_
    refine fw_add rfl ?_
    refine fw_bal rfl rfl (by omega) (by omega) (by omega) ?_
    have hb3 := bT (cur + 0) (by omega) (by omega)
    have hb4 := hy (cur + 0) (by omega) (by omega)
    refine ik_Wk 2 (pc' := 79) (loc' := [some (.ref 1), some (.retAddr 3), some (fI e), some (fI 0)]) (st' := [fI 0, .retAddr 3, fI (T.getD (cur + 0).toNat 0)]) (h' := (c0 :: cz_t T n cur fl fb pl C G P B tl)) (cl' := 0) (sl' := 0) rfl ?_
    refine fw_call 213 2 0 [.retAddr 3, fI 0] [fI (T.getD (cur + 0).toNat 0)] rfl rfl rfl (by decide) rfl rfl (fw_str (cz_len htl) rfl (by decide) (by decide) rfl) (cs_ch1_0 _) ?_
    rintro rv h' ⟨rfl, rfl⟩
    refine ik_Wk 0 (pc' := 82) (loc' := [some (.ref 1), some (.retAddr 3), some (fI e), some (fI 0)]) (st' := [fI 112, fI (T.getD (cur + 0).toNat 0)]) (h' := (c0 :: cz_t T n cur fl fb pl C G P B tl)) (cl' := 0) (sl' := 0) rfl ?_
    refine fw_ic_eq rfl rfl (by omega) (by omega) (by omega) (by omega) (fun hc5 => ?_) (fun hc5 => ?_)
    · refine fw_inc (a := 0) (loc' := [some (.ref 1), some (.retAddr 3), some (fI e), some (fI 1)]) rfl rfl (Nat.le_of_ble_eq_true rfl) rfl ?_
      refine ik_Wk 3 (pc' := 60) (loc' := [some (.ref 1), some (.retAddr 3), some (fI e), some (fI 1)]) (st' := [.retAddr 3, fI 1]) (h' := (c0 :: cz_t T n cur fl fb pl C G P B tl)) (cl' := 0) (sl' := 0) rfl ?_
      refine fw_call 212 1 0 [.retAddr 3] [fI 1] rfl rfl rfl (by decide) rfl rfl (fw_str (cz_len htl) rfl (by decide) (by decide) rfl) (cs_len1 _) ?_
      rintro rv h' ⟨rfl, rfl⟩
      refine ik_Wk 0 (pc' := 63) (loc' := [some (.ref 1), some (.retAddr 3), some (fI e), some (fI 1)]) (st' := [fI 5, fI 1]) (h' := (c0 :: cz_t T n cur fl fb pl C G P B tl)) (cl' := 0) (sl' := 0) rfl ?_
      refine fw_ic_ge rfl rfl (by omega) (by omega) (by omega) (by omega) (fun hc6 => absurd hc6 (by omega)) (fun hc6 => ?_)
      refine ik_Wk 1 (pc' := 67) (loc' := [some (.ref 1), some (.retAddr 3), some (fI e), some (fI 1)]) (st' := [.ref 1]) (h' := (c0 :: cz_t T n cur fl fb pl C G P B tl)) (cl' := 0) (sl' := 0) rfl ?_
      refine fw_gf rfl rfl rfl rfl ?_
      refine ik_Wk 1 (pc' := 71) (loc' := [some (.ref 1), some (.retAddr 3), some (fI e), some (fI 1)]) (st' := [.ref 1, .ref 2]) (h' := (c0 :: cz_t T n cur fl fb pl C G P B tl)) (cl' := 0) (sl' := 0) rfl ?_
      refine fw_gf rfl rfl rfl rfl ?_
      refine ik_Wk 1 (pc' := 75) (loc' := [some (.ref 1), some (.retAddr 3), some (fI e), some (fI 1)]) (st' := [fI 1, fI cur, .ref 2]) (h' := (c0 :: cz_t T n cur fl fb pl C G P B tl)) (cl' := 0) (sl' := 0) rfl ?_
      refine fw_add rfl ?_
      refine fw_bal rfl rfl (by omega) (by omega) (by omega) ?_
      have hb7 := bT (cur + 1) (by omega) (by omega)
      have hb8 := hy (cur + 1) (by omega) (by omega)
      refine ik_Wk 2 (pc' := 79) (loc' := [some (.ref 1), some (.retAddr 3), some (fI e), some (fI 1)]) (st' := [fI 1, .retAddr 3, fI (T.getD (cur + 1).toNat 0)]) (h' := (c0 :: cz_t T n cur fl fb pl C G P B tl)) (cl' := 0) (sl' := 0) rfl ?_
      refine fw_call 213 2 0 [.retAddr 3, fI 1] [fI (T.getD (cur + 1).toNat 0)] rfl rfl rfl (by decide) rfl rfl (fw_str (cz_len htl) rfl (by decide) (by decide) rfl) (cs_ch1_1 _) ?_
      rintro rv h' ⟨rfl, rfl⟩
      refine ik_Wk 0 (pc' := 82) (loc' := [some (.ref 1), some (.retAddr 3), some (fI e), some (fI 1)]) (st' := [fI 108, fI (T.getD (cur + 1).toNat 0)]) (h' := (c0 :: cz_t T n cur fl fb pl C G P B tl)) (cl' := 0) (sl' := 0) rfl ?_
      refine fw_ic_eq rfl rfl (by omega) (by omega) (by omega) (by omega) (fun hc9 => ?_) (fun hc9 => ?_)
      · refine fw_inc (a := 1) (loc' := [some (.ref 1), some (.retAddr 3), some (fI e), some (fI 2)]) rfl rfl (Nat.le_of_ble_eq_true rfl) rfl ?_
        refine ik_Wk 3 (pc' := 60) (loc' := [some (.ref 1), some (.retAddr 3), some (fI e), some (fI 2)]) (st' := [.retAddr 3, fI 2]) (h' := (c0 :: cz_t T n cur fl fb pl C G P B tl)) (cl' := 0) (sl' := 0) rfl ?_
        refine fw_call 212 1 0 [.retAddr 3] [fI 2] rfl rfl rfl (by decide) rfl rfl (fw_str (cz_len htl) rfl (by decide) (by decide) rfl) (cs_len1 _) ?_
        rintro rv h' ⟨rfl, rfl⟩
        refine ik_Wk 0 (pc' := 63) (loc' := [some (.ref 1), some (.retAddr 3), some (fI e), some (fI 2)]) (st' := [fI 5, fI 2]) (h' := (c0 :: cz_t T n cur fl fb pl C G P B tl)) (cl' := 0) (sl' := 0) rfl ?_
        refine fw_ic_ge rfl rfl (by omega) (by omega) (by omega) (by omega) (fun hc10 => absurd hc10 (by omega)) (fun hc10 => ?_)
        refine ik_Wk 1 (pc' := 67) (loc' := [some (.ref 1), some (.retAddr 3), some (fI e), some (fI 2)]) (st' := [.ref 1]) (h' := (c0 :: cz_t T n cur fl fb pl C G P B tl)) (cl' := 0) (sl' := 0) rfl ?_
        refine fw_gf rfl rfl rfl rfl ?_
        refine ik_Wk 1 (pc' := 71) (loc' := [some (.ref 1), some (.retAddr 3), some (fI e), some (fI 2)]) (st' := [.ref 1, .ref 2]) (h' := (c0 :: cz_t T n cur fl fb pl C G P B tl)) (cl' := 0) (sl' := 0) rfl ?_
        refine fw_gf rfl rfl rfl rfl ?_
        refine ik_Wk 1 (pc' := 75) (loc' := [some (.ref 1), some (.retAddr 3), some (fI e), some (fI 2)]) (st' := [fI 2, fI cur, .ref 2]) (h' := (c0 :: cz_t T n cur fl fb pl C G P B tl)) (cl' := 0) (sl' := 0) rfl ?_
        refine fw_add rfl ?_
        refine fw_bal rfl rfl (by omega) (by omega) (by omega) ?_
        have hb11 := bT (cur + 2) (by omega) (by omega)
        have hb12 := hy (cur + 2) (by omega) (by omega)
        refine ik_Wk 2 (pc' := 79) (loc' := [some (.ref 1), some (.retAddr 3), some (fI e), some (fI 2)]) (st' := [fI 2, .retAddr 3, fI (T.getD (cur + 2).toNat 0)]) (h' := (c0 :: cz_t T n cur fl fb pl C G P B tl)) (cl' := 0) (sl' := 0) rfl ?_
        refine fw_call 213 2 0 [.retAddr 3, fI 2] [fI (T.getD (cur + 2).toNat 0)] rfl rfl rfl (by decide) rfl rfl (fw_str (cz_len htl) rfl (by decide) (by decide) rfl) (cs_ch1_2 _) ?_
        rintro rv h' ⟨rfl, rfl⟩
        refine ik_Wk 0 (pc' := 82) (loc' := [some (.ref 1), some (.retAddr 3), some (fI e), some (fI 2)]) (st' := [fI 97, fI (T.getD (cur + 2).toNat 0)]) (h' := (c0 :: cz_t T n cur fl fb pl C G P B tl)) (cl' := 0) (sl' := 0) rfl ?_
        refine fw_ic_eq rfl rfl (by omega) (by omega) (by omega) (by omega) (fun hc13 => ?_) (fun hc13 => ?_)
        · refine fw_inc (a := 2) (loc' := [some (.ref 1), some (.retAddr 3), some (fI e), some (fI 3)]) rfl rfl (Nat.le_of_ble_eq_true rfl) rfl ?_
          refine ik_Wk 3 (pc' := 60) (loc' := [some (.ref 1), some (.retAddr 3), some (fI e), some (fI 3)]) (st' := [.retAddr 3, fI 3]) (h' := (c0 :: cz_t T n cur fl fb pl C G P B tl)) (cl' := 0) (sl' := 0) rfl ?_
          refine fw_call 212 1 0 [.retAddr 3] [fI 3] rfl rfl rfl (by decide) rfl rfl (fw_str (cz_len htl) rfl (by decide) (by decide) rfl) (cs_len1 _) ?_
          rintro rv h' ⟨rfl, rfl⟩
          refine ik_Wk 0 (pc' := 63) (loc' := [some (.ref 1), some (.retAddr 3), some (fI e), some (fI 3)]) (st' := [fI 5, fI 3]) (h' := (c0 :: cz_t T n cur fl fb pl C G P B tl)) (cl' := 0) (sl' := 0) rfl ?_
          refine fw_ic_ge rfl rfl (by omega) (by omega) (by omega) (by omega) (fun hc14 => absurd hc14 (by omega)) (fun hc14 => ?_)
          refine ik_Wk 1 (pc' := 67) (loc' := [some (.ref 1), some (.retAddr 3), some (fI e), some (fI 3)]) (st' := [.ref 1]) (h' := (c0 :: cz_t T n cur fl fb pl C G P B tl)) (cl' := 0) (sl' := 0) rfl ?_
          refine fw_gf rfl rfl rfl rfl ?_
          refine ik_Wk 1 (pc' := 71) (loc' := [some (.ref 1), some (.retAddr 3), some (fI e), some (fI 3)]) (st' := [.ref 1, .ref 2]) (h' := (c0 :: cz_t T n cur fl fb pl C G P B tl)) (cl' := 0) (sl' := 0) rfl ?_
          refine fw_gf rfl rfl rfl rfl ?_
          refine ik_Wk 1 (pc' := 75) (loc' := [some (.ref 1), some (.retAddr 3), some (fI e), some (fI 3)]) (st' := [fI 3, fI cur, .ref 2]) (h' := (c0 :: cz_t T n cur fl fb pl C G P B tl)) (cl' := 0) (sl' := 0) rfl ?_
          refine fw_add rfl ?_
          refine fw_bal rfl rfl (by omega) (by omega) (by omega) ?_
          have hb15 := bT (cur + 3) (by omega) (by omega)
          have hb16 := hy (cur + 3) (by omega) (by omega)
          refine ik_Wk 2 (pc' := 79) (loc' := [some (.ref 1), some (.retAddr 3), some (fI e), some (fI 3)]) (st' := [fI 3, .retAddr 3, fI (T.getD (cur + 3).toNat 0)]) (h' := (c0 :: cz_t T n cur fl fb pl C G P B tl)) (cl' := 0) (sl' := 0) rfl ?_
          refine fw_call 213 2 0 [.retAddr 3, fI 3] [fI (T.getD (cur + 3).toNat 0)] rfl rfl rfl (by decide) rfl rfl (fw_str (cz_len htl) rfl (by decide) (by decide) rfl) (cs_ch1_3 _) ?_
          rintro rv h' ⟨rfl, rfl⟩
          refine ik_Wk 0 (pc' := 82) (loc' := [some (.ref 1), some (.retAddr 3), some (fI e), some (fI 3)]) (st' := [fI 99, fI (T.getD (cur + 3).toNat 0)]) (h' := (c0 :: cz_t T n cur fl fb pl C G P B tl)) (cl' := 0) (sl' := 0) rfl ?_
          refine fw_ic_eq rfl rfl (by omega) (by omega) (by omega) (by omega) (fun hc17 => ?_) (fun hc17 => ?_)
          · refine fw_inc (a := 3) (loc' := [some (.ref 1), some (.retAddr 3), some (fI e), some (fI 4)]) rfl rfl (Nat.le_of_ble_eq_true rfl) rfl ?_
            refine ik_Wk 3 (pc' := 60) (loc' := [some (.ref 1), some (.retAddr 3), some (fI e), some (fI 4)]) (st' := [.retAddr 3, fI 4]) (h' := (c0 :: cz_t T n cur fl fb pl C G P B tl)) (cl' := 0) (sl' := 0) rfl ?_
            refine fw_call 212 1 0 [.retAddr 3] [fI 4] rfl rfl rfl (by decide) rfl rfl (fw_str (cz_len htl) rfl (by decide) (by decide) rfl) (cs_len1 _) ?_
            rintro rv h' ⟨rfl, rfl⟩
            refine ik_Wk 0 (pc' := 63) (loc' := [some (.ref 1), some (.retAddr 3), some (fI e), some (fI 4)]) (st' := [fI 5, fI 4]) (h' := (c0 :: cz_t T n cur fl fb pl C G P B tl)) (cl' := 0) (sl' := 0) rfl ?_
            refine fw_ic_ge rfl rfl (by omega) (by omega) (by omega) (by omega) (fun hc18 => absurd hc18 (by omega)) (fun hc18 => ?_)
            refine ik_Wk 1 (pc' := 67) (loc' := [some (.ref 1), some (.retAddr 3), some (fI e), some (fI 4)]) (st' := [.ref 1]) (h' := (c0 :: cz_t T n cur fl fb pl C G P B tl)) (cl' := 0) (sl' := 0) rfl ?_
            refine fw_gf rfl rfl rfl rfl ?_
            refine ik_Wk 1 (pc' := 71) (loc' := [some (.ref 1), some (.retAddr 3), some (fI e), some (fI 4)]) (st' := [.ref 1, .ref 2]) (h' := (c0 :: cz_t T n cur fl fb pl C G P B tl)) (cl' := 0) (sl' := 0) rfl ?_
            refine fw_gf rfl rfl rfl rfl ?_
            refine ik_Wk 1 (pc' := 75) (loc' := [some (.ref 1), some (.retAddr 3), some (fI e), some (fI 4)]) (st' := [fI 4, fI cur, .ref 2]) (h' := (c0 :: cz_t T n cur fl fb pl C G P B tl)) (cl' := 0) (sl' := 0) rfl ?_
            refine fw_add rfl ?_
            refine fw_bal rfl rfl (by omega) (by omega) (by omega) ?_
            have hb19 := bT (cur + 4) (by omega) (by omega)
            have hb20 := hy (cur + 4) (by omega) (by omega)
            refine ik_Wk 2 (pc' := 79) (loc' := [some (.ref 1), some (.retAddr 3), some (fI e), some (fI 4)]) (st' := [fI 4, .retAddr 3, fI (T.getD (cur + 4).toNat 0)]) (h' := (c0 :: cz_t T n cur fl fb pl C G P B tl)) (cl' := 0) (sl' := 0) rfl ?_
            refine fw_call 213 2 0 [.retAddr 3, fI 4] [fI (T.getD (cur + 4).toNat 0)] rfl rfl rfl (by decide) rfl rfl (fw_str (cz_len htl) rfl (by decide) (by decide) rfl) (cs_ch1_4 _) ?_
            rintro rv h' ⟨rfl, rfl⟩
            refine ik_Wk 0 (pc' := 82) (loc' := [some (.ref 1), some (.retAddr 3), some (fI e), some (fI 4)]) (st' := [fI 101, fI (T.getD (cur + 4).toNat 0)]) (h' := (c0 :: cz_t T n cur fl fb pl C G P B tl)) (cl' := 0) (sl' := 0) rfl ?_
            refine fw_ic_eq rfl rfl (by omega) (by omega) (by omega) (by omega) (fun hc21 => ?_) (fun hc21 => ?_)
            · refine fw_inc (a := 4) (loc' := [some (.ref 1), some (.retAddr 3), some (fI e), some (fI 5)]) rfl rfl (Nat.le_of_ble_eq_true rfl) rfl ?_
              refine ik_Wk 3 (pc' := 60) (loc' := [some (.ref 1), some (.retAddr 3), some (fI e), some (fI 5)]) (st' := [.retAddr 3, fI 5]) (h' := (c0 :: cz_t T n cur fl fb pl C G P B tl)) (cl' := 0) (sl' := 0) rfl ?_
              refine fw_call 212 1 0 [.retAddr 3] [fI 5] rfl rfl rfl (by decide) rfl rfl (fw_str (cz_len htl) rfl (by decide) (by decide) rfl) (cs_len1 _) ?_
              rintro rv h' ⟨rfl, rfl⟩
              refine ik_Wk 0 (pc' := 63) (loc' := [some (.ref 1), some (.retAddr 3), some (fI e), some (fI 5)]) (st' := [fI 5, fI 5]) (h' := (c0 :: cz_t T n cur fl fb pl C G P B tl)) (cl' := 0) (sl' := 0) rfl ?_
              refine fw_ic_ge rfl rfl (by omega) (by omega) (by omega) (by omega) (fun hc22 => ?_) (fun hc22 => absurd hc22 (by omega))
              refine ik_Wk 2 (pc' := 95) (loc' := [some (.ref 1), some (.retAddr 3), some (fI e), some (fI 5)]) (st' := [fI e, .ref 1]) (h' := (c0 :: cz_t T n cur fl fb pl C G P B tl)) (cl' := 0) (sl' := 0) rfl ?_
              refine fw_pf (h' := (c0 :: cz_t T n e fl fb pl C G P B tl)) rfl rfl rfl (Nat.le_of_ble_eq_true rfl) rfl rfl rfl ?_
              refine ik_Wk 1 (pc' := 99) (loc' := [some (.ref 1), some (.retAddr 3), some (fI e), some (fI 5)]) (st' := [fI 1]) (h' := (c0 :: cz_t T n e fl fb pl C G P B tl)) (cl' := 0) (sl' := 0) rfl ?_
              exact ik_Wret rfl rfl ⟨_, _, rfl, rfl, rfl, rfl, (Or.inl ⟨by unfold zpl; exact decide_eq_true (by omega), rfl, by rw [show e = cur + 5 by omega]⟩)⟩
            · refine ik_Wk 1 (pc' := 86) (loc' := [some (.ref 1), some (.retAddr 3), some (fI e), some (fI 4)]) (st' := [fI 0]) (h' := (c0 :: cz_t T n cur fl fb pl C G P B tl)) (cl' := 0) (sl' := 0) rfl ?_
              exact ik_Wret rfl rfl ⟨_, _, rfl, rfl, rfl, rfl, (Or.inr ⟨by unfold zpl; exact decide_eq_false (by omega), rfl, rfl⟩)⟩
          · refine ik_Wk 1 (pc' := 86) (loc' := [some (.ref 1), some (.retAddr 3), some (fI e), some (fI 3)]) (st' := [fI 0]) (h' := (c0 :: cz_t T n cur fl fb pl C G P B tl)) (cl' := 0) (sl' := 0) rfl ?_
            exact ik_Wret rfl rfl ⟨_, _, rfl, rfl, rfl, rfl, (Or.inr ⟨by unfold zpl; exact decide_eq_false (by omega), rfl, rfl⟩)⟩
        · refine ik_Wk 1 (pc' := 86) (loc' := [some (.ref 1), some (.retAddr 3), some (fI e), some (fI 2)]) (st' := [fI 0]) (h' := (c0 :: cz_t T n cur fl fb pl C G P B tl)) (cl' := 0) (sl' := 0) rfl ?_
          exact ik_Wret rfl rfl ⟨_, _, rfl, rfl, rfl, rfl, (Or.inr ⟨by unfold zpl; exact decide_eq_false (by omega), rfl, rfl⟩)⟩
      · refine ik_Wk 1 (pc' := 86) (loc' := [some (.ref 1), some (.retAddr 3), some (fI e), some (fI 1)]) (st' := [fI 0]) (h' := (c0 :: cz_t T n cur fl fb pl C G P B tl)) (cl' := 0) (sl' := 0) rfl ?_
        exact ik_Wret rfl rfl ⟨_, _, rfl, rfl, rfl, rfl, (Or.inr ⟨by unfold zpl; exact decide_eq_false (by omega), rfl, rfl⟩)⟩
    · refine ik_Wk 1 (pc' := 86) (loc' := [some (.ref 1), some (.retAddr 3), some (fI e), some (fI 0)]) (st' := [fI 0]) (h' := (c0 :: cz_t T n cur fl fb pl C G P B tl)) (cl' := 0) (sl' := 0) rfl ?_
      exact ik_Wret rfl rfl ⟨_, _, rfl, rfl, rfl, rfl, (Or.inr ⟨by unfold zpl; exact decide_eq_false (by omega), rfl, rfl⟩)⟩
  · refine ik_Wk 1 (pc' := 55) (loc' := [some (.ref 1), some (.retAddr 3), some (fI e), none]) (st' := [fI 0]) (h' := (c0 :: cz_t T n cur fl fb pl C G P B tl)) (cl' := 0) (sl' := 0) rfl ?_
    exact ik_Wret rfl rfl ⟨_, _, rfl, rfl, rfl, rfl, (Or.inr ⟨by unfold zpl; exact decide_eq_false (by omega), rfl, rfl⟩)⟩

theorem cz_rw1L {c0 : ik_E} {tl : List ik_E} {y : Int → Int} {T : List Int} {n fl fb pl : Int} {C G P B : List Int} (ok : cz_ok y T n tl) {cur : Int} (h0 : 0 ≤ cur) : ∀ (k : Nat) (e : Int), (n - e).toNat = k → cur ≤ e → e ≤ n → zE y n cur = zE y n e → ik_G 64 5 [some (.ref 1), some (.retAddr 3), some (fI e), none] [] (c0 :: cz_t T n cur fl fb pl C G P B tl) (fun rv h' => (zpl y n cur = true ∧ rv = [fI 1] ∧ h' = (c0 :: cz_t T n (cur + 5) fl fb pl C G P B tl)) ∨ (zpl y n cur = false ∧ rv = [fI 0] ∧ h' = (c0 :: cz_t T n cur fl fb pl C G P B tl))) := by
  have ok' := ok
  obtain ⟨htl, hT, bT, hn, hn2, hy⟩ := ok'
  intro k
  induction k using Nat.strongRecOn with
  | _ k ih =>
    intro e hk h1 h2 he
    refine ik_Wk 2 (pc' := 7) (loc' := [some (.ref 1), some (.retAddr 3), some (fI e), none]) (st' := [.ref 1, fI e]) (h' := (c0 :: cz_t T n cur fl fb pl C G P B tl)) (cl' := 0) (sl' := 0) rfl ?_
    refine fw_gf rfl rfl rfl rfl ?_
    refine fw_ic_ge rfl rfl (by omega) (by omega) (by omega) (by omega) (fun hc1 => ?_) (fun hc1 => ?_)
    · exact cz_rw1E ok h0 h1 h2 (he.trans (zE_stop (y := y) (n := n) (i := e) (by omega)))
    · refine ik_Wk 1 (pc' := 14) (loc' := [some (.ref 1), some (.retAddr 3), some (fI e), none]) (st' := [.ref 1]) (h' := (c0 :: cz_t T n cur fl fb pl C G P B tl)) (cl' := 0) (sl' := 0) rfl ?_
      refine fw_gf rfl rfl rfl rfl ?_
      refine ik_Wk 1 (pc' := 18) (loc' := [some (.ref 1), some (.retAddr 3), some (fI e), none]) (st' := [fI e, .ref 2]) (h' := (c0 :: cz_t T n cur fl fb pl C G P B tl)) (cl' := 0) (sl' := 0) rfl ?_
      refine fw_bal rfl rfl (by omega) (by omega) (by omega) ?_
      have hb2 := bT e (by omega) (by omega)
      have hb3 := hy e (by omega) (by omega)
      refine fw_bi rfl (by decide) ?_
      refine fw_ic_lt rfl rfl (by omega) (by omega) (by omega) (by omega) (fun hc4 => ?_) (fun hc4 => ?_)
      · exact cz_rw1E ok h0 h1 h2 (he.trans (zE_stop (y := y) (n := n) (i := e) (by omega)))
      · refine ik_Wk 1 (pc' := 25) (loc' := [some (.ref 1), some (.retAddr 3), some (fI e), none]) (st' := [.ref 1]) (h' := (c0 :: cz_t T n cur fl fb pl C G P B tl)) (cl' := 0) (sl' := 0) rfl ?_
        refine fw_gf rfl rfl rfl rfl ?_
        refine ik_Wk 1 (pc' := 29) (loc' := [some (.ref 1), some (.retAddr 3), some (fI e), none]) (st' := [fI e, .ref 2]) (h' := (c0 :: cz_t T n cur fl fb pl C G P B tl)) (cl' := 0) (sl' := 0) rfl ?_
        refine fw_bal rfl rfl (by omega) (by omega) (by omega) ?_
        have hb5 := bT e (by omega) (by omega)
        have hb6 := hy e (by omega) (by omega)
        refine fw_bi rfl (by decide) ?_
        refine fw_ic_gt rfl rfl (by omega) (by omega) (by omega) (by omega) (fun hc7 => ?_) (fun hc7 => ?_)
        · exact cz_rw1E ok h0 h1 h2 (he.trans (zE_stop (y := y) (n := n) (i := e) (by omega)))
        · refine fw_inc (a := e) (loc' := [some (.ref 1), some (.retAddr 3), some (fI (e + 1)), none]) rfl rfl (Nat.le_of_ble_eq_true rfl) rfl ?_
          refine ik_Wk 1 (pc' := 5) (loc' := [some (.ref 1), some (.retAddr 3), some (fI (e + 1)), none]) (st' := []) (h' := (c0 :: cz_t T n cur fl fb pl C G P B tl)) (cl' := 0) (sl' := 0) rfl ?_
          exact ih _ (by omega) (e + 1) rfl (by omega) (by omega) (by rw [he, zE_step (y := y) (n := n) (i := e) (by omega) (by omega)])

theorem cz_rw1 {c0 : ik_E} {tl : List ik_E} {y : Int → Int} {T : List Int} {n fl fb pl : Int} {C G P B : List Int} (ok : cz_ok y T n tl) {cur : Int} (h0 : 0 ≤ cur) (h1 : cur ≤ n) : ik_F 64 [.ref 1, .retAddr 3] (c0 :: cz_t T n cur fl fb pl C G P B tl) (fun rv h' => (zpl y n cur = true ∧ rv = [fI 1] ∧ h' = (c0 :: cz_t T n (cur + 5) fl fb pl C G P B tl)) ∨ (zpl y n cur = false ∧ rv = [fI 0] ∧ h' = (c0 :: cz_t T n cur fl fb pl C G P B tl))) := by
  have ok' := ok
  obtain ⟨htl, hT, bT, hn, hn2, hy⟩ := ok'
  refine ik_Wk 1 (pc' := 1) (loc' := [some (.ref 1), some (.retAddr 3), none, none]) (st' := [.ref 1]) (h' := (c0 :: cz_t T n cur fl fb pl C G P B tl)) (cl' := 0) (sl' := 0) rfl ?_
  refine fw_gf rfl rfl rfl rfl ?_
  refine ik_Wk 1 (pc' := 5) (loc' := [some (.ref 1), some (.retAddr 3), some (fI cur), none]) (st' := []) (h' := (c0 :: cz_t T n cur fl fb pl C G P B tl)) (cl' := 0) (sl' := 0) rfl ?_
  exact cz_rw1L ok h0 _ cur rfl (by omega) (by omega) rfl

theorem cz_rw2E {c0 : ik_E} {tl : List ik_E} {y : Int → Int} {T : List Int} {n fl fb pl : Int} {C G P B : List Int} (ok : cz_ok y T n tl) {cur e : Int} (h0 : 0 ≤ cur) (h1 : cur ≤ e) (h2 : e ≤ n) (he : zE y n cur = e) : ik_G 64 41 [some (.ref 1), some (.retAddr 5), some (fI e), none] [] (c0 :: cz_t T n cur fl fb pl C G P B tl) (fun rv h' => (zto y n cur = true ∧ rv = [fI 1] ∧ h' = (c0 :: cz_t T n (cur + 2) fl fb pl C G P B tl)) ∨ (zto y n cur = false ∧ rv = [fI 0] ∧ h' = (c0 :: cz_t T n cur fl fb pl C G P B tl))) := by
  have ok' := ok
  obtain ⟨htl, hT, bT, hn, hn2, hy⟩ := ok'
  have q0 : y (cur + 0) = y cur := congrArg y (Int.add_zero cur)
  refine ik_Wk 2 (pc' := 43) (loc' := [some (.ref 1), some (.retAddr 5), some (fI e), none]) (st' := [.ref 1, fI e]) (h' := (c0 :: cz_t T n cur fl fb pl C G P B tl)) (cl' := 0) (sl' := 0) rfl ?_
  refine fw_gf rfl rfl rfl rfl ?_
  refine fw_sub rfl ?_
  refine ik_Wk 1 (pc' := 48) (loc' := [some (.ref 1), some (.retAddr 5), some (fI e), none]) (st' := [.retAddr 5, fI (e - cur)]) (h' := (c0 :: cz_t T n cur fl fb pl C G P B tl)) (cl' := 0) (sl' := 0) rfl ?_
  refine fw_call 212 1 0 [.retAddr 5] [fI (e - cur)] rfl rfl rfl (by decide) rfl rfl (fw_str (cz_len htl) rfl (by decide) (by decide) rfl) (cs_len2 _) ?_
  rintro rv h' ⟨rfl, rfl⟩
  refine ik_Wk 0 (pc' := 51) (loc' := [some (.ref 1), some (.retAddr 5), some (fI e), none]) (st' := [fI 2, fI (e - cur)]) (h' := (c0 :: cz_t T n cur fl fb pl C G P B tl)) (cl' := 0) (sl' := 0) rfl ?_
  refine fw_ic_eq rfl rfl (by omega) (by omega) (by omega) (by omega) (fun hc1 => ?_) (fun hc1 => ?_)
  · refine ik_Wk 4 (pc' := 60) (loc' := [some (.ref 1), some (.retAddr 5), some (fI e), some (fI 0)]) (st' := [.retAddr 5, fI 0]) (h' := (c0 :: cz_t T n cur fl fb pl C G P B tl)) (cl' := 0) (sl' := 0) rfl ?_
    refine fw_call 212 1 0 [.retAddr 5] [fI 0] rfl rfl rfl (by decide) rfl rfl (fw_str (cz_len htl) rfl (by decide) (by decide) rfl) (cs_len2 _) ?_
    rintro rv h' ⟨rfl, rfl⟩
    refine ik_Wk 0 (pc' := 63) (loc' := [some (.ref 1), some (.retAddr 5), some (fI e), some (fI 0)]) (st' := [fI 2, fI 0]) (h' := (c0 :: cz_t T n cur fl fb pl C G P B tl)) (cl' := 0) (sl' := 0) rfl ?_
    refine fw_ic_ge rfl rfl (by omega) (by omega) (by omega) (by omega) (fun hc2 => absurd hc2 (by omega)) (fun hc2 => ?_)
    refine ik_Wk 1 (pc' := 67) (loc' := [some (.ref 1), some (.retAddr 5), some (fI e), some (fI 0)]) (st' := [.ref 1]) (h' := (c0 :: cz_t T n cur fl fb pl C G P B tl)) (cl' := 0) (sl' := 0) rfl ?_
    refine fw_gf rfl rfl rfl rfl ?_
    refine ik_Wk 1 (pc' := 71) (loc' := [some (.ref 1), some (.retAddr 5), some (fI e), some (fI 0)]) (st' := [.ref 1, .ref 2]) (h' := (c0 :: cz_t T n cur fl fb pl C G P B tl)) (cl' := 0) (sl' := 0) rfl ?_
    refine fw_gf rfl rfl rfl rfl ?_
    refine ik_Wk 1 (pc' := 75) (loc' := [some (.ref 1), some (.retAddr 5), some (fI e), some (fI 0)]) (st' := [fI 0, fI cur, .ref 2]) (h' := (c0 :: cz_t T n cur fl fb pl C G P B tl)) (cl' := 0) (sl' := 0) rfl ?_
    refine fw_add rfl ?_
    refine fw_bal rfl rfl (by omega) (by omega) (by omega) ?_
    have hb3 := bT (cur + 0) (by omega) (by omega)
    have hb4 := hy (cur + 0) (by omega) (by omega)
    refine ik_Wk 2 (pc' := 79) (loc' := [some (.ref 1), some (.retAddr 5), some (fI e), some (fI 0)]) (st' := [fI 0, .retAddr 5, fI (T.getD (cur + 0).toNat 0)]) (h' := (c0 :: cz_t T n cur fl fb pl C G P B tl)) (cl' := 0) (sl' := 0) rfl ?_
    refine fw_call 213 2 0 [.retAddr 5, fI 0] [fI (T.getD (cur + 0).toNat 0)] rfl rfl rfl (by decide) rfl rfl (fw_str (cz_len htl) rfl (by decide) (by decide) rfl) (cs_ch2_0 _) ?_
    rintro rv h' ⟨rfl, rfl⟩
    refine ik_Wk 0 (pc' := 82) (loc' := [some (.ref 1), some (.retAddr 5), some (fI e), some (fI 0)]) (st' := [fI 116, fI (T.getD (cur + 0).toNat 0)]) (h' := (c0 :: cz_t T n cur fl fb pl C G P B tl)) (cl' := 0) (sl' := 0) rfl ?_
    refine fw_ic_eq rfl rfl (by omega) (by omega) (by omega) (by omega) (fun hc5 => ?_) (fun hc5 => ?_)
    · refine fw_inc (a := 0) (loc' := [some (.ref 1), some (.retAddr 5), some (fI e), some (fI 1)]) rfl rfl (Nat.le_of_ble_eq_true rfl) rfl ?_
      refine ik_Wk 3 (pc' := 60) (loc' := [some (.ref 1), some (.retAddr 5), some (fI e), some (fI 1)]) (st' := [.retAddr 5, fI 1]) (h' := (c0 :: cz_t T n cur fl fb pl C G P B tl)) (cl' := 0) (sl' := 0) rfl ?_
      refine fw_call 212 1 0 [.retAddr 5] [fI 1] rfl rfl rfl (by decide) rfl rfl (fw_str (cz_len htl) rfl (by decide) (by decide) rfl) (cs_len2 _) ?_
      rintro rv h' ⟨rfl, rfl⟩
      refine ik_Wk 0 (pc' := 63) (loc' := [some (.ref 1), some (.retAddr 5), some (fI e), some (fI 1)]) (st' := [fI 2, fI 1]) (h' := (c0 :: cz_t T n cur fl fb pl C G P B tl)) (cl' := 0) (sl' := 0) rfl ?_
      refine fw_ic_ge rfl rfl (by omega) (by omega) (by omega) (by omega) (fun hc6 => absurd hc6 (by omega)) (fun hc6 => ?_)
      refine ik_Wk 1 (pc' := 67) (loc' := [some (.ref 1), some (.retAddr 5), some (fI e), some (fI 1)]) (st' := [.ref 1]) (h' := (c0 :: cz_t T n cur fl fb pl C G P B tl)) (cl' := 0) (sl' := 0) rfl ?_
      refine fw_gf rfl rfl rfl rfl ?_
      refine ik_Wk 1 (pc' := 71) (loc' := [some (.ref 1), some (.retAddr 5), some (fI e), some (fI 1)]) (st' := [.ref 1, .ref 2]) (h' := (c0 :: cz_t T n cur fl fb pl C G P B tl)) (cl' := 0) (sl' := 0) rfl ?_
      refine fw_gf rfl rfl rfl rfl ?_
      refine ik_Wk 1 (pc' := 75) (loc' := [some (.ref 1), some (.retAddr 5), some (fI e), some (fI 1)]) (st' := [fI 1, fI cur, .ref 2]) (h' := (c0 :: cz_t T n cur fl fb pl C G P B tl)) (cl' := 0) (sl' := 0) rfl ?_
      refine fw_add rfl ?_
      refine fw_bal rfl rfl (by omega) (by omega) (by omega) ?_
      have hb7 := bT (cur + 1) (by omega) (by omega)
      have hb8 := hy (cur + 1) (by omega) (by omega)
      refine ik_Wk 2 (pc' := 79) (loc' := [some (.ref 1), some (.retAddr 5), some (fI e), some (fI 1)]) (st' := [fI 1, .retAddr 5, fI (T.getD (cur + 1).toNat 0)]) (h' := (c0 :: cz_t T n cur fl fb pl C G P B tl)) (cl' := 0) (sl' := 0) rfl ?_
      refine fw_call 213 2 0 [.retAddr 5, fI 1] [fI (T.getD (cur + 1).toNat 0)] rfl rfl rfl (by decide) rfl rfl (fw_str (cz_len htl) rfl (by decide) (by decide) rfl) (cs_ch2_1 _) ?_
      rintro rv h' ⟨rfl, rfl⟩
      refine ik_Wk 0 (pc' := 82) (loc' := [some (.ref 1), some (.retAddr 5), some (fI e), some (fI 1)]) (st' := [fI 111, fI (T.getD (cur + 1).toNat 0)]) (h' := (c0 :: cz_t T n cur fl fb pl C G P B tl)) (cl' := 0) (sl' := 0) rfl ?_
      refine fw_ic_eq rfl rfl (by omega) (by omega) (by omega) (by omega) (fun hc9 => ?_) (fun hc9 => ?_)
      · refine fw_inc (a := 1) (loc' := [some (.ref 1), some (.retAddr 5), some (fI e), some (fI 2)]) rfl rfl (Nat.le_of_ble_eq_true rfl) rfl ?_
        refine ik_Wk 3 (pc' := 60) (loc' := [some (.ref 1), some (.retAddr 5), some (fI e), some (fI 2)]) (st' := [.retAddr 5, fI 2]) (h' := (c0 :: cz_t T n cur fl fb pl C G P B tl)) (cl' := 0) (sl' := 0) rfl ?_
        refine fw_call 212 1 0 [.retAddr 5] [fI 2] rfl rfl rfl (by decide) rfl rfl (fw_str (cz_len htl) rfl (by decide) (by decide) rfl) (cs_len2 _) ?_
        rintro rv h' ⟨rfl, rfl⟩
        refine ik_Wk 0 (pc' := 63) (loc' := [some (.ref 1), some (.retAddr 5), some (fI e), some (fI 2)]) (st' := [fI 2, fI 2]) (h' := (c0 :: cz_t T n cur fl fb pl C G P B tl)) (cl' := 0) (sl' := 0) rfl ?_
        refine fw_ic_ge rfl rfl (by omega) (by omega) (by omega) (by omega) (fun hc10 => ?_) (fun hc10 => absurd hc10 (by omega))
        refine ik_Wk 2 (pc' := 95) (loc' := [some (.ref 1), some (.retAddr 5), some (fI e), some (fI 2)]) (st' := [fI e, .ref 1]) (h' := (c0 :: cz_t T n cur fl fb pl C G P B tl)) (cl' := 0) (sl' := 0) rfl ?_
        refine fw_pf (h' := (c0 :: cz_t T n e fl fb pl C G P B tl)) rfl rfl rfl (Nat.le_of_ble_eq_true rfl) rfl rfl rfl ?_
        refine ik_Wk 1 (pc' := 99) (loc' := [some (.ref 1), some (.retAddr 5), some (fI e), some (fI 2)]) (st' := [fI 1]) (h' := (c0 :: cz_t T n e fl fb pl C G P B tl)) (cl' := 0) (sl' := 0) rfl ?_
        exact ik_Wret rfl rfl ⟨_, _, rfl, rfl, rfl, rfl, (Or.inl ⟨by unfold zto; exact decide_eq_true (by omega), rfl, by rw [show e = cur + 2 by omega]⟩)⟩
      · refine ik_Wk 1 (pc' := 86) (loc' := [some (.ref 1), some (.retAddr 5), some (fI e), some (fI 1)]) (st' := [fI 0]) (h' := (c0 :: cz_t T n cur fl fb pl C G P B tl)) (cl' := 0) (sl' := 0) rfl ?_
        exact ik_Wret rfl rfl ⟨_, _, rfl, rfl, rfl, rfl, (Or.inr ⟨by unfold zto; exact decide_eq_false (by omega), rfl, rfl⟩)⟩
    · refine ik_Wk 1 (pc' := 86) (loc' := [some (.ref 1), some (.retAddr 5), some (fI e), some (fI 0)]) (st' := [fI 0]) (h' := (c0 :: cz_t T n cur fl fb pl C G P B tl)) (cl' := 0) (sl' := 0) rfl ?_
      exact ik_Wret rfl rfl ⟨_, _, rfl, rfl, rfl, rfl, (Or.inr ⟨by unfold zto; exact decide_eq_false (by omega), rfl, rfl⟩)⟩
  · refine ik_Wk 1 (pc' := 55) (loc' := [some (.ref 1), some (.retAddr 5), some (fI e), none]) (st' := [fI 0]) (h' := (c0 :: cz_t T n cur fl fb pl C G P B tl)) (cl' := 0) (sl' := 0) rfl ?_
    exact ik_Wret rfl rfl ⟨_, _, rfl, rfl, rfl, rfl, (Or.inr ⟨by unfold zto; exact decide_eq_false (by omega), rfl, rfl⟩)⟩

theorem cz_rw2L {c0 : ik_E} {tl : List ik_E} {y : Int → Int} {T : List Int} {n fl fb pl : Int} {C G P B : List Int} (ok : cz_ok y T n tl) {cur : Int} (h0 : 0 ≤ cur) : ∀ (k : Nat) (e : Int), (n - e).toNat = k → cur ≤ e → e ≤ n → zE y n cur = zE y n e → ik_G 64 5 [some (.ref 1), some (.retAddr 5), some (fI e), none] [] (c0 :: cz_t T n cur fl fb pl C G P B tl) (fun rv h' => (zto y n cur = true ∧ rv = [fI 1] ∧ h' = (c0 :: cz_t T n (cur + 2) fl fb pl C G P B tl)) ∨ (zto y n cur = false ∧ rv = [fI 0] ∧ h' = (c0 :: cz_t T n cur fl fb pl C G P B tl))) := by
  have ok' := ok
  obtain ⟨htl, hT, bT, hn, hn2, hy⟩ := ok'
  intro k
  induction k using Nat.strongRecOn with
  | _ k ih =>
    intro e hk h1 h2 he
    refine ik_Wk 2 (pc' := 7) (loc' := [some (.ref 1), some (.retAddr 5), some (fI e), none]) (st' := [.ref 1, fI e]) (h' := (c0 :: cz_t T n cur fl fb pl C G P B tl)) (cl' := 0) (sl' := 0) rfl ?_
    refine fw_gf rfl rfl rfl rfl ?_
    refine fw_ic_ge rfl rfl (by omega) (by omega) (by omega) (by omega) (fun hc1 => ?_) (fun hc1 => ?_)
    · exact cz_rw2E ok h0 h1 h2 (he.trans (zE_stop (y := y) (n := n) (i := e) (by omega)))
    · refine ik_Wk 1 (pc' := 14) (loc' := [some (.ref 1), some (.retAddr 5), some (fI e), none]) (st' := [.ref 1]) (h' := (c0 :: cz_t T n cur fl fb pl C G P B tl)) (cl' := 0) (sl' := 0) rfl ?_
      refine fw_gf rfl rfl rfl rfl ?_
      refine ik_Wk 1 (pc' := 18) (loc' := [some (.ref 1), some (.retAddr 5), some (fI e), none]) (st' := [fI e, .ref 2]) (h' := (c0 :: cz_t T n cur fl fb pl C G P B tl)) (cl' := 0) (sl' := 0) rfl ?_
      refine fw_bal rfl rfl (by omega) (by omega) (by omega) ?_
      have hb2 := bT e (by omega) (by omega)
      have hb3 := hy e (by omega) (by omega)
      refine fw_bi rfl (by decide) ?_
      refine fw_ic_lt rfl rfl (by omega) (by omega) (by omega) (by omega) (fun hc4 => ?_) (fun hc4 => ?_)
      · exact cz_rw2E ok h0 h1 h2 (he.trans (zE_stop (y := y) (n := n) (i := e) (by omega)))
      · refine ik_Wk 1 (pc' := 25) (loc' := [some (.ref 1), some (.retAddr 5), some (fI e), none]) (st' := [.ref 1]) (h' := (c0 :: cz_t T n cur fl fb pl C G P B tl)) (cl' := 0) (sl' := 0) rfl ?_
        refine fw_gf rfl rfl rfl rfl ?_
        refine ik_Wk 1 (pc' := 29) (loc' := [some (.ref 1), some (.retAddr 5), some (fI e), none]) (st' := [fI e, .ref 2]) (h' := (c0 :: cz_t T n cur fl fb pl C G P B tl)) (cl' := 0) (sl' := 0) rfl ?_
        refine fw_bal rfl rfl (by omega) (by omega) (by omega) ?_
        have hb5 := bT e (by omega) (by omega)
        have hb6 := hy e (by omega) (by omega)
        refine fw_bi rfl (by decide) ?_
        refine fw_ic_gt rfl rfl (by omega) (by omega) (by omega) (by omega) (fun hc7 => ?_) (fun hc7 => ?_)
        · exact cz_rw2E ok h0 h1 h2 (he.trans (zE_stop (y := y) (n := n) (i := e) (by omega)))
        · refine fw_inc (a := e) (loc' := [some (.ref 1), some (.retAddr 5), some (fI (e + 1)), none]) rfl rfl (Nat.le_of_ble_eq_true rfl) rfl ?_
          refine ik_Wk 1 (pc' := 5) (loc' := [some (.ref 1), some (.retAddr 5), some (fI (e + 1)), none]) (st' := []) (h' := (c0 :: cz_t T n cur fl fb pl C G P B tl)) (cl' := 0) (sl' := 0) rfl ?_
          exact ih _ (by omega) (e + 1) rfl (by omega) (by omega) (by rw [he, zE_step (y := y) (n := n) (i := e) (by omega) (by omega)])

theorem cz_rw2 {c0 : ik_E} {tl : List ik_E} {y : Int → Int} {T : List Int} {n fl fb pl : Int} {C G P B : List Int} (ok : cz_ok y T n tl) {cur : Int} (h0 : 0 ≤ cur) (h1 : cur ≤ n) : ik_F 64 [.ref 1, .retAddr 5] (c0 :: cz_t T n cur fl fb pl C G P B tl) (fun rv h' => (zto y n cur = true ∧ rv = [fI 1] ∧ h' = (c0 :: cz_t T n (cur + 2) fl fb pl C G P B tl)) ∨ (zto y n cur = false ∧ rv = [fI 0] ∧ h' = (c0 :: cz_t T n cur fl fb pl C G P B tl))) := by
  have ok' := ok
  obtain ⟨htl, hT, bT, hn, hn2, hy⟩ := ok'
  refine ik_Wk 1 (pc' := 1) (loc' := [some (.ref 1), some (.retAddr 5), none, none]) (st' := [.ref 1]) (h' := (c0 :: cz_t T n cur fl fb pl C G P B tl)) (cl' := 0) (sl' := 0) rfl ?_
  refine fw_gf rfl rfl rfl rfl ?_
  refine ik_Wk 1 (pc' := 5) (loc' := [some (.ref 1), some (.retAddr 5), some (fI cur), none]) (st' := []) (h' := (c0 :: cz_t T n cur fl fb pl C G P B tl)) (cl' := 0) (sl' := 0) rfl ?_
  exact cz_rw2L ok h0 _ cur rfl (by omega) (by omega) rfl

theorem cz_numE {c0 : ik_E} {tl : List ik_E} {y : Int → Int} {T : List Int} {n fl fb pl : Int} {C G P B : List Int} (ok : cz_ok y T n tl) {s lo hi cur v : Int} (h0 : 0 ≤ s) (hlo : 0 ≤ lo) (hhi : hi ≤ 999) (hlh : lo ≤ hi) (h1 : s ≤ cur) (h2 : cur ≤ n) (he : zD y n s = cur) (hv0 : 0 ≤ v) (hv1 : v ≤ 1000) (hinv : (cur = s → v = 0) ∧ (cur = s + 1 → v = y s - 48) ∧ (cur = s + 2 → v = 10 * (y s - 48) + (y (s + 1) - 48)) ∧ (cur = s + 3 → v = 100 * (y s - 48) + 10 * (y (s + 1) - 48) + (y (s + 2) - 48))) : ik_G 63 86 [some (.ref 1), some (fI lo), some (fI hi), some (fI s), some (fI v)] [] (c0 :: cz_t T n cur fl fb pl C G P B tl) (fun rv h' => (znum y n lo hi s = 0 ∧ rv = [fI (zv y n s)] ∧ h' = (c0 :: cz_t T n (zD y n s) fl fb pl C G P B tl)) ∨ (¬ znum y n lo hi s = 0 ∧ rv = [fI (-1)] ∧ ∃ cur', 0 ≤ cur' ∧ cur' ≤ n ∧ h' = (c0 :: cz_t T n cur' (znum y n lo hi s) s pl C G P B tl))) := by
  have ok' := ok
  obtain ⟨htl, hT, bT, hn, hn2, hy⟩ := ok'
  have iq := ik_hid_i hinv
  clear hinv
  refine ik_Wk 1 (pc' := 87) (loc' := [some (.ref 1), some (fI lo), some (fI hi), some (fI s), some (fI v)]) (st' := [.ref 1]) (h' := (c0 :: cz_t T n cur fl fb pl C G P B tl)) (cl' := 0) (sl' := 0) rfl ?_
  refine fw_gf rfl rfl rfl rfl ?_
  refine ik_Wk 1 (pc' := 91) (loc' := [some (.ref 1), some (fI lo), some (fI hi), some (fI s), some (fI v)]) (st' := [fI s, fI cur]) (h' := (c0 :: cz_t T n cur fl fb pl C G P B tl)) (cl' := 0) (sl' := 0) rfl ?_
  refine fw_ic_ne rfl rfl (by omega) (by omega) (by omega) (by omega) (fun hc1 => ?_) (fun hc1 => ?_)
  · refine ik_Wk 3 (pc' := 97) (loc' := [some (.ref 1), some (fI lo), some (fI hi), some (fI s), some (fI v)]) (st' := [fI s, fI 1, .ref 1]) (h' := (c0 :: cz_t T n cur fl fb pl C G P B tl)) (cl' := 0) (sl' := 0) rfl ?_
    refine fw_call 67 3 0 [.ref 1, fI 1, fI s] [] rfl rfl rfl (by decide) rfl rfl (fw_rec (cz_len htl) rfl rfl rfl (by decide)) (cz_refuse ok) ?_
    rintro rv h' ⟨rfl, rfl⟩
    refine ik_Wk 0 (pc' := 100) (loc' := [some (.ref 1), some (fI lo), some (fI hi), some (fI s), some (fI v)]) (st' := [fI 0]) (h' := (c0 :: cz_t T n cur 1 s pl C G P B tl)) (cl' := 0) (sl' := 0) rfl ?_
    refine ik_Wk 2 (pc' := 102) (loc' := [some (.ref 1), some (fI lo), some (fI hi), some (fI s), some (fI v)]) (st' := [fI (-1)]) (h' := (c0 :: cz_t T n cur 1 s pl C G P B tl)) (cl' := 0) (sl' := 0) rfl ?_
    refine ik_Wret rfl rfl ⟨_, _, rfl, rfl, rfl, rfl, (Or.inr ?_)⟩
    have hf : znum y n lo hi s = 1 := znum_1 he (by omega)
    exact ⟨by omega, rfl, cur, by omega, by omega, by rw [hf]⟩
  · refine ik_Wk 1 (pc' := 104) (loc' := [some (.ref 1), some (fI lo), some (fI hi), some (fI s), some (fI v)]) (st' := [.ref 1]) (h' := (c0 :: cz_t T n cur fl fb pl C G P B tl)) (cl' := 0) (sl' := 0) rfl ?_
    refine fw_gf rfl rfl rfl rfl ?_
    refine ik_Wk 1 (pc' := 108) (loc' := [some (.ref 1), some (fI lo), some (fI hi), some (fI s), some (fI v)]) (st' := [fI s, fI cur]) (h' := (c0 :: cz_t T n cur fl fb pl C G P B tl)) (cl' := 0) (sl' := 0) rfl ?_
    refine fw_sub rfl ?_
    refine ik_Wk 1 (pc' := 110) (loc' := [some (.ref 1), some (fI lo), some (fI hi), some (fI s), some (fI v)]) (st' := [fI 3, fI (cur - s)]) (h' := (c0 :: cz_t T n cur fl fb pl C G P B tl)) (cl' := 0) (sl' := 0) rfl ?_
    refine fw_ic_gt rfl rfl (by omega) (by omega) (by omega) (by omega) (fun hc2 => ?_) (fun hc2 => ?_)
    · refine ik_Wk 3 (pc' := 128) (loc' := [some (.ref 1), some (fI lo), some (fI hi), some (fI s), some (fI v)]) (st' := [fI s, fI 2, .ref 1]) (h' := (c0 :: cz_t T n cur fl fb pl C G P B tl)) (cl' := 0) (sl' := 0) rfl ?_
      refine fw_call 67 3 0 [.ref 1, fI 2, fI s] [] rfl rfl rfl (by decide) rfl rfl (fw_rec (cz_len htl) rfl rfl rfl (by decide)) (cz_refuse ok) ?_
      rintro rv h' ⟨rfl, rfl⟩
      refine ik_Wk 0 (pc' := 131) (loc' := [some (.ref 1), some (fI lo), some (fI hi), some (fI s), some (fI v)]) (st' := [fI 0]) (h' := (c0 :: cz_t T n cur 2 s pl C G P B tl)) (cl' := 0) (sl' := 0) rfl ?_
      refine ik_Wk 2 (pc' := 133) (loc' := [some (.ref 1), some (fI lo), some (fI hi), some (fI s), some (fI v)]) (st' := [fI (-1)]) (h' := (c0 :: cz_t T n cur 2 s pl C G P B tl)) (cl' := 0) (sl' := 0) rfl ?_
      refine ik_Wret rfl rfl ⟨_, _, rfl, rfl, rfl, rfl, (Or.inr ?_)⟩
      have hf : znum y n lo hi s = 2 := by
        first
        | exact znum_2 he (by omega) (zval_of iq (by omega) (by omega)) (by omega)
        | exact znum_2 he (by omega) (zval_far (by omega)) (by omega)
      exact ⟨by omega, rfl, cur, by omega, by omega, by rw [hf]⟩
    · refine ik_Wk 2 (pc' := 116) (loc' := [some (.ref 1), some (fI lo), some (fI hi), some (fI s), some (fI v)]) (st' := [fI lo, fI v]) (h' := (c0 :: cz_t T n cur fl fb pl C G P B tl)) (cl' := 0) (sl' := 0) rfl ?_
      refine fw_ic_lt rfl rfl (by omega) (by omega) (by omega) (by omega) (fun hc3 => ?_) (fun hc3 => ?_)
      · refine ik_Wk 3 (pc' := 128) (loc' := [some (.ref 1), some (fI lo), some (fI hi), some (fI s), some (fI v)]) (st' := [fI s, fI 2, .ref 1]) (h' := (c0 :: cz_t T n cur fl fb pl C G P B tl)) (cl' := 0) (sl' := 0) rfl ?_
        refine fw_call 67 3 0 [.ref 1, fI 2, fI s] [] rfl rfl rfl (by decide) rfl rfl (fw_rec (cz_len htl) rfl rfl rfl (by decide)) (cz_refuse ok) ?_
        rintro rv h' ⟨rfl, rfl⟩
        refine ik_Wk 0 (pc' := 131) (loc' := [some (.ref 1), some (fI lo), some (fI hi), some (fI s), some (fI v)]) (st' := [fI 0]) (h' := (c0 :: cz_t T n cur 2 s pl C G P B tl)) (cl' := 0) (sl' := 0) rfl ?_
        refine ik_Wk 2 (pc' := 133) (loc' := [some (.ref 1), some (fI lo), some (fI hi), some (fI s), some (fI v)]) (st' := [fI (-1)]) (h' := (c0 :: cz_t T n cur 2 s pl C G P B tl)) (cl' := 0) (sl' := 0) rfl ?_
        refine ik_Wret rfl rfl ⟨_, _, rfl, rfl, rfl, rfl, (Or.inr ?_)⟩
        have hf : znum y n lo hi s = 2 := by
          first
          | exact znum_2 he (by omega) (zval_of iq (by omega) (by omega)) (by omega)
          | exact znum_2 he (by omega) (zval_far (by omega)) (by omega)
        exact ⟨by omega, rfl, cur, by omega, by omega, by rw [hf]⟩
      · refine ik_Wk 2 (pc' := 122) (loc' := [some (.ref 1), some (fI lo), some (fI hi), some (fI s), some (fI v)]) (st' := [fI hi, fI v]) (h' := (c0 :: cz_t T n cur fl fb pl C G P B tl)) (cl' := 0) (sl' := 0) rfl ?_
        refine fw_ic_le rfl rfl (by omega) (by omega) (by omega) (by omega) (fun hc4 => ?_) (fun hc4 => ?_)
        · refine ik_Wk 1 (pc' := 136) (loc' := [some (.ref 1), some (fI lo), some (fI hi), some (fI s), some (fI v)]) (st' := [fI v]) (h' := (c0 :: cz_t T n cur fl fb pl C G P B tl)) (cl' := 0) (sl' := 0) rfl ?_
          refine ik_Wret rfl rfl ⟨_, _, rfl, rfl, rfl, rfl, (Or.inl ?_)⟩
          have hf : znum y n lo hi s = 0 := znum_0 he (by omega) (zval_of iq (by omega) (by omega)) (by omega) (by omega)
          have hv : zv y n s = v := zv_of he (zval_of iq (by omega) (by omega))
          exact ⟨hf, by rw [hv], by rw [he]⟩
        · refine ik_Wk 3 (pc' := 128) (loc' := [some (.ref 1), some (fI lo), some (fI hi), some (fI s), some (fI v)]) (st' := [fI s, fI 2, .ref 1]) (h' := (c0 :: cz_t T n cur fl fb pl C G P B tl)) (cl' := 0) (sl' := 0) rfl ?_
          refine fw_call 67 3 0 [.ref 1, fI 2, fI s] [] rfl rfl rfl (by decide) rfl rfl (fw_rec (cz_len htl) rfl rfl rfl (by decide)) (cz_refuse ok) ?_
          rintro rv h' ⟨rfl, rfl⟩
          refine ik_Wk 0 (pc' := 131) (loc' := [some (.ref 1), some (fI lo), some (fI hi), some (fI s), some (fI v)]) (st' := [fI 0]) (h' := (c0 :: cz_t T n cur 2 s pl C G P B tl)) (cl' := 0) (sl' := 0) rfl ?_
          refine ik_Wk 2 (pc' := 133) (loc' := [some (.ref 1), some (fI lo), some (fI hi), some (fI s), some (fI v)]) (st' := [fI (-1)]) (h' := (c0 :: cz_t T n cur 2 s pl C G P B tl)) (cl' := 0) (sl' := 0) rfl ?_
          refine ik_Wret rfl rfl ⟨_, _, rfl, rfl, rfl, rfl, (Or.inr ?_)⟩
          have hf : znum y n lo hi s = 2 := by
            first
            | exact znum_2 he (by omega) (zval_of iq (by omega) (by omega)) (by omega)
            | exact znum_2 he (by omega) (zval_far (by omega)) (by omega)
          exact ⟨by omega, rfl, cur, by omega, by omega, by rw [hf]⟩

theorem cz_numL {c0 : ik_E} {tl : List ik_E} {y : Int → Int} {T : List Int} {n fl fb pl : Int} {C G P B : List Int} (ok : cz_ok y T n tl) {s lo hi : Int} (h0 : 0 ≤ s) (hlo : 0 ≤ lo) (hhi : hi ≤ 999) (hlh : lo ≤ hi) : ∀ (k : Nat) (cur v : Int), (n - cur).toNat = k → s ≤ cur → cur ≤ n → zD y n s = zD y n cur → 0 ≤ v → v ≤ 1000 → ((cur = s → v = 0) ∧ (cur = s + 1 → v = y s - 48) ∧ (cur = s + 2 → v = 10 * (y s - 48) + (y (s + 1) - 48)) ∧ (cur = s + 3 → v = 100 * (y s - 48) + 10 * (y (s + 1) - 48) + (y (s + 2) - 48))) → ik_G 63 8 [some (.ref 1), some (fI lo), some (fI hi), some (fI s), some (fI v)] [] (c0 :: cz_t T n cur fl fb pl C G P B tl) (fun rv h' => (znum y n lo hi s = 0 ∧ rv = [fI (zv y n s)] ∧ h' = (c0 :: cz_t T n (zD y n s) fl fb pl C G P B tl)) ∨ (¬ znum y n lo hi s = 0 ∧ rv = [fI (-1)] ∧ ∃ cur', 0 ≤ cur' ∧ cur' ≤ n ∧ h' = (c0 :: cz_t T n cur' (znum y n lo hi s) s pl C G P B tl))) := by
  have ok' := ok
  obtain ⟨htl, hT, bT, hn, hn2, hy⟩ := ok'
  intro k
  induction k using Nat.strongRecOn with
  | _ k ih =>
    intro cur v hk h1 h2 he hv0 hv1 hinv
    have iq := ik_hid_i hinv
    clear hinv
    refine ik_Wk 1 (pc' := 9) (loc' := [some (.ref 1), some (fI lo), some (fI hi), some (fI s), some (fI v)]) (st' := [.ref 1]) (h' := (c0 :: cz_t T n cur fl fb pl C G P B tl)) (cl' := 0) (sl' := 0) rfl ?_
    refine fw_gf rfl rfl rfl rfl ?_
    refine ik_Wk 1 (pc' := 13) (loc' := [some (.ref 1), some (fI lo), some (fI hi), some (fI s), some (fI v)]) (st' := [.ref 1, fI cur]) (h' := (c0 :: cz_t T n cur fl fb pl C G P B tl)) (cl' := 0) (sl' := 0) rfl ?_
    refine fw_gf rfl rfl rfl rfl ?_
    refine fw_ic_ge rfl rfl (by omega) (by omega) (by omega) (by omega) (fun hc1 => ?_) (fun hc1 => ?_)
    · exact cz_numE ok h0 hlo hhi hlh h1 h2 (he.trans (zD_stop (y := y) (n := n) (i := cur) (by omega))) hv0 hv1 iq
    · refine ik_Wk 1 (pc' := 20) (loc' := [some (.ref 1), some (fI lo), some (fI hi), some (fI s), some (fI v)]) (st' := [.ref 1]) (h' := (c0 :: cz_t T n cur fl fb pl C G P B tl)) (cl' := 0) (sl' := 0) rfl ?_
      refine fw_gf rfl rfl rfl rfl ?_
      refine ik_Wk 1 (pc' := 24) (loc' := [some (.ref 1), some (fI lo), some (fI hi), some (fI s), some (fI v)]) (st' := [.ref 1, .ref 2]) (h' := (c0 :: cz_t T n cur fl fb pl C G P B tl)) (cl' := 0) (sl' := 0) rfl ?_
      refine fw_gf rfl rfl rfl rfl ?_
      refine fw_bal rfl rfl (by omega) (by omega) (by omega) ?_
      have hb2 := bT cur (by omega) (by omega)
      have hb3 := hy cur (by omega) (by omega)
      refine fw_bi rfl (by decide) ?_
      refine fw_ic_lt rfl rfl (by omega) (by omega) (by omega) (by omega) (fun hc4 => ?_) (fun hc4 => ?_)
      · exact cz_numE ok h0 hlo hhi hlh h1 h2 (he.trans (zD_stop (y := y) (n := n) (i := cur) (by omega))) hv0 hv1 iq
      · refine ik_Wk 1 (pc' := 34) (loc' := [some (.ref 1), some (fI lo), some (fI hi), some (fI s), some (fI v)]) (st' := [.ref 1]) (h' := (c0 :: cz_t T n cur fl fb pl C G P B tl)) (cl' := 0) (sl' := 0) rfl ?_
        refine fw_gf rfl rfl rfl rfl ?_
        refine ik_Wk 1 (pc' := 38) (loc' := [some (.ref 1), some (fI lo), some (fI hi), some (fI s), some (fI v)]) (st' := [.ref 1, .ref 2]) (h' := (c0 :: cz_t T n cur fl fb pl C G P B tl)) (cl' := 0) (sl' := 0) rfl ?_
        refine fw_gf rfl rfl rfl rfl ?_
        refine fw_bal rfl rfl (by omega) (by omega) (by omega) ?_
        have hb5 := bT cur (by omega) (by omega)
        have hb6 := hy cur (by omega) (by omega)
        refine fw_bi rfl (by decide) ?_
        refine fw_ic_gt rfl rfl (by omega) (by omega) (by omega) (by omega) (fun hc7 => ?_) (fun hc7 => ?_)
        · exact cz_numE ok h0 hlo hhi hlh h1 h2 (he.trans (zD_stop (y := y) (n := n) (i := cur) (by omega))) hv0 hv1 iq
        · refine ik_Wk 1 (pc' := 49) (loc' := [some (.ref 1), some (fI lo), some (fI hi), some (fI s), some (fI v)]) (st' := [fI v]) (h' := (c0 :: cz_t T n cur fl fb pl C G P B tl)) (cl' := 0) (sl' := 0) rfl ?_
          refine fw_bi rfl (by decide) ?_
          refine fw_mul rfl ?_
          refine ik_Wk 1 (pc' := 53) (loc' := [some (.ref 1), some (fI lo), some (fI hi), some (fI s), some (fI v)]) (st' := [.ref 1, fI (v * 10)]) (h' := (c0 :: cz_t T n cur fl fb pl C G P B tl)) (cl' := 0) (sl' := 0) rfl ?_
          refine fw_gf rfl rfl rfl rfl ?_
          refine ik_Wk 1 (pc' := 57) (loc' := [some (.ref 1), some (fI lo), some (fI hi), some (fI s), some (fI v)]) (st' := [.ref 1, .ref 2, fI (v * 10)]) (h' := (c0 :: cz_t T n cur fl fb pl C G P B tl)) (cl' := 0) (sl' := 0) rfl ?_
          refine fw_gf rfl rfl rfl rfl ?_
          refine fw_bal rfl rfl (by omega) (by omega) (by omega) ?_
          have hb8 := bT cur (by omega) (by omega)
          have hb9 := hy cur (by omega) (by omega)
          refine fw_add rfl ?_
          refine fw_bi rfl (by decide) ?_
          refine fw_sub rfl ?_
          refine fw_si rfl (by decide) ?_
          refine fw_min rfl rfl rfl ⟨Nat.le_of_ble_eq_true rfl, Nat.le_of_ble_eq_true rfl, Nat.le_of_ble_eq_true rfl⟩ (by omega) (by omega) (by omega) (by omega) ?_
          refine ik_Wk 3 (pc' := 75) (loc' := [some (.ref 1), some (fI lo), some (fI hi), some (fI s), some (fI (if 1000 < ((v * 10) + (T.getD cur.toNat 0)) - 48 then 1000 else ((v * 10) + (T.getD cur.toNat 0)) - 48))]) (st' := [.ref 1, .ref 1]) (h' := (c0 :: cz_t T n cur fl fb pl C G P B tl)) (cl' := 0) (sl' := 0) rfl ?_
          refine fw_gf rfl rfl rfl rfl ?_
          refine ik_Wk 1 (pc' := 79) (loc' := [some (.ref 1), some (fI lo), some (fI hi), some (fI s), some (fI (if 1000 < ((v * 10) + (T.getD cur.toNat 0)) - 48 then 1000 else ((v * 10) + (T.getD cur.toNat 0)) - 48))]) (st' := [fI 1, fI cur, .ref 1]) (h' := (c0 :: cz_t T n cur fl fb pl C G P B tl)) (cl' := 0) (sl' := 0) rfl ?_
          refine fw_add rfl ?_
          refine fw_pf (h' := (c0 :: cz_t T n (cur + 1) fl fb pl C G P B tl)) rfl rfl rfl (Nat.le_of_ble_eq_true rfl) rfl rfl rfl ?_
          refine ik_Wk 1 (pc' := 8) (loc' := [some (.ref 1), some (fI lo), some (fI hi), some (fI s), some (fI (if 1000 < ((v * 10) + (T.getD cur.toNat 0)) - 48 then 1000 else ((v * 10) + (T.getD cur.toNat 0)) - 48))]) (st' := []) (h' := (c0 :: cz_t T n (cur + 1) fl fb pl C G P B tl)) (cl' := 0) (sl' := 0) rfl ?_
          have e1 : zD y n cur = zD y n (cur + 1) := zD_step (by omega) (by omega)
          have e2 := zD_ge (y := y) (n := n) (cur + 1)
          exact ih _ (by omega) (cur + 1) _ rfl (by omega) (by omega) (by rw [he, e1]) (by split <;> omega) (by split <;> omega) (znum_inv iq h1 (he.trans e1) (fun hq => by split <;> omega))

theorem cz_num {c0 : ik_E} {tl : List ik_E} {y : Int → Int} {T : List Int} {n fl fb pl : Int} {C G P B : List Int} (ok : cz_ok y T n tl) {s lo hi : Int} (h0 : 0 ≤ s) (h1 : s ≤ n) (hlo : 0 ≤ lo) (hhi : hi ≤ 999) (hlh : lo ≤ hi) : ik_F 63 [.ref 1, fI lo, fI hi] (c0 :: cz_t T n s fl fb pl C G P B tl) (fun rv h' => (znum y n lo hi s = 0 ∧ rv = [fI (zv y n s)] ∧ h' = (c0 :: cz_t T n (zD y n s) fl fb pl C G P B tl)) ∨ (¬ znum y n lo hi s = 0 ∧ rv = [fI (-1)] ∧ ∃ cur', 0 ≤ cur' ∧ cur' ≤ n ∧ h' = (c0 :: cz_t T n cur' (znum y n lo hi s) s pl C G P B tl))) := by
  have ok' := ok
  obtain ⟨htl, hT, bT, hn, hn2, hy⟩ := ok'
  refine ik_Wk 1 (pc' := 1) (loc' := [some (.ref 1), some (fI lo), some (fI hi), none, none]) (st' := [.ref 1]) (h' := (c0 :: cz_t T n s fl fb pl C G P B tl)) (cl' := 0) (sl' := 0) rfl ?_
  refine fw_gf rfl rfl rfl rfl ?_
  refine ik_Wk 3 (pc' := 8) (loc' := [some (.ref 1), some (fI lo), some (fI hi), some (fI s), some (fI 0)]) (st' := []) (h' := (c0 :: cz_t T n s fl fb pl C G P B tl)) (cl' := 0) (sl' := 0) rfl ?_
  exact cz_numL ok h0 hlo hhi hlh _ s 0 rfl (by omega) (by omega) rfl (by omega) (by omega) ⟨by omega, by omega, by omega, by omega⟩
