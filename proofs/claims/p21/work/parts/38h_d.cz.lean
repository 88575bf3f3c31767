theorem cz_numE {c0 : ik_E} {tl : List ik_E} {y : Int → Int} {T : List Int} {n fl fb pl : Int} {C G P B : List Int} (ok : cz_ok y T n tl) {s lo hi cur v : Int} (h0 : 0 ≤ s) (hlo : 0 ≤ lo) (hhi : hi ≤ 999) (hlh : lo ≤ hi) (h1 : s ≤ cur) (h2 : cur ≤ n) (he : zD y n s = cur) (hv0 : 0 ≤ v) (hv1 : v ≤ 1000) (hinv : (cur = s → v = 0) ∧ (cur = s + 1 → v = y s - 48) ∧ (cur = s + 2 → v = 10 * (y s - 48) + (y (s + 1) - 48)) ∧ (cur = s + 3 → v = 100 * (y s - 48) + 10 * (y (s + 1) - 48) + (y (s + 2) - 48))) : ik_G 63 86 [some (.ref 1), some (fI lo), some (fI hi), some (fI s), some (fI v)] [] (c0 :: cz_t T n cur fl fb pl C G P B tl) (fun rv h' => (znum y n lo hi s = 0 ∧ rv = [fI (zv y n s)] ∧ h' = (c0 :: cz_t T n (zD y n s) fl fb pl C G P B tl)) ∨ (¬ znum y n lo hi s = 0 ∧ rv = [fI (-1)] ∧ ∃ cur', 0 ≤ cur' ∧ cur' ≤ n ∧ h' = (c0 :: cz_t T n cur' (znum y n lo hi s) s pl C G P B tl))) := by
  have ok' := ok
  obtain ⟨htl, hT, bT, hn, hn2, hy⟩ := ok'
  obtain ⟨i0, i1, i2, i3⟩ := hinv
  refine ik_Wk 1 (pc' := 87) (loc' := [some (.ref 1), some (fI lo), some (fI hi), some (fI s), some (fI v)]) (st' := [.ref 1]) (h' := (c0 :: cz_t T n cur fl fb pl C G P B tl)) (cl' := 0) (sl' := 0) rfl ?_
  refine fw_gf rfl rfl rfl rfl ?_
  refine ik_Wk 1 (pc' := 91) (loc' := [some (.ref 1), some (fI lo), some (fI hi), some (fI s), some (fI v)]) (st' := [fI s, fI cur]) (h' := (c0 :: cz_t T n cur fl fb pl C G P B tl)) (cl' := 0) (sl' := 0) rfl ?_
  refine fw_ic_ne rfl rfl (by omega) (by omega) (by omega) (by omega) (fun hc1 => ?_) (fun hc1 => ?_)
  · refine ik_Wk 3 (pc' := 97) (loc' := [some (.ref 1), some (fI lo), some (fI hi), some (fI s), some (fI v)]) (st' := [fI s, fI 1, .ref 1]) (h' := (c0 :: cz_t T n cur fl fb pl C G P B tl)) (cl' := 0) (sl' := 0) rfl ?_
    refine fw_call 67 3 0 [.ref 1, fI 1, fI s] [] rfl rfl rfl (by decide) rfl rfl (fw_rec (cz_len htl) rfl rfl rfl (by decide)) (cz_refuse ok) ?_
    rintro rv h' ⟨rfl, rfl⟩
    refine ik_Wk 0 (pc' := 100) (loc' := [some (.ref 1), some (fI lo), some (fI hi), some (fI s), some (fI v)]) (st' := [fI 0]) (h' := (c0 :: cz_t T n cur 1 s pl C G P B tl)) (cl' := 0) (sl' := 0) rfl ?_
    refine ik_Wk 2 (pc' := 102) (loc' := [some (.ref 1), some (fI lo), some (fI hi), some (fI s), some (fI v)]) (st' := [fI (-1)]) (h' := (c0 :: cz_t T n cur 1 s pl C G P B tl)) (cl' := 0) (sl' := 0) rfl ?_
    refine ik_Wret rfl rfl ⟨_, _, rfl, rfl, rfl, rfl, (Or.inr ?_)⟩
    have hf : znum y n lo hi s = 1 := by unfold znum zval; rw [he]; (repeat split) <;> omega
    exact ⟨by omega, rfl, cur, by omega, by omega, by rw [hf]⟩
  · refine ik_Wk 1 (pc' := 104) (loc' := [some (.ref 1), some (fI lo), some (fI hi), some (fI s), some (fI v)]) (st' := [.ref 1]) (h' := (c0 :: cz_t T n cur fl fb pl C G P B tl)) (cl' := 0) (sl' := 0) rfl ?_
    refine fw_gf rfl rfl rfl rfl ?_
    refine ik_Wk 1 (pc' := 108) (loc' := [some (.ref 1), some (fI lo), some (fI hi), some (fI s), some (fI v)]) (st' := [fI s, fI cur]) (h' := (c0 :: cz_t T n cur fl fb pl C G P B tl)) (cl' := 0) (sl' := 0) rfl ?_
    refine fw_sub rfl ?_
    refine ik_Wk 1 (pc' := 110) (loc' := [some (.ref 1), some (fI lo), some (fI hi), some (fI s), some (fI v)]) (st' := [fI 3, fI (cur - s)]) (h' := (c0 :: cz_t T n cur fl fb pl C G P B tl)) (cl' := 0) (sl' := 0) rfl ?_
    refine fw_ic_gt rfl rfl (by omega) (by omega) (by omega) (by omega) (fun hc2 => ?_) (fun hc2 => ?_)
    · refine ik_Wk 3 (pc' := 128) (loc' := [some (.ref 1), some (fI lo), some (fI hi), some (fI s), some (fI v)]) (st' := [fI s, fI 2, .ref 1]) (h' := (c0 :: cz_t T n cur fl fb pl C G P B tl)) (cl' := 0) (sl' := 0) rfl ?_
      refine fw_call 67 3 0 [.ref 1, fI 2, fI s] [] rfl rfl rfl (by decide) rfl rfl (fw_rec (cz_len htl) rfl rfl rfl (by decide)) (cz_refuse ok) ?_
      rintro rv h' ⟨rfl, rfl⟩
      refine ik_Wk 0 (pc' := 131) (loc' := [some (.ref 1), some (fI lo), some (fI hi), some (fI s), some (fI v)]) (st' := [fI 0]) (h' := (c0 :: cz_t T n cur 2 s pl C G P B tl)) (cl' := 0) (sl' := 0) rfl ?_
      refine ik_Wk 2 (pc' := 133) (loc' := [some (.ref 1), some (fI lo), some (fI hi), some (fI s), some (fI v)]) (st' := [fI (-1)]) (h' := (c0 :: cz_t T n cur 2 s pl C G P B tl)) (cl' := 0) (sl' := 0) rfl ?_
      refine ik_Wret rfl rfl ⟨_, _, rfl, rfl, rfl, rfl, (Or.inr ?_)⟩
      have hf : znum y n lo hi s = 2 := by unfold znum zval; rw [he]; (repeat split) <;> omega
      exact ⟨by omega, rfl, cur, by omega, by omega, by rw [hf]⟩
    · refine ik_Wk 2 (pc' := 116) (loc' := [some (.ref 1), some (fI lo), some (fI hi), some (fI s), some (fI v)]) (st' := [fI lo, fI v]) (h' := (c0 :: cz_t T n cur fl fb pl C G P B tl)) (cl' := 0) (sl' := 0) rfl ?_
      refine fw_ic_lt rfl rfl (by omega) (by omega) (by omega) (by omega) (fun hc3 => ?_) (fun hc3 => ?_)
      · refine ik_Wk 3 (pc' := 128) (loc' := [some (.ref 1), some (fI lo), some (fI hi), some (fI s), some (fI v)]) (st' := [fI s, fI 2, .ref 1]) (h' := (c0 :: cz_t T n cur fl fb pl C G P B tl)) (cl' := 0) (sl' := 0) rfl ?_
        refine fw_call 67 3 0 [.ref 1, fI 2, fI s] [] rfl rfl rfl (by decide) rfl rfl (fw_rec (cz_len htl) rfl rfl rfl (by decide)) (cz_refuse ok) ?_
        rintro rv h' ⟨rfl, rfl⟩
        refine ik_Wk 0 (pc' := 131) (loc' := [some (.ref 1), some (fI lo), some (fI hi), some (fI s), some (fI v)]) (st' := [fI 0]) (h' := (c0 :: cz_t T n cur 2 s pl C G P B tl)) (cl' := 0) (sl' := 0) rfl ?_
        refine ik_Wk 2 (pc' := 133) (loc' := [some (.ref 1), some (fI lo), some (fI hi), some (fI s), some (fI v)]) (st' := [fI (-1)]) (h' := (c0 :: cz_t T n cur 2 s pl C G P B tl)) (cl' := 0) (sl' := 0) rfl ?_
        refine ik_Wret rfl rfl ⟨_, _, rfl, rfl, rfl, rfl, (Or.inr ?_)⟩
        have hf : znum y n lo hi s = 2 := by unfold znum zval; rw [he]; (repeat split) <;> omega
        exact ⟨by omega, rfl, cur, by omega, by omega, by rw [hf]⟩
      · refine ik_Wk 2 (pc' := 122) (loc' := [some (.ref 1), some (fI lo), some (fI hi), some (fI s), some (fI v)]) (st' := [fI hi, fI v]) (h' := (c0 :: cz_t T n cur fl fb pl C G P B tl)) (cl' := 0) (sl' := 0) rfl ?_
        refine fw_ic_le rfl rfl (by omega) (by omega) (by omega) (by omega) (fun hc4 => ?_) (fun hc4 => ?_)
        · refine ik_Wk 1 (pc' := 136) (loc' := [some (.ref 1), some (fI lo), some (fI hi), some (fI s), some (fI v)]) (st' := [fI v]) (h' := (c0 :: cz_t T n cur fl fb pl C G P B tl)) (cl' := 0) (sl' := 0) rfl ?_
          refine ik_Wret rfl rfl ⟨_, _, rfl, rfl, rfl, rfl, (Or.inl ?_)⟩
          have hf : znum y n lo hi s = 0 := by unfold znum zval; rw [he]; (repeat split) <;> omega
          have hv : zv y n s = v := by unfold zv zval; rw [he]; (repeat split) <;> omega
          exact ⟨hf, by rw [hv], by rw [he]⟩
        · refine ik_Wk 3 (pc' := 128) (loc' := [some (.ref 1), some (fI lo), some (fI hi), some (fI s), some (fI v)]) (st' := [fI s, fI 2, .ref 1]) (h' := (c0 :: cz_t T n cur fl fb pl C G P B tl)) (cl' := 0) (sl' := 0) rfl ?_
          refine fw_call 67 3 0 [.ref 1, fI 2, fI s] [] rfl rfl rfl (by decide) rfl rfl (fw_rec (cz_len htl) rfl rfl rfl (by decide)) (cz_refuse ok) ?_
          rintro rv h' ⟨rfl, rfl⟩
          refine ik_Wk 0 (pc' := 131) (loc' := [some (.ref 1), some (fI lo), some (fI hi), some (fI s), some (fI v)]) (st' := [fI 0]) (h' := (c0 :: cz_t T n cur 2 s pl C G P B tl)) (cl' := 0) (sl' := 0) rfl ?_
          refine ik_Wk 2 (pc' := 133) (loc' := [some (.ref 1), some (fI lo), some (fI hi), some (fI s), some (fI v)]) (st' := [fI (-1)]) (h' := (c0 :: cz_t T n cur 2 s pl C G P B tl)) (cl' := 0) (sl' := 0) rfl ?_
          refine ik_Wret rfl rfl ⟨_, _, rfl, rfl, rfl, rfl, (Or.inr ?_)⟩
          have hf : znum y n lo hi s = 2 := by unfold znum zval; rw [he]; (repeat split) <;> omega
          exact ⟨by omega, rfl, cur, by omega, by omega, by rw [hf]⟩

theorem cz_numL {c0 : ik_E} {tl : List ik_E} {y : Int → Int} {T : List Int} {n fl fb pl : Int} {C G P B : List Int} (ok : cz_ok y T n tl) {s lo hi : Int} (h0 : 0 ≤ s) (hlo : 0 ≤ lo) (hhi : hi ≤ 999) (hlh : lo ≤ hi) : ∀ (k : Nat) (cur v : Int), (n - cur).toNat = k → s ≤ cur → cur ≤ n → zD y n s = zD y n cur → 0 ≤ v → v ≤ 1000 → ((cur = s → v = 0) ∧ (cur = s + 1 → v = y s - 48) ∧ (cur = s + 2 → v = 10 * (y s - 48) + (y (s + 1) - 48)) ∧ (cur = s + 3 → v = 100 * (y s - 48) + 10 * (y (s + 1) - 48) + (y (s + 2) - 48))) → ik_G 63 8 [some (.ref 1), some (fI lo), some (fI hi), some (fI s), some (fI v)] [] (c0 :: cz_t T n cur fl fb pl C G P B tl) (fun rv h' => (znum y n lo hi s = 0 ∧ rv = [fI (zv y n s)] ∧ h' = (c0 :: cz_t T n (zD y n s) fl fb pl C G P B tl)) ∨ (¬ znum y n lo hi s = 0 ∧ rv = [fI (-1)] ∧ ∃ cur', 0 ≤ cur' ∧ cur' ≤ n ∧ h' = (c0 :: cz_t T n cur' (znum y n lo hi s) s pl C G P B tl))) := by
  have ok' := ok
  obtain ⟨htl, hT, bT, hn, hn2, hy⟩ := ok'
  intro k
  induction k using Nat.strongRecOn with
  | _ k ih =>
    intro cur v hk h1 h2 he hv0 hv1 hinv
    obtain ⟨i0, i1, i2, i3⟩ := hinv
    refine ik_Wk 1 (pc' := 9) (loc' := [some (.ref 1), some (fI lo), some (fI hi), some (fI s), some (fI v)]) (st' := [.ref 1]) (h' := (c0 :: cz_t T n cur fl fb pl C G P B tl)) (cl' := 0) (sl' := 0) rfl ?_
    refine fw_gf rfl rfl rfl rfl ?_
    refine ik_Wk 1 (pc' := 13) (loc' := [some (.ref 1), some (fI lo), some (fI hi), some (fI s), some (fI v)]) (st' := [.ref 1, fI cur]) (h' := (c0 :: cz_t T n cur fl fb pl C G P B tl)) (cl' := 0) (sl' := 0) rfl ?_
    refine fw_gf rfl rfl rfl rfl ?_
    refine fw_ic_ge rfl rfl (by omega) (by omega) (by omega) (by omega) (fun hc1 => ?_) (fun hc1 => ?_)
    · exact cz_numE ok h0 hlo hhi hlh h1 h2 (he.trans (zD_stop (y := y) (n := n) (i := cur) (by omega))) hv0 hv1 ⟨i0, i1, i2, i3⟩
    · refine ik_Wk 1 (pc' := 20) (loc' := [some (.ref 1), some (fI lo), some (fI hi), some (fI s), some (fI v)]) (st' := [.ref 1]) (h' := (c0 :: cz_t T n cur fl fb pl C G P B tl)) (cl' := 0) (sl' := 0) rfl ?_
      refine fw_gf rfl rfl rfl rfl ?_
      refine ik_Wk 1 (pc' := 24) (loc' := [some (.ref 1), some (fI lo), some (fI hi), some (fI s), some (fI v)]) (st' := [.ref 1, .ref 2]) (h' := (c0 :: cz_t T n cur fl fb pl C G P B tl)) (cl' := 0) (sl' := 0) rfl ?_
      refine fw_gf rfl rfl rfl rfl ?_
      refine fw_bal rfl rfl (by omega) (by omega) (by omega) ?_
      have hb2 := bT cur (by omega) (by omega)
      have hb3 := hy cur (by omega) (by omega)
      refine fw_bi rfl (by decide) ?_
      refine fw_ic_lt rfl rfl (by omega) (by omega) (by omega) (by omega) (fun hc4 => ?_) (fun hc4 => ?_)
      · exact cz_numE ok h0 hlo hhi hlh h1 h2 (he.trans (zD_stop (y := y) (n := n) (i := cur) (by omega))) hv0 hv1 ⟨i0, i1, i2, i3⟩
      · refine ik_Wk 1 (pc' := 34) (loc' := [some (.ref 1), some (fI lo), some (fI hi), some (fI s), some (fI v)]) (st' := [.ref 1]) (h' := (c0 :: cz_t T n cur fl fb pl C G P B tl)) (cl' := 0) (sl' := 0) rfl ?_
        refine fw_gf rfl rfl rfl rfl ?_
        refine ik_Wk 1 (pc' := 38) (loc' := [some (.ref 1), some (fI lo), some (fI hi), some (fI s), some (fI v)]) (st' := [.ref 1, .ref 2]) (h' := (c0 :: cz_t T n cur fl fb pl C G P B tl)) (cl' := 0) (sl' := 0) rfl ?_
        refine fw_gf rfl rfl rfl rfl ?_
        refine fw_bal rfl rfl (by omega) (by omega) (by omega) ?_
        have hb5 := bT cur (by omega) (by omega)
        have hb6 := hy cur (by omega) (by omega)
        refine fw_bi rfl (by decide) ?_
        refine fw_ic_gt rfl rfl (by omega) (by omega) (by omega) (by omega) (fun hc7 => ?_) (fun hc7 => ?_)
        · exact cz_numE ok h0 hlo hhi hlh h1 h2 (he.trans (zD_stop (y := y) (n := n) (i := cur) (by omega))) hv0 hv1 ⟨i0, i1, i2, i3⟩
        · refine ik_Wk 1 (pc' := 49) (loc' := [some (.ref 1), some (fI lo), some (fI hi), some (fI s), some (fI v)]) (st' := [fI v]) (h' := (c0 :: cz_t T n cur fl fb pl C G P B tl)) (cl' := 0) (sl' := 0) rfl ?_
          refine fw_bi rfl (by decide) ?_
          refine fw_mul rfl ?_
          refine ik_Wk 1 (pc' := 53) (loc' := [some (.ref 1), some (fI lo), some (fI hi), some (fI s), some (fI v)]) (st' := [.ref 1, fI (v * 10)]) (h' := (c0 :: cz_t T n cur fl fb pl C G P B tl)) (cl' := 0) (sl' := 0) rfl ?_
          refine fw_gf rfl rfl rfl rfl ?_
          refine ik_Wk 1 (pc' := 57) (loc' := [some (.ref 1), some (fI lo), some (fI hi), some (fI s), some (fI v)]) (st' := [.ref 1, .ref 2, fI (v * 10)]) (h' := (c0 :: cz_t T n cur fl fb pl C G P B tl)) (cl' := 0) (sl' := 0) rfl ?_
          refine fw_gf rfl rfl rfl rfl ?_
          refine fw_bal rfl rfl (by omega) (by omega) (by omega) ?_
          have hb8 := bT cur (by omega) (by omega)
          have hb9 := hy cur (by omega) (by omega)
          refine fw_add rfl ?_
          refine fw_bi rfl (by decide) ?_
          refine fw_sub rfl ?_
          refine fw_si rfl (by decide) ?_
          refine fw_min rfl rfl rfl ⟨Nat.le_of_ble_eq_true rfl, Nat.le_of_ble_eq_true rfl, Nat.le_of_ble_eq_true rfl⟩ (by omega) (by omega) (by omega) (by omega) ?_
          refine ik_Wk 3 (pc' := 75) (loc' := [some (.ref 1), some (fI lo), some (fI hi), some (fI s), some (fI (if 1000 < ((v * 10) + (T.getD cur.toNat 0)) - 48 then 1000 else ((v * 10) + (T.getD cur.toNat 0)) - 48))]) (st' := [.ref 1, .ref 1]) (h' := (c0 :: cz_t T n cur fl fb pl C G P B tl)) (cl' := 0) (sl' := 0) rfl ?_
          refine fw_gf rfl rfl rfl rfl ?_
          refine ik_Wk 1 (pc' := 79) (loc' := [some (.ref 1), some (fI lo), some (fI hi), some (fI s), some (fI (if 1000 < ((v * 10) + (T.getD cur.toNat 0)) - 48 then 1000 else ((v * 10) + (T.getD cur.toNat 0)) - 48))]) (st' := [fI 1, fI cur, .ref 1]) (h' := (c0 :: cz_t T n cur fl fb pl C G P B tl)) (cl' := 0) (sl' := 0) rfl ?_
          refine fw_add rfl ?_
          refine fw_pf (h' := (c0 :: cz_t T n (cur + 1) fl fb pl C G P B tl)) rfl rfl rfl (Nat.le_of_ble_eq_true rfl) rfl rfl rfl ?_
          refine ik_Wk 1 (pc' := 8) (loc' := [some (.ref 1), some (fI lo), some (fI hi), some (fI s), some (fI (if 1000 < ((v * 10) + (T.getD cur.toNat 0)) - 48 then 1000 else ((v * 10) + (T.getD cur.toNat 0)) - 48))]) (st' := []) (h' := (c0 :: cz_t T n (cur + 1) fl fb pl C G P B tl)) (cl' := 0) (sl' := 0) rfl ?_
          have q1 : cur = s + 1 → y cur = y (s + 1) := fun q => by rw [q]
          have q2 : cur = s + 2 → y cur = y (s + 2) := fun q => by rw [q]
          have q3 : cur = s → y cur = y s := fun q => by rw [q]
          have m0 := zD_mid (y := y) (n := n) (i := s) (j := s)
          have m1 := zD_mid (y := y) (n := n) (i := s) (j := s + 1)
          have m2 := zD_mid (y := y) (n := n) (i := s) (j := s + 2)
          have e1 : zD y n cur = zD y n (cur + 1) := zD_step (by omega) (by omega)
          have e2 := zD_ge (y := y) (n := n) (cur + 1)
          exact ih _ (by omega) (cur + 1) _ rfl (by omega) (by omega) (by rw [he, e1]) (by split <;> omega) (by split <;> omega) (by refine ⟨?_, ?_, ?_, ?_⟩ <;> intro q <;> split <;> omega)

theorem cz_num {c0 : ik_E} {tl : List ik_E} {y : Int → Int} {T : List Int} {n fl fb pl : Int} {C G P B : List Int} (ok : cz_ok y T n tl) {s lo hi : Int} (h0 : 0 ≤ s) (h1 : s ≤ n) (hlo : 0 ≤ lo) (hhi : hi ≤ 999) (hlh : lo ≤ hi) : ik_F 63 [.ref 1, fI lo, fI hi] (c0 :: cz_t T n s fl fb pl C G P B tl) (fun rv h' => (znum y n lo hi s = 0 ∧ rv = [fI (zv y n s)] ∧ h' = (c0 :: cz_t T n (zD y n s) fl fb pl C G P B tl)) ∨ (¬ znum y n lo hi s = 0 ∧ rv = [fI (-1)] ∧ ∃ cur', 0 ≤ cur' ∧ cur' ≤ n ∧ h' = (c0 :: cz_t T n cur' (znum y n lo hi s) s pl C G P B tl))) := by
  have ok' := ok
  obtain ⟨htl, hT, bT, hn, hn2, hy⟩ := ok'
  refine ik_Wk 1 (pc' := 1) (loc' := [some (.ref 1), some (fI lo), some (fI hi), none, none]) (st' := [.ref 1]) (h' := (c0 :: cz_t T n s fl fb pl C G P B tl)) (cl' := 0) (sl' := 0) rfl ?_
  refine fw_gf rfl rfl rfl rfl ?_
  refine ik_Wk 3 (pc' := 8) (loc' := [some (.ref 1), some (fI lo), some (fI hi), some (fI s), some (fI 0)]) (st' := []) (h' := (c0 :: cz_t T n s fl fb pl C G P B tl)) (cl' := 0) (sl' := 0) rfl ?_
  exact cz_numL ok h0 hlo hhi hlh _ s 0 rfl (by omega) (by omega) rfl (by omega) (by omega) ⟨by omega, by omega, by omega, by omega⟩
