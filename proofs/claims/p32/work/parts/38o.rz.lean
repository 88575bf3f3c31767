theorem rz_numE {pre tl : List ik_E} {w : Nat → Value} {wt : List Value} {c : Nat → ik_E} {y : Int → Int} {T : List Int} {n fp sd we rp : Int} {M R O A : List Int} (ok : rz_ok y T n pre tl) {s lo hi ch cur v : Int} (h0 : 0 ≤ s) (hlo : 0 ≤ lo) (hhi : hi ≤ 999) (hlh : lo ≤ hi) (h1 : s < cur) (h2 : cur ≤ n) (he : zD y n s = cur) (hv0 : 0 ≤ v) (hv1 : v ≤ 100009) (hinv : (cur = s → v = 0) ∧ (cur = s + 1 → v = y s - 48) ∧ (cur = s + 2 → v = 10 * (y s - 48) + (y (s + 1) - 48)) ∧ (cur = s + 3 → v = 100 * (y s - 48) + 10 * (y (s + 1) - 48) + (y (s + 2) - 48))) : ik_G 141 129 [some (.ref 66), some (fI lo), some (fI hi), some (fI ch)] [] (pre ++ rz_t w wt c tl T n fp cur sd we v s rp M R O A) (fun rv h' => (znum y n lo hi s = 0 ∧ rv = [fI 0] ∧ h' = (pre ++ rz_t w wt c tl T n fp (zD y n s) sd we (zv y n s) s rp M R O A)) ∨ (¬ znum y n lo hi s = 0 ∧ rv = [fI (znum y n lo hi s)] ∧ ∃ a' nu' na', 0 ≤ a' ∧ a' ≤ n ∧ h' = (pre ++ rz_t w wt c tl T n s a' sd we nu' na' rp M R O A))) := by
  have ok' := ok
  obtain ⟨hpre, htl, hT, bT, hn, hn2, hy⟩ := ok'
  have iq := ik_hid_i hinv
  clear hinv
  refine ik_Wk 1 (pc' := 130) (loc' := [some (.ref 66), some (fI lo), some (fI hi), some (fI ch)]) (st' := [.ref 66]) (h' := (pre ++ rz_t w wt c tl T n fp cur sd we v s rp M R O A)) (cl' := 0) (sl' := 0) rfl ?_
  refine fw_gf rfl rfl (rz_g 0 hpre rfl) rfl ?_
  refine ik_Wk 1 (pc' := 134) (loc' := [some (.ref 66), some (fI lo), some (fI hi), some (fI ch)]) (st' := [.ref 66, fI cur]) (h' := (pre ++ rz_t w wt c tl T n fp cur sd we v s rp M R O A)) (cl' := 0) (sl' := 0) rfl ?_
  refine fw_gf rfl rfl (rz_g 0 hpre rfl) rfl ?_
  refine fw_sub rfl ?_
  refine ik_Wk 1 (pc' := 139) (loc' := [some (.ref 66), some (fI lo), some (fI hi), some (fI ch)]) (st' := [fI 3, fI (cur - s)]) (h' := (pre ++ rz_t w wt c tl T n fp cur sd we v s rp M R O A)) (cl' := 0) (sl' := 0) rfl ?_
  refine fw_ic_gt rfl rfl (by omega) (by omega) (by omega) (by omega) (fun hc1 => ?_) (fun hc1 => ?_)
  · refine ik_Wk 3 (pc' := 160) (loc' := [some (.ref 66), some (fI lo), some (fI hi), some (fI ch)]) (st' := [.ref 66, fI 2, .ref 66]) (h' := (pre ++ rz_t w wt c tl T n fp cur sd we v s rp M R O A)) (cl' := 0) (sl' := 0) rfl ?_
    refine fw_gf rfl rfl (rz_g 0 hpre rfl) rfl ?_
    refine fw_call 137 3 0 [.ref 66, fI 2, fI s] [] rfl rfl rfl (by decide) rfl rfl (fw_rec (rz_len hpre htl) rfl (rz_g 0 hpre rfl) rfl (by decide)) (rz_fails ok) ?_
    rintro rv h' ⟨rfl, rfl⟩
    refine ik_Wk 0 (pc' := 166) (loc' := [some (.ref 66), some (fI lo), some (fI hi), some (fI ch)]) (st' := [fI 2]) (h' := (pre ++ rz_t w wt c tl T n s cur sd we v s rp M R O A)) (cl' := 0) (sl' := 0) rfl ?_
    refine ik_Wk 1 (pc' := 170) (loc' := [some (.ref 66), some (fI lo), some (fI hi), some (fI ch)]) (st' := [fI 2]) (h' := (pre ++ rz_t w wt c tl T n s cur sd we v s rp M R O A)) (cl' := 0) (sl' := 0) rfl ?_
    have hf : znum y n lo hi s = 2 := by
      first
      | exact znum_2 he (by omega) (zval_of iq (by omega) (by omega)) (by omega)
      | exact znum_2 he (by omega) (zval_far (by omega)) (by omega)
    exact ik_Wret rfl rfl ⟨_, _, rfl, rfl, rfl, rfl, (Or.inr ⟨by omega, by rw [hf], cur, v, s, by omega, by omega, rfl⟩)⟩
  · refine ik_Wk 1 (pc' := 143) (loc' := [some (.ref 66), some (fI lo), some (fI hi), some (fI ch)]) (st' := [.ref 66]) (h' := (pre ++ rz_t w wt c tl T n fp cur sd we v s rp M R O A)) (cl' := 0) (sl' := 0) rfl ?_
    refine fw_gf rfl rfl (rz_g 0 hpre rfl) rfl ?_
    refine fw_i2l rfl (by omega) (by omega) ?_
    refine ik_Wk 1 (pc' := 148) (loc' := [some (.ref 66), some (fI lo), some (fI hi), some (fI ch)]) (st' := [fI lo, fJ v]) (h' := (pre ++ rz_t w wt c tl T n fp cur sd we v s rp M R O A)) (cl' := 0) (sl' := 0) rfl ?_
    refine fw_i2l rfl (by omega) (by omega) ?_
    refine ik_Wk 1 (pc' := 150) (loc' := [some (.ref 66), some (fI lo), some (fI hi), some (fI ch)]) (st' := [fI hi, fJ lo, fJ v]) (h' := (pre ++ rz_t w wt c tl T n fp cur sd we v s rp M R O A)) (cl' := 0) (sl' := 0) rfl ?_
    refine fw_i2l rfl (by omega) (by omega) ?_
    refine fw_call 127 3 3 [fJ v, fJ lo, fJ hi] [] rfl rfl rfl (by decide) rfl rfl (fw_sta (rz_len hpre htl) rfl (by decide)) (rz_in (by omega) (by omega) (by omega) (by omega) (by omega) (by omega)) ?_
    rintro rv h' ⟨⟨hi2, hi3, rfl⟩ | ⟨hi2, rfl⟩, rfl⟩
    · refine ik_Wk 0 (pc' := 154) (loc' := [some (.ref 66), some (fI lo), some (fI hi), some (fI ch)]) (st' := [fI 1]) (h' := (pre ++ rz_t w wt c tl T n fp cur sd we v s rp M R O A)) (cl' := 0) (sl' := 0) rfl ?_
      refine fw_if_ne rfl rfl (by omega) (by omega) (fun hc4 => absurd hc4 (by omega)) (fun hc4 => ?_)
      refine ik_Wk 1 (pc' := 170) (loc' := [some (.ref 66), some (fI lo), some (fI hi), some (fI ch)]) (st' := [fI 0]) (h' := (pre ++ rz_t w wt c tl T n fp cur sd we v s rp M R O A)) (cl' := 0) (sl' := 0) rfl ?_
      have hf : znum y n lo hi s = 0 := znum_0 he (by omega) (zval_of iq (by omega) (by omega)) (by omega) (by omega)
      have hv : zv y n s = v := zv_of he (zval_of iq (by omega) (by omega))
      exact ik_Wret rfl rfl ⟨_, _, rfl, rfl, rfl, rfl, (Or.inl ⟨hf, rfl, by rw [hv, he]⟩)⟩
    · refine ik_Wk 0 (pc' := 154) (loc' := [some (.ref 66), some (fI lo), some (fI hi), some (fI ch)]) (st' := [fI 0]) (h' := (pre ++ rz_t w wt c tl T n fp cur sd we v s rp M R O A)) (cl' := 0) (sl' := 0) rfl ?_
      refine fw_if_ne rfl rfl (by omega) (by omega) (fun hc5 => ?_) (fun hc5 => absurd hc5 (by omega))
      refine ik_Wk 3 (pc' := 160) (loc' := [some (.ref 66), some (fI lo), some (fI hi), some (fI ch)]) (st' := [.ref 66, fI 2, .ref 66]) (h' := (pre ++ rz_t w wt c tl T n fp cur sd we v s rp M R O A)) (cl' := 0) (sl' := 0) rfl ?_
      refine fw_gf rfl rfl (rz_g 0 hpre rfl) rfl ?_
      refine fw_call 137 3 0 [.ref 66, fI 2, fI s] [] rfl rfl rfl (by decide) rfl rfl (fw_rec (rz_len hpre htl) rfl (rz_g 0 hpre rfl) rfl (by decide)) (rz_fails ok) ?_
      rintro rv h' ⟨rfl, rfl⟩
      refine ik_Wk 0 (pc' := 166) (loc' := [some (.ref 66), some (fI lo), some (fI hi), some (fI ch)]) (st' := [fI 2]) (h' := (pre ++ rz_t w wt c tl T n s cur sd we v s rp M R O A)) (cl' := 0) (sl' := 0) rfl ?_
      refine ik_Wk 1 (pc' := 170) (loc' := [some (.ref 66), some (fI lo), some (fI hi), some (fI ch)]) (st' := [fI 2]) (h' := (pre ++ rz_t w wt c tl T n s cur sd we v s rp M R O A)) (cl' := 0) (sl' := 0) rfl ?_
      have hf : znum y n lo hi s = 2 := by
        first
        | exact znum_2 he (by omega) (zval_of iq (by omega) (by omega)) (by omega)
        | exact znum_2 he (by omega) (zval_far (by omega)) (by omega)
      exact ik_Wret rfl rfl ⟨_, _, rfl, rfl, rfl, rfl, (Or.inr ⟨by omega, by rw [hf], cur, v, s, by omega, by omega, rfl⟩)⟩

theorem rz_numL {pre tl : List ik_E} {w : Nat → Value} {wt : List Value} {c : Nat → ik_E} {y : Int → Int} {T : List Int} {n fp sd we rp : Int} {M R O A : List Int} (ok : rz_ok y T n pre tl) {s lo hi ch : Int} (h0 : 0 ≤ s) (hlo : 0 ≤ lo) (hhi : hi ≤ 999) (hlh : lo ≤ hi) (hd : s < n ∧ 48 ≤ y s ∧ y s ≤ 57) : ∀ (k : Nat) (cur v : Int), (n - cur).toNat = k → s ≤ cur → cur ≤ n → zD y n s = zD y n cur → 0 ≤ v → v ≤ 100009 → ((cur = s → v = 0) ∧ (cur = s + 1 → v = y s - 48) ∧ (cur = s + 2 → v = 10 * (y s - 48) + (y (s + 1) - 48)) ∧ (cur = s + 3 → v = 100 * (y s - 48) + 10 * (y (s + 1) - 48) + (y (s + 2) - 48))) → ik_G 141 42 [some (.ref 66), some (fI lo), some (fI hi), some (fI ch)] [] (pre ++ rz_t w wt c tl T n fp cur sd we v s rp M R O A) (fun rv h' => (znum y n lo hi s = 0 ∧ rv = [fI 0] ∧ h' = (pre ++ rz_t w wt c tl T n fp (zD y n s) sd we (zv y n s) s rp M R O A)) ∨ (¬ znum y n lo hi s = 0 ∧ rv = [fI (znum y n lo hi s)] ∧ ∃ a' nu' na', 0 ≤ a' ∧ a' ≤ n ∧ h' = (pre ++ rz_t w wt c tl T n s a' sd we nu' na' rp M R O A))) := by
  have ok' := ok
  obtain ⟨hpre, htl, hT, bT, hn, hn2, hy⟩ := ok'
  intro k
  induction k using Nat.strongRecOn with
  | _ k ih =>
    intro cur v hk h1 h2 he hv0 hv1 hinv
    have iq := ik_hid_i hinv
    clear hinv
    refine ik_Wk 1 (pc' := 43) (loc' := [some (.ref 66), some (fI lo), some (fI hi), some (fI ch)]) (st' := [.ref 66]) (h' := (pre ++ rz_t w wt c tl T n fp cur sd we v s rp M R O A)) (cl' := 0) (sl' := 0) rfl ?_
    refine fw_gf rfl rfl (rz_g 0 hpre rfl) rfl ?_
    refine ik_Wk 1 (pc' := 47) (loc' := [some (.ref 66), some (fI lo), some (fI hi), some (fI ch)]) (st' := [.ref 66, fI cur]) (h' := (pre ++ rz_t w wt c tl T n fp cur sd we v s rp M R O A)) (cl' := 0) (sl' := 0) rfl ?_
    refine fw_gf rfl rfl (rz_g 0 hpre rfl) rfl ?_
    refine fw_ic_ge rfl rfl (by omega) (by omega) (by omega) (by omega) (fun hc1 => ?_) (fun hc1 => ?_)
    · exact rz_numE ok h0 hlo hhi hlh (by have := hd; rcases Int.lt_or_eq_of_le h1 with q | q; exact q; (subst q; omega)) h2 (he.trans (zD_stop (y := y) (n := n) (i := cur) (by omega))) hv0 hv1 iq
    · refine ik_Wk 1 (pc' := 54) (loc' := [some (.ref 66), some (fI lo), some (fI hi), some (fI ch)]) (st' := [.ref 66]) (h' := (pre ++ rz_t w wt c tl T n fp cur sd we v s rp M R O A)) (cl' := 0) (sl' := 0) rfl ?_
      refine fw_gf rfl rfl (rz_g 0 hpre rfl) rfl ?_
      refine ik_Wk 1 (pc' := 58) (loc' := [some (.ref 66), some (fI lo), some (fI hi), some (fI ch)]) (st' := [.ref 66, .ref 72]) (h' := (pre ++ rz_t w wt c tl T n fp cur sd we v s rp M R O A)) (cl' := 0) (sl' := 0) rfl ?_
      refine fw_gf rfl rfl (rz_g 0 hpre rfl) rfl ?_
      refine fw_ial rfl (rz_g 6 hpre rfl) (by omega) (by omega) (by omega) ?_
      have hb2 := bT cur (by omega) (by omega)
      have hb3 := hy cur (by omega) (by omega)
      refine fw_i2l rfl (by omega) (by omega) ?_
      refine fw_l2 48 rfl rfl (by decide) ?_
      refine fw_l2 57 rfl rfl (by decide) ?_
      refine fw_call 127 3 3 [fJ (T.getD cur.toNat 0), fJ 48, fJ 57] [] rfl rfl rfl (by decide) rfl rfl (fw_sta (rz_len hpre htl) rfl (by decide)) (rz_in (by omega) (by omega) (by omega) (by omega) (by omega) (by omega)) ?_
      rintro rv h' ⟨⟨hi4, hi5, rfl⟩ | ⟨hi4, rfl⟩, rfl⟩
      · refine ik_Wk 0 (pc' := 72) (loc' := [some (.ref 66), some (fI lo), some (fI hi), some (fI ch)]) (st' := [fI 1]) (h' := (pre ++ rz_t w wt c tl T n fp cur sd we v s rp M R O A)) (cl' := 0) (sl' := 0) rfl ?_
        refine fw_if_eq rfl rfl (by omega) (by omega) (fun hc6 => absurd hc6 (by omega)) (fun hc6 => ?_)
        refine ik_Wk 2 (pc' := 77) (loc' := [some (.ref 66), some (fI lo), some (fI hi), some (fI ch)]) (st' := [.ref 66, .ref 66]) (h' := (pre ++ rz_t w wt c tl T n fp cur sd we v s rp M R O A)) (cl' := 0) (sl' := 0) rfl ?_
        refine fw_gf rfl rfl (rz_g 0 hpre rfl) rfl ?_
        refine fw_si rfl (by decide) ?_
        refine fw_ic_le rfl rfl (by omega) (by omega) (by omega) (by omega) (fun hc7 => ?_) (fun hc7 => ?_)
        · refine fw_bi rfl (by decide) ?_
          refine ik_Wk 1 (pc' := 96) (loc' := [some (.ref 66), some (fI lo), some (fI hi), some (fI ch)]) (st' := [.ref 66, fI 10, .ref 66]) (h' := (pre ++ rz_t w wt c tl T n fp cur sd we v s rp M R O A)) (cl' := 0) (sl' := 0) rfl ?_
          refine fw_gf rfl rfl (rz_g 0 hpre rfl) rfl ?_
          refine fw_mul rfl ?_
          refine ik_Wk 1 (pc' := 101) (loc' := [some (.ref 66), some (fI lo), some (fI hi), some (fI ch)]) (st' := [.ref 66, fI (10 * v), .ref 66]) (h' := (pre ++ rz_t w wt c tl T n fp cur sd we v s rp M R O A)) (cl' := 0) (sl' := 0) rfl ?_
          refine fw_gf rfl rfl (rz_g 0 hpre rfl) rfl ?_
          refine ik_Wk 1 (pc' := 105) (loc' := [some (.ref 66), some (fI lo), some (fI hi), some (fI ch)]) (st' := [.ref 66, .ref 72, fI (10 * v), .ref 66]) (h' := (pre ++ rz_t w wt c tl T n fp cur sd we v s rp M R O A)) (cl' := 0) (sl' := 0) rfl ?_
          refine fw_gf rfl rfl (rz_g 0 hpre rfl) rfl ?_
          refine fw_ial rfl (rz_g 6 hpre rfl) (by omega) (by omega) (by omega) ?_
          have hb8 := bT cur (by omega) (by omega)
          have hb9 := hy cur (by omega) (by omega)
          refine fw_add rfl ?_
          refine fw_bi rfl (by decide) ?_
          refine fw_sub rfl ?_
          refine fw_pf (h' := (pre ++ rz_t w wt c tl T n fp cur sd we (((10 * v) + (T.getD cur.toNat 0)) - 48) s rp M R O A)) rfl rfl (rz_g 0 hpre rfl) (Nat.le_of_ble_eq_true rfl) rfl rfl (rz_s 0 hpre rfl) ?_
          refine ik_Wk 2 (pc' := 118) (loc' := [some (.ref 66), some (fI lo), some (fI hi), some (fI ch)]) (st' := [.ref 66, .ref 66]) (h' := (pre ++ rz_t w wt c tl T n fp cur sd we (((10 * v) + (T.getD cur.toNat 0)) - 48) s rp M R O A)) (cl' := 0) (sl' := 0) rfl ?_
          refine fw_gf rfl rfl (rz_g 0 hpre rfl) rfl ?_
          refine ik_Wk 1 (pc' := 122) (loc' := [some (.ref 66), some (fI lo), some (fI hi), some (fI ch)]) (st' := [fI 1, fI cur, .ref 66]) (h' := (pre ++ rz_t w wt c tl T n fp cur sd we (((10 * v) + (T.getD cur.toNat 0)) - 48) s rp M R O A)) (cl' := 0) (sl' := 0) rfl ?_
          refine fw_add rfl ?_
          refine fw_pf (h' := (pre ++ rz_t w wt c tl T n fp (cur + 1) sd we (((10 * v) + (T.getD cur.toNat 0)) - 48) s rp M R O A)) rfl rfl (rz_g 0 hpre rfl) (Nat.le_of_ble_eq_true rfl) rfl rfl (rz_s 0 hpre rfl) ?_
          refine ik_Wk 1 (pc' := 42) (loc' := [some (.ref 66), some (fI lo), some (fI hi), some (fI ch)]) (st' := []) (h' := (pre ++ rz_t w wt c tl T n fp (cur + 1) sd we (((10 * v) + (T.getD cur.toNat 0)) - 48) s rp M R O A)) (cl' := 0) (sl' := 0) rfl ?_
          have e1 : zD y n cur = zD y n (cur + 1) := zD_step (by omega) (by omega)
          have e2 := zD_ge (y := y) (n := n) (cur + 1)
          exact ih _ (by omega) (cur + 1) _ rfl (by omega) (by omega) (by rw [he, e1]) (by omega) (by omega) (znum_inv iq h1 (he.trans e1) (fun hq => by omega))
        · refine ik_Wk 1 (pc' := 87) (loc' := [some (.ref 66), some (fI lo), some (fI hi), some (fI ch)]) (st' := [.ref 66, .ref 66]) (h' := (pre ++ rz_t w wt c tl T n fp cur sd we v s rp M R O A)) (cl' := 0) (sl' := 0) rfl ?_
          refine fw_gf rfl rfl (rz_g 0 hpre rfl) rfl ?_
          refine ik_Wk 1 (pc' := 113) (loc' := [some (.ref 66), some (fI lo), some (fI hi), some (fI ch)]) (st' := [fI v, .ref 66]) (h' := (pre ++ rz_t w wt c tl T n fp cur sd we v s rp M R O A)) (cl' := 0) (sl' := 0) rfl ?_
          refine fw_pf (h' := (pre ++ rz_t w wt c tl T n fp cur sd we v s rp M R O A)) rfl rfl (rz_g 0 hpre rfl) (Nat.le_of_ble_eq_true rfl) rfl rfl (rz_s 0 hpre rfl) ?_
          refine ik_Wk 2 (pc' := 118) (loc' := [some (.ref 66), some (fI lo), some (fI hi), some (fI ch)]) (st' := [.ref 66, .ref 66]) (h' := (pre ++ rz_t w wt c tl T n fp cur sd we v s rp M R O A)) (cl' := 0) (sl' := 0) rfl ?_
          refine fw_gf rfl rfl (rz_g 0 hpre rfl) rfl ?_
          refine ik_Wk 1 (pc' := 122) (loc' := [some (.ref 66), some (fI lo), some (fI hi), some (fI ch)]) (st' := [fI 1, fI cur, .ref 66]) (h' := (pre ++ rz_t w wt c tl T n fp cur sd we v s rp M R O A)) (cl' := 0) (sl' := 0) rfl ?_
          refine fw_add rfl ?_
          refine fw_pf (h' := (pre ++ rz_t w wt c tl T n fp (cur + 1) sd we v s rp M R O A)) rfl rfl (rz_g 0 hpre rfl) (Nat.le_of_ble_eq_true rfl) rfl rfl (rz_s 0 hpre rfl) ?_
          refine ik_Wk 1 (pc' := 42) (loc' := [some (.ref 66), some (fI lo), some (fI hi), some (fI ch)]) (st' := []) (h' := (pre ++ rz_t w wt c tl T n fp (cur + 1) sd we v s rp M R O A)) (cl' := 0) (sl' := 0) rfl ?_
          have e1 : zD y n cur = zD y n (cur + 1) := zD_step (by omega) (by omega)
          have e2 := zD_ge (y := y) (n := n) (cur + 1)
          exact ih _ (by omega) (cur + 1) _ rfl (by omega) (by omega) (by rw [he, e1]) (by omega) (by omega) (znum_inv iq h1 (he.trans e1) (fun hq => by omega))
      · refine ik_Wk 0 (pc' := 72) (loc' := [some (.ref 66), some (fI lo), some (fI hi), some (fI ch)]) (st' := [fI 0]) (h' := (pre ++ rz_t w wt c tl T n fp cur sd we v s rp M R O A)) (cl' := 0) (sl' := 0) rfl ?_
        refine fw_if_eq rfl rfl (by omega) (by omega) (fun hc10 => ?_) (fun hc10 => absurd hc10 (by omega))
        exact rz_numE ok h0 hlo hhi hlh (by have := hd; rcases Int.lt_or_eq_of_le h1 with q | q; exact q; (subst q; omega)) h2 (he.trans (zD_stop (y := y) (n := n) (i := cur) (by omega))) hv0 hv1 iq

theorem rz_num {pre tl : List ik_E} {w : Nat → Value} {wt : List Value} {c : Nat → ik_E} {y : Int → Int} {T : List Int} {n fp sd we nu na rp : Int} {M R O A : List Int} (ok : rz_ok y T n pre tl) {a0 lo hi : Int} (h0 : 0 ≤ a0) (h1 : a0 ≤ n) (hlo : 0 ≤ lo) (hhi : hi ≤ 999) (hlh : lo ≤ hi) : ik_F 141 [.ref 66, fI lo, fI hi] (pre ++ rz_t w wt c tl T n fp a0 sd we nu na rp M R O A) (fun rv h' => (znum y n lo hi (zS y n a0) = 0 ∧ rv = [fI 0] ∧ h' = (pre ++ rz_t w wt c tl T n fp (zD y n (zS y n a0)) sd we (zv y n (zS y n a0)) (zS y n a0) rp M R O A)) ∨ (¬ znum y n lo hi (zS y n a0) = 0 ∧ rv = [fI (znum y n lo hi (zS y n a0))] ∧ ∃ a' nu' na', 0 ≤ a' ∧ a' ≤ n ∧ h' = (pre ++ rz_t w wt c tl T n (zS y n a0) a' sd we nu' na' rp M R O A))) := by
  have ok' := ok
  obtain ⟨hpre, htl, hT, bT, hn, hn2, hy⟩ := ok'
  refine ik_Wk 1 (pc' := 1) (loc' := [some (.ref 66), some (fI lo), some (fI hi), none]) (st' := [.ref 66]) (h' := (pre ++ rz_t w wt c tl T n fp a0 sd we nu na rp M R O A)) (cl' := 0) (sl' := 0) rfl ?_
  refine fw_call 136 1 0 [.ref 66] [] rfl rfl rfl (by decide) rfl rfl (fw_rec (rz_len hpre htl) rfl (rz_g 0 hpre rfl) rfl (by decide)) (rz_here ok (by omega) (by omega)) ?_
  rintro rv h' ⟨⟨ht1, rfl⟩ | ⟨ht1, rfl⟩, rfl⟩
  · have hz3 := zS_ge (y := y) (n := n) a0
    have hz4 := zS_le (y := y) (n := n) (i := a0) (by omega)
    have hb5 := bT (zS y n a0) (by omega) (by omega)
    have hb6 := hy (zS y n a0) (by omega) (by omega)
    refine ik_Wk 0 (pc' := 4) (loc' := [some (.ref 66), some (fI lo), some (fI hi), none]) (st' := [fI (y (zS y n a0))]) (h' := (pre ++ rz_t w wt c tl T n fp (zS y n a0) sd we nu na rp M R O A)) (cl' := 0) (sl' := 0) rfl ?_
    refine ik_Wk 2 (pc' := 6) (loc' := [some (.ref 66), some (fI lo), some (fI hi), some (fI (y (zS y n a0)))]) (st' := [fI (y (zS y n a0))]) (h' := (pre ++ rz_t w wt c tl T n fp (zS y n a0) sd we nu na rp M R O A)) (cl' := 0) (sl' := 0) rfl ?_
    refine fw_i2l rfl (by omega) (by omega) ?_
    refine fw_l2 48 rfl rfl (by decide) ?_
    refine fw_l2 57 rfl rfl (by decide) ?_
    refine fw_call 127 3 3 [fJ (y (zS y n a0)), fJ 48, fJ 57] [] rfl rfl rfl (by decide) rfl rfl (fw_sta (rz_len hpre htl) rfl (by decide)) (rz_in (by omega) (by omega) (by omega) (by omega) (by omega) (by omega)) ?_
    rintro rv h' ⟨⟨hi7, hi8, rfl⟩ | ⟨hi7, rfl⟩, rfl⟩
    · refine ik_Wk 0 (pc' := 16) (loc' := [some (.ref 66), some (fI lo), some (fI hi), some (fI (y (zS y n a0)))]) (st' := [fI 1]) (h' := (pre ++ rz_t w wt c tl T n fp (zS y n a0) sd we nu na rp M R O A)) (cl' := 0) (sl' := 0) rfl ?_
      refine fw_if_ne rfl rfl (by omega) (by omega) (fun hc9 => absurd hc9 (by omega)) (fun hc9 => ?_)
      refine ik_Wk 2 (pc' := 31) (loc' := [some (.ref 66), some (fI lo), some (fI hi), some (fI (y (zS y n a0)))]) (st' := [.ref 66, .ref 66]) (h' := (pre ++ rz_t w wt c tl T n fp (zS y n a0) sd we nu na rp M R O A)) (cl' := 0) (sl' := 0) rfl ?_
      refine fw_gf rfl rfl (rz_g 0 hpre rfl) rfl ?_
      refine fw_pf (h' := (pre ++ rz_t w wt c tl T n fp (zS y n a0) sd we nu (zS y n a0) rp M R O A)) rfl rfl (rz_g 0 hpre rfl) (Nat.le_of_ble_eq_true rfl) rfl rfl (rz_s 0 hpre rfl) ?_
      refine ik_Wk 2 (pc' := 39) (loc' := [some (.ref 66), some (fI lo), some (fI hi), some (fI (y (zS y n a0)))]) (st' := [fI 0, .ref 66]) (h' := (pre ++ rz_t w wt c tl T n fp (zS y n a0) sd we nu (zS y n a0) rp M R O A)) (cl' := 0) (sl' := 0) rfl ?_
      refine fw_pf (h' := (pre ++ rz_t w wt c tl T n fp (zS y n a0) sd we 0 (zS y n a0) rp M R O A)) rfl rfl (rz_g 0 hpre rfl) (Nat.le_of_ble_eq_true rfl) rfl rfl (rz_s 0 hpre rfl) ?_
      exact rz_numL ok (by omega) hlo hhi hlh ⟨by omega, by omega, by omega⟩ _ (zS y n a0) 0 rfl (by omega) (by omega) rfl (by omega) (by omega) ⟨by omega, by omega, by omega, by omega⟩
    · refine ik_Wk 0 (pc' := 16) (loc' := [some (.ref 66), some (fI lo), some (fI hi), some (fI (y (zS y n a0)))]) (st' := [fI 0]) (h' := (pre ++ rz_t w wt c tl T n fp (zS y n a0) sd we nu na rp M R O A)) (cl' := 0) (sl' := 0) rfl ?_
      refine fw_if_ne rfl rfl (by omega) (by omega) (fun hc10 => ?_) (fun hc10 => absurd hc10 (by omega))
      refine ik_Wk 3 (pc' := 22) (loc' := [some (.ref 66), some (fI lo), some (fI hi), some (fI (y (zS y n a0)))]) (st' := [.ref 66, fI 1, .ref 66]) (h' := (pre ++ rz_t w wt c tl T n fp (zS y n a0) sd we nu na rp M R O A)) (cl' := 0) (sl' := 0) rfl ?_
      refine fw_gf rfl rfl (rz_g 0 hpre rfl) rfl ?_
      refine fw_call 137 3 0 [.ref 66, fI 1, fI (zS y n a0)] [] rfl rfl rfl (by decide) rfl rfl (fw_rec (rz_len hpre htl) rfl (rz_g 0 hpre rfl) rfl (by decide)) (rz_fails ok) ?_
      rintro rv h' ⟨rfl, rfl⟩
      refine ik_Wk 0 (pc' := 28) (loc' := [some (.ref 66), some (fI lo), some (fI hi), some (fI (y (zS y n a0)))]) (st' := [fI 1]) (h' := (pre ++ rz_t w wt c tl T n (zS y n a0) (zS y n a0) sd we nu na rp M R O A)) (cl' := 0) (sl' := 0) rfl ?_
      have hf : znum y n lo hi (zS y n a0) = 1 := by unfold znum; rw [if_pos (zD_stop (y := y) (n := n) (i := zS y n a0) (by omega))]
      exact ik_Wret rfl rfl ⟨_, _, rfl, rfl, rfl, rfl, (Or.inr ⟨by omega, by rw [hf], _, _, _, by omega, by omega, rfl⟩)⟩
  · have hz11 := zS_ge (y := y) (n := n) a0
    have hz12 := zS_le (y := y) (n := n) (i := a0) (by omega)
    refine ik_Wk 0 (pc' := 4) (loc' := [some (.ref 66), some (fI lo), some (fI hi), none]) (st' := [fI (-1)]) (h' := (pre ++ rz_t w wt c tl T n fp (zS y n a0) sd we nu na rp M R O A)) (cl' := 0) (sl' := 0) rfl ?_
    refine ik_Wk 2 (pc' := 6) (loc' := [some (.ref 66), some (fI lo), some (fI hi), some (fI (-1))]) (st' := [fI (-1)]) (h' := (pre ++ rz_t w wt c tl T n fp (zS y n a0) sd we nu na rp M R O A)) (cl' := 0) (sl' := 0) rfl ?_
    refine fw_i2l rfl (by omega) (by omega) ?_
    refine fw_l2 48 rfl rfl (by decide) ?_
    refine fw_l2 57 rfl rfl (by decide) ?_
    refine fw_call 127 3 3 [fJ (-1), fJ 48, fJ 57] [] rfl rfl rfl (by decide) rfl rfl (fw_sta (rz_len hpre htl) rfl (by decide)) (rz_in (by omega) (by omega) (by omega) (by omega) (by omega) (by omega)) ?_
    rintro rv h' ⟨⟨hi13, hi14, rfl⟩ | ⟨hi13, rfl⟩, rfl⟩
    · exact absurd hi13 (by omega)
    · refine ik_Wk 0 (pc' := 16) (loc' := [some (.ref 66), some (fI lo), some (fI hi), some (fI (-1))]) (st' := [fI 0]) (h' := (pre ++ rz_t w wt c tl T n fp (zS y n a0) sd we nu na rp M R O A)) (cl' := 0) (sl' := 0) rfl ?_
      refine fw_if_ne rfl rfl (by omega) (by omega) (fun hc15 => ?_) (fun hc15 => absurd hc15 (by omega))
      refine ik_Wk 3 (pc' := 22) (loc' := [some (.ref 66), some (fI lo), some (fI hi), some (fI (-1))]) (st' := [.ref 66, fI 1, .ref 66]) (h' := (pre ++ rz_t w wt c tl T n fp (zS y n a0) sd we nu na rp M R O A)) (cl' := 0) (sl' := 0) rfl ?_
      refine fw_gf rfl rfl (rz_g 0 hpre rfl) rfl ?_
      refine fw_call 137 3 0 [.ref 66, fI 1, fI (zS y n a0)] [] rfl rfl rfl (by decide) rfl rfl (fw_rec (rz_len hpre htl) rfl (rz_g 0 hpre rfl) rfl (by decide)) (rz_fails ok) ?_
      rintro rv h' ⟨rfl, rfl⟩
      refine ik_Wk 0 (pc' := 28) (loc' := [some (.ref 66), some (fI lo), some (fI hi), some (fI (-1))]) (st' := [fI 1]) (h' := (pre ++ rz_t w wt c tl T n (zS y n a0) (zS y n a0) sd we nu na rp M R O A)) (cl' := 0) (sl' := 0) rfl ?_
      have hf : znum y n lo hi (zS y n a0) = 1 := by unfold znum; rw [if_pos (zD_stop (y := y) (n := n) (i := zS y n a0) (by omega))]
      exact ik_Wret rfl rfl ⟨_, _, rfl, rfl, rfl, rfl, (Or.inr ⟨by omega, by rw [hf], _, _, _, by omega, by omega, rfl⟩)⟩

def zmf (y : Int → Int) (n : Int) (r : List zM) (sum a0 f a : Int) : Prop := (¬ znum y n 0 11 (zS y n a0) = 0 ∧ f = znum y n 0 11 (zS y n a0) ∧ a = zS y n a0) ∨ (znum y n 0 11 (zS y n a0) = 0 ∧ (r.any fun m => decide (m.1 = zv y n (zS y n a0))) = true ∧ f = 4 ∧ a = zS y n a0) ∨ (znum y n 0 11 (zS y n a0) = 0 ∧ (r.any fun m => decide (m.1 = zv y n (zS y n a0))) = false ∧ ¬ znum y n 1 100 (zS y n (zD y n (zS y n a0))) = 0 ∧ f = znum y n 1 100 (zS y n (zD y n (zS y n a0))) ∧ a = zS y n (zD y n (zS y n a0))) ∨ (znum y n 0 11 (zS y n a0) = 0 ∧ (r.any fun m => decide (m.1 = zv y n (zS y n a0))) = false ∧ znum y n 1 100 (zS y n (zD y n (zS y n a0))) = 0 ∧ 100 < sum + zv y n (zS y n (zD y n (zS y n a0))) ∧ f = 5 ∧ a = zS y n (zD y n (zS y n a0)))

theorem rz_mv85_0 {pre tl : List ik_E} {w : Nat → Value} {wt : List Value} {c : Nat → ik_E} {y : Int → Int} {T : List Int} {n fp sd we rp : Int} {M R O A : List Int} (ok : rz_ok y T n pre tl) {a0 sum : Int} {r : List zM} (hM : M.length = 12) (hR : R.length = 48) (hO : O.length = 48) (hA : A.length = 48) (hrp : 0 ≤ rp) (hrp2 : rp ≤ 10) (hcnt : M.getD rp.toNat 0 = (r.length : Int)) (hrl : r.length ≤ 3) (hz : ∀ k : Int, 0 ≤ k → k < (r.length : Int) → R.getD (4 * rp + k).toNat 0 = (r.getD k.toNat (0, 0, 0)).1 ∧ 0 ≤ (r.getD k.toNat (0, 0, 0)).1 ∧ (r.getD k.toNat (0, 0, 0)).1 ≤ 11) (hs0 : 0 ≤ sum) (hs1 : sum ≤ 100) (h0 : 0 ≤ a0) (h1 : a0 ≤ n) (hg1 : znum y n 0 11 (zS y n a0) = 0) (hany : (r.any fun m => decide (m.1 = zv y n (zS y n a0))) = false) : ik_G 143 85 [some (.ref 66), some (fI sum), some (fI (r.length : Int)), some (fI (4 * rp + (r.length : Int))), some (fI 0), some (fI (r.length : Int))] [] (pre ++ rz_t w wt c tl T n fp (zD y n (zS y n a0)) sd we (zv y n (zS y n a0)) (zS y n a0) rp M R O A) (fun rv h' => (znum y n 0 11 (zS y n a0) = 0 ∧ (r.any fun m => decide (m.1 = zv y n (zS y n a0))) = false ∧ znum y n 1 100 (zS y n (zD y n (zS y n a0))) = 0 ∧ sum + zv y n (zS y n (zD y n (zS y n a0))) ≤ 100 ∧ rv = [fI 0] ∧ h' = (pre ++ rz_t w wt c tl T n fp (zD y n (zS y n (zD y n (zS y n a0)))) sd we (zv y n (zS y n (zD y n (zS y n a0)))) (zS y n (zD y n (zS y n a0))) rp (M.set rp.toNat ((r.length : Int) + 1)) (R.set (4 * rp + (r.length : Int)).toNat (zv y n (zS y n a0))) (O.set (4 * rp + (r.length : Int)).toNat (zv y n (zS y n (zD y n (zS y n a0))))) (A.set (4 * rp + (r.length : Int)).toNat (zS y n a0)))) ∨ (∃ (f a a' nu' na' : Int) (M' R' O' A' : List Int), zmf y n r sum a0 f a ∧ rv = [fI f] ∧ M'.length = 12 ∧ R'.length = 48 ∧ O'.length = 48 ∧ A'.length = 48 ∧ 0 ≤ a' ∧ a' ≤ n ∧ h' = (pre ++ rz_t w wt c tl T n a a' sd we nu' na' rp M' R' O' A'))) := by
  have ok' := ok
  obtain ⟨hpre, htl, hT, bT, hn, hn2, hy⟩ := ok'
  have hgv := znum0 hg1
  have hz1 := zS_ge (y := y) (n := n) a0
  have hz2 := zS_le (y := y) (n := n) (i := a0) h1
  have hz3 := zD_ge (y := y) (n := n) (zS y n a0)
  have hz4 := zD_le (y := y) (n := n) (i := zS y n a0) hz2
  refine ik_Wk 1 (pc' := 86) (loc' := [some (.ref 66), some (fI sum), some (fI (r.length : Int)), some (fI (4 * rp + (r.length : Int))), some (fI 0), some (fI (r.length : Int))]) (st' := [.ref 66]) (h' := (pre ++ rz_t w wt c tl T n fp (zD y n (zS y n a0)) sd we (zv y n (zS y n a0)) (zS y n a0) rp M R O A)) (cl' := 0) (sl' := 0) rfl ?_
  refine fw_gf rfl rfl (rz_g 0 hpre rfl) rfl ?_
  refine ik_Wk 2 (pc' := 91) (loc' := [some (.ref 66), some (fI sum), some (fI (r.length : Int)), some (fI (4 * rp + (r.length : Int))), some (fI 0), some (fI (r.length : Int))]) (st' := [.ref 66, fI (4 * rp + (r.length : Int)), .ref 74]) (h' := (pre ++ rz_t w wt c tl T n fp (zD y n (zS y n a0)) sd we (zv y n (zS y n a0)) (zS y n a0) rp M R O A)) (cl' := 0) (sl' := 0) rfl ?_
  refine fw_gf rfl rfl (rz_g 0 hpre rfl) rfl ?_
  have hl1 : (R.set (4 * rp + (r.length : Int)).toNat (zv y n (zS y n a0))).length = 48 := (List.length_set ..).trans hR
  refine fw_ias (h' := (pre ++ rz_t w wt c tl T n fp (zD y n (zS y n a0)) sd we (zv y n (zS y n a0)) (zS y n a0) rp M (R.set (4 * rp + (r.length : Int)).toNat (zv y n (zS y n a0))) O A)) rfl (rz_g 8 hpre rfl) (by omega) (by omega) (by omega) (rz_s 8 hpre rfl) ?_
  refine ik_Wk 1 (pc' := 96) (loc' := [some (.ref 66), some (fI sum), some (fI (r.length : Int)), some (fI (4 * rp + (r.length : Int))), some (fI 0), some (fI (r.length : Int))]) (st' := [.ref 66]) (h' := (pre ++ rz_t w wt c tl T n fp (zD y n (zS y n a0)) sd we (zv y n (zS y n a0)) (zS y n a0) rp M (R.set (4 * rp + (r.length : Int)).toNat (zv y n (zS y n a0))) O A)) (cl' := 0) (sl' := 0) rfl ?_
  refine fw_gf rfl rfl (rz_g 0 hpre rfl) rfl ?_
  refine ik_Wk 2 (pc' := 101) (loc' := [some (.ref 66), some (fI sum), some (fI (r.length : Int)), some (fI (4 * rp + (r.length : Int))), some (fI 0), some (fI (r.length : Int))]) (st' := [.ref 66, fI (4 * rp + (r.length : Int)), .ref 76]) (h' := (pre ++ rz_t w wt c tl T n fp (zD y n (zS y n a0)) sd we (zv y n (zS y n a0)) (zS y n a0) rp M (R.set (4 * rp + (r.length : Int)).toNat (zv y n (zS y n a0))) O A)) (cl' := 0) (sl' := 0) rfl ?_
  refine fw_gf rfl rfl (rz_g 0 hpre rfl) rfl ?_
  have hl2 : (A.set (4 * rp + (r.length : Int)).toNat (zS y n a0)).length = 48 := (List.length_set ..).trans hA
  refine fw_ias (h' := (pre ++ rz_t w wt c tl T n fp (zD y n (zS y n a0)) sd we (zv y n (zS y n a0)) (zS y n a0) rp M (R.set (4 * rp + (r.length : Int)).toNat (zv y n (zS y n a0))) O (A.set (4 * rp + (r.length : Int)).toNat (zS y n a0)))) rfl (rz_g 10 hpre rfl) (by omega) (by omega) (by omega) (rz_s 10 hpre rfl) ?_
  refine ik_Wk 1 (pc' := 107) (loc' := [some (.ref 66), some (fI sum), some (fI (r.length : Int)), some (fI (4 * rp + (r.length : Int))), some (fI 0), some (fI (r.length : Int))]) (st' := [fI 0]) (h' := (pre ++ rz_t w wt c tl T n fp (zD y n (zS y n a0)) sd we (zv y n (zS y n a0)) (zS y n a0) rp M (R.set (4 * rp + (r.length : Int)).toNat (zv y n (zS y n a0))) O (A.set (4 * rp + (r.length : Int)).toNat (zS y n a0)))) (cl' := 0) (sl' := 0) rfl ?_
  refine fw_if_le rfl rfl (by omega) (by omega) (fun hc3 => ?_) (fun hc3 => absurd hc3 (by omega))
  refine ik_Wk 2 (pc' := 117) (loc' := [some (.ref 66), some (fI sum), some (fI (r.length : Int)), some (fI (4 * rp + (r.length : Int))), some (fI 0), some (fI (r.length : Int))]) (st' := [fI 1, .ref 66]) (h' := (pre ++ rz_t w wt c tl T n fp (zD y n (zS y n a0)) sd we (zv y n (zS y n a0)) (zS y n a0) rp M (R.set (4 * rp + (r.length : Int)).toNat (zv y n (zS y n a0))) O (A.set (4 * rp + (r.length : Int)).toNat (zS y n a0)))) (cl' := 0) (sl' := 0) rfl ?_
  refine fw_bi rfl (by decide) ?_
  refine fw_call 141 3 0 [.ref 66, fI 1, fI 100] [] rfl rfl rfl (by decide) rfl rfl (fw_rec (rz_len hpre htl) rfl (rz_g 0 hpre rfl) rfl (by decide)) (rz_num ok (by omega) (by omega) (by decide) (by decide) (by decide)) ?_
  rintro rv h' (⟨hn4, rfl, rfl⟩ | ⟨hn4, rfl, a', nu', na', hn5a, hn5b, rfl⟩)
  · have hn5 := znum0 hn4
    have hz6 := zS_ge (y := y) (n := n) (zD y n (zS y n a0))
    have hz7 := zS_le (y := y) (n := n) (i := zD y n (zS y n a0)) (by omega)
    have hz8 := zD_ge (y := y) (n := n) (zS y n (zD y n (zS y n a0)))
    have hz9 := zD_le (y := y) (n := n) (i := zS y n (zD y n (zS y n a0))) (by omega)
    refine ik_Wk 0 (pc' := 122) (loc' := [some (.ref 66), some (fI sum), some (fI (r.length : Int)), some (fI (4 * rp + (r.length : Int))), some (fI 0), some (fI (r.length : Int))]) (st' := [fI 0]) (h' := (pre ++ rz_t w wt c tl T n fp (zD y n (zS y n (zD y n (zS y n a0)))) sd we (zv y n (zS y n (zD y n (zS y n a0)))) (zS y n (zD y n (zS y n a0))) rp M (R.set (4 * rp + (r.length : Int)).toNat (zv y n (zS y n a0))) O (A.set (4 * rp + (r.length : Int)).toNat (zS y n a0)))) (cl' := 0) (sl' := 0) rfl ?_
    refine ik_Wk 2 (pc' := 126) (loc' := [some (.ref 66), some (fI sum), some (fI (r.length : Int)), some (fI (4 * rp + (r.length : Int))), some (fI 0), some (fI (r.length : Int))]) (st' := [fI 0]) (h' := (pre ++ rz_t w wt c tl T n fp (zD y n (zS y n (zD y n (zS y n a0)))) sd we (zv y n (zS y n (zD y n (zS y n a0)))) (zS y n (zD y n (zS y n a0))) rp M (R.set (4 * rp + (r.length : Int)).toNat (zv y n (zS y n a0))) O (A.set (4 * rp + (r.length : Int)).toNat (zS y n a0)))) (cl' := 0) (sl' := 0) rfl ?_
    refine fw_if_ne rfl rfl (by omega) (by omega) (fun hc10 => ?_) (fun hc10 => absurd hc10 (by omega))
    refine ik_Wk 2 (pc' := 131) (loc' := [some (.ref 66), some (fI sum), some (fI (r.length : Int)), some (fI (4 * rp + (r.length : Int))), some (fI 0), some (fI (r.length : Int))]) (st' := [.ref 66, fI sum]) (h' := (pre ++ rz_t w wt c tl T n fp (zD y n (zS y n (zD y n (zS y n a0)))) sd we (zv y n (zS y n (zD y n (zS y n a0)))) (zS y n (zD y n (zS y n a0))) rp M (R.set (4 * rp + (r.length : Int)).toNat (zv y n (zS y n a0))) O (A.set (4 * rp + (r.length : Int)).toNat (zS y n a0)))) (cl' := 0) (sl' := 0) rfl ?_
    refine fw_gf rfl rfl (rz_g 0 hpre rfl) rfl ?_
    refine fw_add rfl ?_
    refine fw_bi rfl (by decide) ?_
    refine fw_ic_le rfl rfl (by omega) (by omega) (by omega) (by omega) (fun hc11 => ?_) (fun hc11 => ?_)
    · refine ik_Wk 3 (pc' := 157) (loc' := [some (.ref 66), some (fI sum), some (fI (r.length : Int)), some (fI (4 * rp + (r.length : Int))), some (fI 0), some (fI (r.length : Int))]) (st' := [.ref 66]) (h' := (pre ++ rz_t w wt c tl T n fp (zD y n (zS y n (zD y n (zS y n a0)))) sd we (zv y n (zS y n (zD y n (zS y n a0)))) (zS y n (zD y n (zS y n a0))) rp M (R.set (4 * rp + (r.length : Int)).toNat (zv y n (zS y n a0))) O (A.set (4 * rp + (r.length : Int)).toNat (zS y n a0)))) (cl' := 0) (sl' := 0) rfl ?_
      refine fw_gf rfl rfl (rz_g 0 hpre rfl) rfl ?_
      refine ik_Wk 2 (pc' := 162) (loc' := [some (.ref 66), some (fI sum), some (fI (r.length : Int)), some (fI (4 * rp + (r.length : Int))), some (fI 0), some (fI (r.length : Int))]) (st' := [.ref 66, fI (4 * rp + (r.length : Int)), .ref 75]) (h' := (pre ++ rz_t w wt c tl T n fp (zD y n (zS y n (zD y n (zS y n a0)))) sd we (zv y n (zS y n (zD y n (zS y n a0)))) (zS y n (zD y n (zS y n a0))) rp M (R.set (4 * rp + (r.length : Int)).toNat (zv y n (zS y n a0))) O (A.set (4 * rp + (r.length : Int)).toNat (zS y n a0)))) (cl' := 0) (sl' := 0) rfl ?_
      refine fw_gf rfl rfl (rz_g 0 hpre rfl) rfl ?_
      have hl12 : (O.set (4 * rp + (r.length : Int)).toNat (zv y n (zS y n (zD y n (zS y n a0))))).length = 48 := (List.length_set ..).trans hO
      refine fw_ias (h' := (pre ++ rz_t w wt c tl T n fp (zD y n (zS y n (zD y n (zS y n a0)))) sd we (zv y n (zS y n (zD y n (zS y n a0)))) (zS y n (zD y n (zS y n a0))) rp M (R.set (4 * rp + (r.length : Int)).toNat (zv y n (zS y n a0))) (O.set (4 * rp + (r.length : Int)).toNat (zv y n (zS y n (zD y n (zS y n a0))))) (A.set (4 * rp + (r.length : Int)).toNat (zS y n a0)))) rfl (rz_g 9 hpre rfl) (by omega) (by omega) (by omega) (rz_s 9 hpre rfl) ?_
      refine ik_Wk 1 (pc' := 167) (loc' := [some (.ref 66), some (fI sum), some (fI (r.length : Int)), some (fI (4 * rp + (r.length : Int))), some (fI 0), some (fI (r.length : Int))]) (st' := [.ref 66]) (h' := (pre ++ rz_t w wt c tl T n fp (zD y n (zS y n (zD y n (zS y n a0)))) sd we (zv y n (zS y n (zD y n (zS y n a0)))) (zS y n (zD y n (zS y n a0))) rp M (R.set (4 * rp + (r.length : Int)).toNat (zv y n (zS y n a0))) (O.set (4 * rp + (r.length : Int)).toNat (zv y n (zS y n (zD y n (zS y n a0))))) (A.set (4 * rp + (r.length : Int)).toNat (zS y n a0)))) (cl' := 0) (sl' := 0) rfl ?_
      refine fw_gf rfl rfl (rz_g 0 hpre rfl) rfl ?_
      refine ik_Wk 1 (pc' := 171) (loc' := [some (.ref 66), some (fI sum), some (fI (r.length : Int)), some (fI (4 * rp + (r.length : Int))), some (fI 0), some (fI (r.length : Int))]) (st' := [.ref 66, .ref 73]) (h' := (pre ++ rz_t w wt c tl T n fp (zD y n (zS y n (zD y n (zS y n a0)))) sd we (zv y n (zS y n (zD y n (zS y n a0)))) (zS y n (zD y n (zS y n a0))) rp M (R.set (4 * rp + (r.length : Int)).toNat (zv y n (zS y n a0))) (O.set (4 * rp + (r.length : Int)).toNat (zv y n (zS y n (zD y n (zS y n a0))))) (A.set (4 * rp + (r.length : Int)).toNat (zS y n a0)))) (cl' := 0) (sl' := 0) rfl ?_
      refine fw_gf rfl rfl (rz_g 0 hpre rfl) rfl ?_
      refine ik_Wk 1 (pc' := 175) (loc' := [some (.ref 66), some (fI sum), some (fI (r.length : Int)), some (fI (4 * rp + (r.length : Int))), some (fI 0), some (fI (r.length : Int))]) (st' := [fI rp, .ref 73, fI rp, .ref 73]) (h' := (pre ++ rz_t w wt c tl T n fp (zD y n (zS y n (zD y n (zS y n a0)))) sd we (zv y n (zS y n (zD y n (zS y n a0)))) (zS y n (zD y n (zS y n a0))) rp M (R.set (4 * rp + (r.length : Int)).toNat (zv y n (zS y n a0))) (O.set (4 * rp + (r.length : Int)).toNat (zv y n (zS y n (zD y n (zS y n a0))))) (A.set (4 * rp + (r.length : Int)).toNat (zS y n a0)))) (cl' := 0) (sl' := 0) rfl ?_
      refine fw_ial rfl (rz_g 7 hpre rfl) (by omega) (by omega) (by omega) ?_
      rw [hcnt]
      refine ik_Wk 1 (pc' := 177) (loc' := [some (.ref 66), some (fI sum), some (fI (r.length : Int)), some (fI (4 * rp + (r.length : Int))), some (fI 0), some (fI (r.length : Int))]) (st' := [fI 1, fI (r.length : Int), fI rp, .ref 73]) (h' := (pre ++ rz_t w wt c tl T n fp (zD y n (zS y n (zD y n (zS y n a0)))) sd we (zv y n (zS y n (zD y n (zS y n a0)))) (zS y n (zD y n (zS y n a0))) rp M (R.set (4 * rp + (r.length : Int)).toNat (zv y n (zS y n a0))) (O.set (4 * rp + (r.length : Int)).toNat (zv y n (zS y n (zD y n (zS y n a0))))) (A.set (4 * rp + (r.length : Int)).toNat (zS y n a0)))) (cl' := 0) (sl' := 0) rfl ?_
      refine fw_add rfl ?_
      have hl13 : (M.set rp.toNat ((r.length : Int) + 1)).length = 12 := (List.length_set ..).trans hM
      refine fw_ias (h' := (pre ++ rz_t w wt c tl T n fp (zD y n (zS y n (zD y n (zS y n a0)))) sd we (zv y n (zS y n (zD y n (zS y n a0)))) (zS y n (zD y n (zS y n a0))) rp (M.set rp.toNat ((r.length : Int) + 1)) (R.set (4 * rp + (r.length : Int)).toNat (zv y n (zS y n a0))) (O.set (4 * rp + (r.length : Int)).toNat (zv y n (zS y n (zD y n (zS y n a0))))) (A.set (4 * rp + (r.length : Int)).toNat (zS y n a0)))) rfl (rz_g 7 hpre rfl) (by omega) (by omega) (by omega) (rz_s 7 hpre rfl) ?_
      refine ik_Wk 1 (pc' := 181) (loc' := [some (.ref 66), some (fI sum), some (fI (r.length : Int)), some (fI (4 * rp + (r.length : Int))), some (fI 0), some (fI (r.length : Int))]) (st' := [fI 0]) (h' := (pre ++ rz_t w wt c tl T n fp (zD y n (zS y n (zD y n (zS y n a0)))) sd we (zv y n (zS y n (zD y n (zS y n a0)))) (zS y n (zD y n (zS y n a0))) rp (M.set rp.toNat ((r.length : Int) + 1)) (R.set (4 * rp + (r.length : Int)).toNat (zv y n (zS y n a0))) (O.set (4 * rp + (r.length : Int)).toNat (zv y n (zS y n (zD y n (zS y n a0))))) (A.set (4 * rp + (r.length : Int)).toNat (zS y n a0)))) (cl' := 0) (sl' := 0) rfl ?_
      exact ik_Wret rfl rfl ⟨_, _, rfl, rfl, rfl, rfl, (Or.inl ⟨hg1, hany, by assumption, by omega, rfl, rfl⟩)⟩
    · refine ik_Wk 3 (pc' := 143) (loc' := [some (.ref 66), some (fI sum), some (fI (r.length : Int)), some (fI (4 * rp + (r.length : Int))), some (fI 0), some (fI (r.length : Int))]) (st' := [.ref 66, fI 5, .ref 66]) (h' := (pre ++ rz_t w wt c tl T n fp (zD y n (zS y n (zD y n (zS y n a0)))) sd we (zv y n (zS y n (zD y n (zS y n a0)))) (zS y n (zD y n (zS y n a0))) rp M (R.set (4 * rp + (r.length : Int)).toNat (zv y n (zS y n a0))) O (A.set (4 * rp + (r.length : Int)).toNat (zS y n a0)))) (cl' := 0) (sl' := 0) rfl ?_
      refine fw_gf rfl rfl (rz_g 0 hpre rfl) rfl ?_
      refine fw_call 137 3 0 [.ref 66, fI 5, fI (zS y n (zD y n (zS y n a0)))] [] rfl rfl rfl (by decide) rfl rfl (fw_rec (rz_len hpre htl) rfl (rz_g 0 hpre rfl) rfl (by decide)) (rz_fails ok) ?_
      rintro rv h' ⟨rfl, rfl⟩
      refine ik_Wk 0 (pc' := 149) (loc' := [some (.ref 66), some (fI sum), some (fI (r.length : Int)), some (fI (4 * rp + (r.length : Int))), some (fI 0), some (fI (r.length : Int))]) (st' := [fI 5]) (h' := (pre ++ rz_t w wt c tl T n (zS y n (zD y n (zS y n a0))) (zD y n (zS y n (zD y n (zS y n a0)))) sd we (zv y n (zS y n (zD y n (zS y n a0)))) (zS y n (zD y n (zS y n a0))) rp M (R.set (4 * rp + (r.length : Int)).toNat (zv y n (zS y n a0))) O (A.set (4 * rp + (r.length : Int)).toNat (zS y n a0)))) (cl' := 0) (sl' := 0) rfl ?_
      refine ik_Wk 3 (pc' := 157) (loc' := [some (.ref 66), some (fI sum), some (fI (r.length : Int)), some (fI (4 * rp + (r.length : Int))), some (fI 5), some (fI (r.length : Int))]) (st' := [.ref 66]) (h' := (pre ++ rz_t w wt c tl T n (zS y n (zD y n (zS y n a0))) (zD y n (zS y n (zD y n (zS y n a0)))) sd we (zv y n (zS y n (zD y n (zS y n a0)))) (zS y n (zD y n (zS y n a0))) rp M (R.set (4 * rp + (r.length : Int)).toNat (zv y n (zS y n a0))) O (A.set (4 * rp + (r.length : Int)).toNat (zS y n a0)))) (cl' := 0) (sl' := 0) rfl ?_
      refine fw_gf rfl rfl (rz_g 0 hpre rfl) rfl ?_
      refine ik_Wk 2 (pc' := 162) (loc' := [some (.ref 66), some (fI sum), some (fI (r.length : Int)), some (fI (4 * rp + (r.length : Int))), some (fI 5), some (fI (r.length : Int))]) (st' := [.ref 66, fI (4 * rp + (r.length : Int)), .ref 75]) (h' := (pre ++ rz_t w wt c tl T n (zS y n (zD y n (zS y n a0))) (zD y n (zS y n (zD y n (zS y n a0)))) sd we (zv y n (zS y n (zD y n (zS y n a0)))) (zS y n (zD y n (zS y n a0))) rp M (R.set (4 * rp + (r.length : Int)).toNat (zv y n (zS y n a0))) O (A.set (4 * rp + (r.length : Int)).toNat (zS y n a0)))) (cl' := 0) (sl' := 0) rfl ?_
      refine fw_gf rfl rfl (rz_g 0 hpre rfl) rfl ?_
      have hl14 : (O.set (4 * rp + (r.length : Int)).toNat (zv y n (zS y n (zD y n (zS y n a0))))).length = 48 := (List.length_set ..).trans hO
      refine fw_ias (h' := (pre ++ rz_t w wt c tl T n (zS y n (zD y n (zS y n a0))) (zD y n (zS y n (zD y n (zS y n a0)))) sd we (zv y n (zS y n (zD y n (zS y n a0)))) (zS y n (zD y n (zS y n a0))) rp M (R.set (4 * rp + (r.length : Int)).toNat (zv y n (zS y n a0))) (O.set (4 * rp + (r.length : Int)).toNat (zv y n (zS y n (zD y n (zS y n a0))))) (A.set (4 * rp + (r.length : Int)).toNat (zS y n a0)))) rfl (rz_g 9 hpre rfl) (by omega) (by omega) (by omega) (rz_s 9 hpre rfl) ?_
      refine ik_Wk 1 (pc' := 167) (loc' := [some (.ref 66), some (fI sum), some (fI (r.length : Int)), some (fI (4 * rp + (r.length : Int))), some (fI 5), some (fI (r.length : Int))]) (st' := [.ref 66]) (h' := (pre ++ rz_t w wt c tl T n (zS y n (zD y n (zS y n a0))) (zD y n (zS y n (zD y n (zS y n a0)))) sd we (zv y n (zS y n (zD y n (zS y n a0)))) (zS y n (zD y n (zS y n a0))) rp M (R.set (4 * rp + (r.length : Int)).toNat (zv y n (zS y n a0))) (O.set (4 * rp + (r.length : Int)).toNat (zv y n (zS y n (zD y n (zS y n a0))))) (A.set (4 * rp + (r.length : Int)).toNat (zS y n a0)))) (cl' := 0) (sl' := 0) rfl ?_
      refine fw_gf rfl rfl (rz_g 0 hpre rfl) rfl ?_
      refine ik_Wk 1 (pc' := 171) (loc' := [some (.ref 66), some (fI sum), some (fI (r.length : Int)), some (fI (4 * rp + (r.length : Int))), some (fI 5), some (fI (r.length : Int))]) (st' := [.ref 66, .ref 73]) (h' := (pre ++ rz_t w wt c tl T n (zS y n (zD y n (zS y n a0))) (zD y n (zS y n (zD y n (zS y n a0)))) sd we (zv y n (zS y n (zD y n (zS y n a0)))) (zS y n (zD y n (zS y n a0))) rp M (R.set (4 * rp + (r.length : Int)).toNat (zv y n (zS y n a0))) (O.set (4 * rp + (r.length : Int)).toNat (zv y n (zS y n (zD y n (zS y n a0))))) (A.set (4 * rp + (r.length : Int)).toNat (zS y n a0)))) (cl' := 0) (sl' := 0) rfl ?_
      refine fw_gf rfl rfl (rz_g 0 hpre rfl) rfl ?_
      refine ik_Wk 1 (pc' := 175) (loc' := [some (.ref 66), some (fI sum), some (fI (r.length : Int)), some (fI (4 * rp + (r.length : Int))), some (fI 5), some (fI (r.length : Int))]) (st' := [fI rp, .ref 73, fI rp, .ref 73]) (h' := (pre ++ rz_t w wt c tl T n (zS y n (zD y n (zS y n a0))) (zD y n (zS y n (zD y n (zS y n a0)))) sd we (zv y n (zS y n (zD y n (zS y n a0)))) (zS y n (zD y n (zS y n a0))) rp M (R.set (4 * rp + (r.length : Int)).toNat (zv y n (zS y n a0))) (O.set (4 * rp + (r.length : Int)).toNat (zv y n (zS y n (zD y n (zS y n a0))))) (A.set (4 * rp + (r.length : Int)).toNat (zS y n a0)))) (cl' := 0) (sl' := 0) rfl ?_
      refine fw_ial rfl (rz_g 7 hpre rfl) (by omega) (by omega) (by omega) ?_
      rw [hcnt]
      refine ik_Wk 1 (pc' := 177) (loc' := [some (.ref 66), some (fI sum), some (fI (r.length : Int)), some (fI (4 * rp + (r.length : Int))), some (fI 5), some (fI (r.length : Int))]) (st' := [fI 1, fI (r.length : Int), fI rp, .ref 73]) (h' := (pre ++ rz_t w wt c tl T n (zS y n (zD y n (zS y n a0))) (zD y n (zS y n (zD y n (zS y n a0)))) sd we (zv y n (zS y n (zD y n (zS y n a0)))) (zS y n (zD y n (zS y n a0))) rp M (R.set (4 * rp + (r.length : Int)).toNat (zv y n (zS y n a0))) (O.set (4 * rp + (r.length : Int)).toNat (zv y n (zS y n (zD y n (zS y n a0))))) (A.set (4 * rp + (r.length : Int)).toNat (zS y n a0)))) (cl' := 0) (sl' := 0) rfl ?_
      refine fw_add rfl ?_
      have hl15 : (M.set rp.toNat ((r.length : Int) + 1)).length = 12 := (List.length_set ..).trans hM
      refine fw_ias (h' := (pre ++ rz_t w wt c tl T n (zS y n (zD y n (zS y n a0))) (zD y n (zS y n (zD y n (zS y n a0)))) sd we (zv y n (zS y n (zD y n (zS y n a0)))) (zS y n (zD y n (zS y n a0))) rp (M.set rp.toNat ((r.length : Int) + 1)) (R.set (4 * rp + (r.length : Int)).toNat (zv y n (zS y n a0))) (O.set (4 * rp + (r.length : Int)).toNat (zv y n (zS y n (zD y n (zS y n a0))))) (A.set (4 * rp + (r.length : Int)).toNat (zS y n a0)))) rfl (rz_g 7 hpre rfl) (by omega) (by omega) (by omega) (rz_s 7 hpre rfl) ?_
      refine ik_Wk 1 (pc' := 181) (loc' := [some (.ref 66), some (fI sum), some (fI (r.length : Int)), some (fI (4 * rp + (r.length : Int))), some (fI 5), some (fI (r.length : Int))]) (st' := [fI 5]) (h' := (pre ++ rz_t w wt c tl T n (zS y n (zD y n (zS y n a0))) (zD y n (zS y n (zD y n (zS y n a0)))) sd we (zv y n (zS y n (zD y n (zS y n a0)))) (zS y n (zD y n (zS y n a0))) rp (M.set rp.toNat ((r.length : Int) + 1)) (R.set (4 * rp + (r.length : Int)).toNat (zv y n (zS y n a0))) (O.set (4 * rp + (r.length : Int)).toNat (zv y n (zS y n (zD y n (zS y n a0))))) (A.set (4 * rp + (r.length : Int)).toNat (zS y n a0)))) (cl' := 0) (sl' := 0) rfl ?_
      exact ik_Wret rfl rfl ⟨_, _, rfl, rfl, rfl, rfl, (Or.inr ⟨_, _, _, _, _, _, _, _, _, Or.inr (Or.inr (Or.inr ⟨hg1, hany, by assumption, by omega, rfl, rfl⟩)), rfl, hl15, hl1, hl14, hl2, by omega, by omega, rfl⟩)⟩
  · have hz16 := znumR (y := y) (n := n) (lo := 1) (hi := 100) (s := zS y n (zD y n (zS y n a0)))
    refine ik_Wk 0 (pc' := 122) (loc' := [some (.ref 66), some (fI sum), some (fI (r.length : Int)), some (fI (4 * rp + (r.length : Int))), some (fI 0), some (fI (r.length : Int))]) (st' := [fI (znum y n 1 100 (zS y n (zD y n (zS y n a0))))]) (h' := (pre ++ rz_t w wt c tl T n (zS y n (zD y n (zS y n a0))) a' sd we nu' na' rp M (R.set (4 * rp + (r.length : Int)).toNat (zv y n (zS y n a0))) O (A.set (4 * rp + (r.length : Int)).toNat (zS y n a0)))) (cl' := 0) (sl' := 0) rfl ?_
    refine ik_Wk 2 (pc' := 126) (loc' := [some (.ref 66), some (fI sum), some (fI (r.length : Int)), some (fI (4 * rp + (r.length : Int))), some (fI (znum y n 1 100 (zS y n (zD y n (zS y n a0))))), some (fI (r.length : Int))]) (st' := [fI (znum y n 1 100 (zS y n (zD y n (zS y n a0))))]) (h' := (pre ++ rz_t w wt c tl T n (zS y n (zD y n (zS y n a0))) a' sd we nu' na' rp M (R.set (4 * rp + (r.length : Int)).toNat (zv y n (zS y n a0))) O (A.set (4 * rp + (r.length : Int)).toNat (zS y n a0)))) (cl' := 0) (sl' := 0) rfl ?_
    refine fw_if_ne rfl rfl (by omega) (by omega) (fun hc17 => absurd hc17 (by omega)) (fun hc17 => ?_)
    refine ik_Wk 3 (pc' := 157) (loc' := [some (.ref 66), some (fI sum), some (fI (r.length : Int)), some (fI (4 * rp + (r.length : Int))), some (fI (znum y n 1 100 (zS y n (zD y n (zS y n a0))))), some (fI (r.length : Int))]) (st' := [.ref 66]) (h' := (pre ++ rz_t w wt c tl T n (zS y n (zD y n (zS y n a0))) a' sd we nu' na' rp M (R.set (4 * rp + (r.length : Int)).toNat (zv y n (zS y n a0))) O (A.set (4 * rp + (r.length : Int)).toNat (zS y n a0)))) (cl' := 0) (sl' := 0) rfl ?_
    refine fw_gf rfl rfl (rz_g 0 hpre rfl) rfl ?_
    refine ik_Wk 2 (pc' := 162) (loc' := [some (.ref 66), some (fI sum), some (fI (r.length : Int)), some (fI (4 * rp + (r.length : Int))), some (fI (znum y n 1 100 (zS y n (zD y n (zS y n a0))))), some (fI (r.length : Int))]) (st' := [.ref 66, fI (4 * rp + (r.length : Int)), .ref 75]) (h' := (pre ++ rz_t w wt c tl T n (zS y n (zD y n (zS y n a0))) a' sd we nu' na' rp M (R.set (4 * rp + (r.length : Int)).toNat (zv y n (zS y n a0))) O (A.set (4 * rp + (r.length : Int)).toNat (zS y n a0)))) (cl' := 0) (sl' := 0) rfl ?_
    refine fw_gf rfl rfl (rz_g 0 hpre rfl) rfl ?_
    have hl18 : (O.set (4 * rp + (r.length : Int)).toNat nu').length = 48 := (List.length_set ..).trans hO
    refine fw_ias (h' := (pre ++ rz_t w wt c tl T n (zS y n (zD y n (zS y n a0))) a' sd we nu' na' rp M (R.set (4 * rp + (r.length : Int)).toNat (zv y n (zS y n a0))) (O.set (4 * rp + (r.length : Int)).toNat nu') (A.set (4 * rp + (r.length : Int)).toNat (zS y n a0)))) rfl (rz_g 9 hpre rfl) (by omega) (by omega) (by omega) (rz_s 9 hpre rfl) ?_
    refine ik_Wk 1 (pc' := 167) (loc' := [some (.ref 66), some (fI sum), some (fI (r.length : Int)), some (fI (4 * rp + (r.length : Int))), some (fI (znum y n 1 100 (zS y n (zD y n (zS y n a0))))), some (fI (r.length : Int))]) (st' := [.ref 66]) (h' := (pre ++ rz_t w wt c tl T n (zS y n (zD y n (zS y n a0))) a' sd we nu' na' rp M (R.set (4 * rp + (r.length : Int)).toNat (zv y n (zS y n a0))) (O.set (4 * rp + (r.length : Int)).toNat nu') (A.set (4 * rp + (r.length : Int)).toNat (zS y n a0)))) (cl' := 0) (sl' := 0) rfl ?_
    refine fw_gf rfl rfl (rz_g 0 hpre rfl) rfl ?_
    refine ik_Wk 1 (pc' := 171) (loc' := [some (.ref 66), some (fI sum), some (fI (r.length : Int)), some (fI (4 * rp + (r.length : Int))), some (fI (znum y n 1 100 (zS y n (zD y n (zS y n a0))))), some (fI (r.length : Int))]) (st' := [.ref 66, .ref 73]) (h' := (pre ++ rz_t w wt c tl T n (zS y n (zD y n (zS y n a0))) a' sd we nu' na' rp M (R.set (4 * rp + (r.length : Int)).toNat (zv y n (zS y n a0))) (O.set (4 * rp + (r.length : Int)).toNat nu') (A.set (4 * rp + (r.length : Int)).toNat (zS y n a0)))) (cl' := 0) (sl' := 0) rfl ?_
    refine fw_gf rfl rfl (rz_g 0 hpre rfl) rfl ?_
    refine ik_Wk 1 (pc' := 175) (loc' := [some (.ref 66), some (fI sum), some (fI (r.length : Int)), some (fI (4 * rp + (r.length : Int))), some (fI (znum y n 1 100 (zS y n (zD y n (zS y n a0))))), some (fI (r.length : Int))]) (st' := [fI rp, .ref 73, fI rp, .ref 73]) (h' := (pre ++ rz_t w wt c tl T n (zS y n (zD y n (zS y n a0))) a' sd we nu' na' rp M (R.set (4 * rp + (r.length : Int)).toNat (zv y n (zS y n a0))) (O.set (4 * rp + (r.length : Int)).toNat nu') (A.set (4 * rp + (r.length : Int)).toNat (zS y n a0)))) (cl' := 0) (sl' := 0) rfl ?_
    refine fw_ial rfl (rz_g 7 hpre rfl) (by omega) (by omega) (by omega) ?_
    rw [hcnt]
    refine ik_Wk 1 (pc' := 177) (loc' := [some (.ref 66), some (fI sum), some (fI (r.length : Int)), some (fI (4 * rp + (r.length : Int))), some (fI (znum y n 1 100 (zS y n (zD y n (zS y n a0))))), some (fI (r.length : Int))]) (st' := [fI 1, fI (r.length : Int), fI rp, .ref 73]) (h' := (pre ++ rz_t w wt c tl T n (zS y n (zD y n (zS y n a0))) a' sd we nu' na' rp M (R.set (4 * rp + (r.length : Int)).toNat (zv y n (zS y n a0))) (O.set (4 * rp + (r.length : Int)).toNat nu') (A.set (4 * rp + (r.length : Int)).toNat (zS y n a0)))) (cl' := 0) (sl' := 0) rfl ?_
    refine fw_add rfl ?_
    have hl19 : (M.set rp.toNat ((r.length : Int) + 1)).length = 12 := (List.length_set ..).trans hM
    refine fw_ias (h' := (pre ++ rz_t w wt c tl T n (zS y n (zD y n (zS y n a0))) a' sd we nu' na' rp (M.set rp.toNat ((r.length : Int) + 1)) (R.set (4 * rp + (r.length : Int)).toNat (zv y n (zS y n a0))) (O.set (4 * rp + (r.length : Int)).toNat nu') (A.set (4 * rp + (r.length : Int)).toNat (zS y n a0)))) rfl (rz_g 7 hpre rfl) (by omega) (by omega) (by omega) (rz_s 7 hpre rfl) ?_
    refine ik_Wk 1 (pc' := 181) (loc' := [some (.ref 66), some (fI sum), some (fI (r.length : Int)), some (fI (4 * rp + (r.length : Int))), some (fI (znum y n 1 100 (zS y n (zD y n (zS y n a0))))), some (fI (r.length : Int))]) (st' := [fI (znum y n 1 100 (zS y n (zD y n (zS y n a0))))]) (h' := (pre ++ rz_t w wt c tl T n (zS y n (zD y n (zS y n a0))) a' sd we nu' na' rp (M.set rp.toNat ((r.length : Int) + 1)) (R.set (4 * rp + (r.length : Int)).toNat (zv y n (zS y n a0))) (O.set (4 * rp + (r.length : Int)).toNat nu') (A.set (4 * rp + (r.length : Int)).toNat (zS y n a0)))) (cl' := 0) (sl' := 0) rfl ?_
    exact ik_Wret rfl rfl ⟨_, _, rfl, rfl, rfl, rfl, (Or.inr ⟨_, _, _, _, _, _, _, _, _, Or.inr (Or.inr (Or.inl ⟨hg1, hany, by assumption, rfl, rfl⟩)), rfl, hl19, hl1, hl18, hl2, by omega, by omega, rfl⟩)⟩

theorem rz_mv85_4 {pre tl : List ik_E} {w : Nat → Value} {wt : List Value} {c : Nat → ik_E} {y : Int → Int} {T : List Int} {n fp sd we rp : Int} {M R O A : List Int} (ok : rz_ok y T n pre tl) {a0 sum : Int} {r : List zM} (hM : M.length = 12) (hR : R.length = 48) (hO : O.length = 48) (hA : A.length = 48) (hrp : 0 ≤ rp) (hrp2 : rp ≤ 10) (hcnt : M.getD rp.toNat 0 = (r.length : Int)) (hrl : r.length ≤ 3) (hz : ∀ k : Int, 0 ≤ k → k < (r.length : Int) → R.getD (4 * rp + k).toNat 0 = (r.getD k.toNat (0, 0, 0)).1 ∧ 0 ≤ (r.getD k.toNat (0, 0, 0)).1 ∧ (r.getD k.toNat (0, 0, 0)).1 ≤ 11) (hs0 : 0 ≤ sum) (hs1 : sum ≤ 100) (h0 : 0 ≤ a0) (h1 : a0 ≤ n) (hg1 : znum y n 0 11 (zS y n a0) = 0) (hany : (r.any fun m => decide (m.1 = zv y n (zS y n a0))) = true) : ik_G 143 85 [some (.ref 66), some (fI sum), some (fI (r.length : Int)), some (fI (4 * rp + (r.length : Int))), some (fI 4), some (fI (r.length : Int))] [] (pre ++ rz_t w wt c tl T n (zS y n a0) (zD y n (zS y n a0)) sd we (zv y n (zS y n a0)) (zS y n a0) rp M R O A) (fun rv h' => (znum y n 0 11 (zS y n a0) = 0 ∧ (r.any fun m => decide (m.1 = zv y n (zS y n a0))) = false ∧ znum y n 1 100 (zS y n (zD y n (zS y n a0))) = 0 ∧ sum + zv y n (zS y n (zD y n (zS y n a0))) ≤ 100 ∧ rv = [fI 0] ∧ h' = (pre ++ rz_t w wt c tl T n fp (zD y n (zS y n (zD y n (zS y n a0)))) sd we (zv y n (zS y n (zD y n (zS y n a0)))) (zS y n (zD y n (zS y n a0))) rp (M.set rp.toNat ((r.length : Int) + 1)) (R.set (4 * rp + (r.length : Int)).toNat (zv y n (zS y n a0))) (O.set (4 * rp + (r.length : Int)).toNat (zv y n (zS y n (zD y n (zS y n a0))))) (A.set (4 * rp + (r.length : Int)).toNat (zS y n a0)))) ∨ (∃ (f a a' nu' na' : Int) (M' R' O' A' : List Int), zmf y n r sum a0 f a ∧ rv = [fI f] ∧ M'.length = 12 ∧ R'.length = 48 ∧ O'.length = 48 ∧ A'.length = 48 ∧ 0 ≤ a' ∧ a' ≤ n ∧ h' = (pre ++ rz_t w wt c tl T n a a' sd we nu' na' rp M' R' O' A'))) := by
  have ok' := ok
  obtain ⟨hpre, htl, hT, bT, hn, hn2, hy⟩ := ok'
  have hgv := znum0 hg1
  have hz1 := zS_ge (y := y) (n := n) a0
  have hz2 := zS_le (y := y) (n := n) (i := a0) h1
  have hz3 := zD_ge (y := y) (n := n) (zS y n a0)
  have hz4 := zD_le (y := y) (n := n) (i := zS y n a0) hz2
  refine ik_Wk 1 (pc' := 86) (loc' := [some (.ref 66), some (fI sum), some (fI (r.length : Int)), some (fI (4 * rp + (r.length : Int))), some (fI 4), some (fI (r.length : Int))]) (st' := [.ref 66]) (h' := (pre ++ rz_t w wt c tl T n (zS y n a0) (zD y n (zS y n a0)) sd we (zv y n (zS y n a0)) (zS y n a0) rp M R O A)) (cl' := 0) (sl' := 0) rfl ?_
  refine fw_gf rfl rfl (rz_g 0 hpre rfl) rfl ?_
  refine ik_Wk 2 (pc' := 91) (loc' := [some (.ref 66), some (fI sum), some (fI (r.length : Int)), some (fI (4 * rp + (r.length : Int))), some (fI 4), some (fI (r.length : Int))]) (st' := [.ref 66, fI (4 * rp + (r.length : Int)), .ref 74]) (h' := (pre ++ rz_t w wt c tl T n (zS y n a0) (zD y n (zS y n a0)) sd we (zv y n (zS y n a0)) (zS y n a0) rp M R O A)) (cl' := 0) (sl' := 0) rfl ?_
  refine fw_gf rfl rfl (rz_g 0 hpre rfl) rfl ?_
  have hl1 : (R.set (4 * rp + (r.length : Int)).toNat (zv y n (zS y n a0))).length = 48 := (List.length_set ..).trans hR
  refine fw_ias (h' := (pre ++ rz_t w wt c tl T n (zS y n a0) (zD y n (zS y n a0)) sd we (zv y n (zS y n a0)) (zS y n a0) rp M (R.set (4 * rp + (r.length : Int)).toNat (zv y n (zS y n a0))) O A)) rfl (rz_g 8 hpre rfl) (by omega) (by omega) (by omega) (rz_s 8 hpre rfl) ?_
  refine ik_Wk 1 (pc' := 96) (loc' := [some (.ref 66), some (fI sum), some (fI (r.length : Int)), some (fI (4 * rp + (r.length : Int))), some (fI 4), some (fI (r.length : Int))]) (st' := [.ref 66]) (h' := (pre ++ rz_t w wt c tl T n (zS y n a0) (zD y n (zS y n a0)) sd we (zv y n (zS y n a0)) (zS y n a0) rp M (R.set (4 * rp + (r.length : Int)).toNat (zv y n (zS y n a0))) O A)) (cl' := 0) (sl' := 0) rfl ?_
  refine fw_gf rfl rfl (rz_g 0 hpre rfl) rfl ?_
  refine ik_Wk 2 (pc' := 101) (loc' := [some (.ref 66), some (fI sum), some (fI (r.length : Int)), some (fI (4 * rp + (r.length : Int))), some (fI 4), some (fI (r.length : Int))]) (st' := [.ref 66, fI (4 * rp + (r.length : Int)), .ref 76]) (h' := (pre ++ rz_t w wt c tl T n (zS y n a0) (zD y n (zS y n a0)) sd we (zv y n (zS y n a0)) (zS y n a0) rp M (R.set (4 * rp + (r.length : Int)).toNat (zv y n (zS y n a0))) O A)) (cl' := 0) (sl' := 0) rfl ?_
  refine fw_gf rfl rfl (rz_g 0 hpre rfl) rfl ?_
  have hl2 : (A.set (4 * rp + (r.length : Int)).toNat (zS y n a0)).length = 48 := (List.length_set ..).trans hA
  refine fw_ias (h' := (pre ++ rz_t w wt c tl T n (zS y n a0) (zD y n (zS y n a0)) sd we (zv y n (zS y n a0)) (zS y n a0) rp M (R.set (4 * rp + (r.length : Int)).toNat (zv y n (zS y n a0))) O (A.set (4 * rp + (r.length : Int)).toNat (zS y n a0)))) rfl (rz_g 10 hpre rfl) (by omega) (by omega) (by omega) (rz_s 10 hpre rfl) ?_
  refine ik_Wk 1 (pc' := 107) (loc' := [some (.ref 66), some (fI sum), some (fI (r.length : Int)), some (fI (4 * rp + (r.length : Int))), some (fI 4), some (fI (r.length : Int))]) (st' := [fI 4]) (h' := (pre ++ rz_t w wt c tl T n (zS y n a0) (zD y n (zS y n a0)) sd we (zv y n (zS y n a0)) (zS y n a0) rp M (R.set (4 * rp + (r.length : Int)).toNat (zv y n (zS y n a0))) O (A.set (4 * rp + (r.length : Int)).toNat (zS y n a0)))) (cl' := 0) (sl' := 0) rfl ?_
  refine fw_if_le rfl rfl (by omega) (by omega) (fun hc3 => absurd hc3 (by omega)) (fun hc3 => ?_)
  refine ik_Wk 4 (pc' := 126) (loc' := [some (.ref 66), some (fI sum), some (fI (r.length : Int)), some (fI (4 * rp + (r.length : Int))), some (fI 4), some (fI (r.length : Int))]) (st' := [fI 4]) (h' := (pre ++ rz_t w wt c tl T n (zS y n a0) (zD y n (zS y n a0)) sd we (zv y n (zS y n a0)) (zS y n a0) rp M (R.set (4 * rp + (r.length : Int)).toNat (zv y n (zS y n a0))) O (A.set (4 * rp + (r.length : Int)).toNat (zS y n a0)))) (cl' := 0) (sl' := 0) rfl ?_
  refine fw_if_ne rfl rfl (by omega) (by omega) (fun hc4 => absurd hc4 (by omega)) (fun hc4 => ?_)
  refine ik_Wk 3 (pc' := 157) (loc' := [some (.ref 66), some (fI sum), some (fI (r.length : Int)), some (fI (4 * rp + (r.length : Int))), some (fI 4), some (fI (r.length : Int))]) (st' := [.ref 66]) (h' := (pre ++ rz_t w wt c tl T n (zS y n a0) (zD y n (zS y n a0)) sd we (zv y n (zS y n a0)) (zS y n a0) rp M (R.set (4 * rp + (r.length : Int)).toNat (zv y n (zS y n a0))) O (A.set (4 * rp + (r.length : Int)).toNat (zS y n a0)))) (cl' := 0) (sl' := 0) rfl ?_
  refine fw_gf rfl rfl (rz_g 0 hpre rfl) rfl ?_
  refine ik_Wk 2 (pc' := 162) (loc' := [some (.ref 66), some (fI sum), some (fI (r.length : Int)), some (fI (4 * rp + (r.length : Int))), some (fI 4), some (fI (r.length : Int))]) (st' := [.ref 66, fI (4 * rp + (r.length : Int)), .ref 75]) (h' := (pre ++ rz_t w wt c tl T n (zS y n a0) (zD y n (zS y n a0)) sd we (zv y n (zS y n a0)) (zS y n a0) rp M (R.set (4 * rp + (r.length : Int)).toNat (zv y n (zS y n a0))) O (A.set (4 * rp + (r.length : Int)).toNat (zS y n a0)))) (cl' := 0) (sl' := 0) rfl ?_
  refine fw_gf rfl rfl (rz_g 0 hpre rfl) rfl ?_
  have hl5 : (O.set (4 * rp + (r.length : Int)).toNat (zv y n (zS y n a0))).length = 48 := (List.length_set ..).trans hO
  refine fw_ias (h' := (pre ++ rz_t w wt c tl T n (zS y n a0) (zD y n (zS y n a0)) sd we (zv y n (zS y n a0)) (zS y n a0) rp M (R.set (4 * rp + (r.length : Int)).toNat (zv y n (zS y n a0))) (O.set (4 * rp + (r.length : Int)).toNat (zv y n (zS y n a0))) (A.set (4 * rp + (r.length : Int)).toNat (zS y n a0)))) rfl (rz_g 9 hpre rfl) (by omega) (by omega) (by omega) (rz_s 9 hpre rfl) ?_
  refine ik_Wk 1 (pc' := 167) (loc' := [some (.ref 66), some (fI sum), some (fI (r.length : Int)), some (fI (4 * rp + (r.length : Int))), some (fI 4), some (fI (r.length : Int))]) (st' := [.ref 66]) (h' := (pre ++ rz_t w wt c tl T n (zS y n a0) (zD y n (zS y n a0)) sd we (zv y n (zS y n a0)) (zS y n a0) rp M (R.set (4 * rp + (r.length : Int)).toNat (zv y n (zS y n a0))) (O.set (4 * rp + (r.length : Int)).toNat (zv y n (zS y n a0))) (A.set (4 * rp + (r.length : Int)).toNat (zS y n a0)))) (cl' := 0) (sl' := 0) rfl ?_
  refine fw_gf rfl rfl (rz_g 0 hpre rfl) rfl ?_
  refine ik_Wk 1 (pc' := 171) (loc' := [some (.ref 66), some (fI sum), some (fI (r.length : Int)), some (fI (4 * rp + (r.length : Int))), some (fI 4), some (fI (r.length : Int))]) (st' := [.ref 66, .ref 73]) (h' := (pre ++ rz_t w wt c tl T n (zS y n a0) (zD y n (zS y n a0)) sd we (zv y n (zS y n a0)) (zS y n a0) rp M (R.set (4 * rp + (r.length : Int)).toNat (zv y n (zS y n a0))) (O.set (4 * rp + (r.length : Int)).toNat (zv y n (zS y n a0))) (A.set (4 * rp + (r.length : Int)).toNat (zS y n a0)))) (cl' := 0) (sl' := 0) rfl ?_
  refine fw_gf rfl rfl (rz_g 0 hpre rfl) rfl ?_
  refine ik_Wk 1 (pc' := 175) (loc' := [some (.ref 66), some (fI sum), some (fI (r.length : Int)), some (fI (4 * rp + (r.length : Int))), some (fI 4), some (fI (r.length : Int))]) (st' := [fI rp, .ref 73, fI rp, .ref 73]) (h' := (pre ++ rz_t w wt c tl T n (zS y n a0) (zD y n (zS y n a0)) sd we (zv y n (zS y n a0)) (zS y n a0) rp M (R.set (4 * rp + (r.length : Int)).toNat (zv y n (zS y n a0))) (O.set (4 * rp + (r.length : Int)).toNat (zv y n (zS y n a0))) (A.set (4 * rp + (r.length : Int)).toNat (zS y n a0)))) (cl' := 0) (sl' := 0) rfl ?_
  refine fw_ial rfl (rz_g 7 hpre rfl) (by omega) (by omega) (by omega) ?_
  rw [hcnt]
  refine ik_Wk 1 (pc' := 177) (loc' := [some (.ref 66), some (fI sum), some (fI (r.length : Int)), some (fI (4 * rp + (r.length : Int))), some (fI 4), some (fI (r.length : Int))]) (st' := [fI 1, fI (r.length : Int), fI rp, .ref 73]) (h' := (pre ++ rz_t w wt c tl T n (zS y n a0) (zD y n (zS y n a0)) sd we (zv y n (zS y n a0)) (zS y n a0) rp M (R.set (4 * rp + (r.length : Int)).toNat (zv y n (zS y n a0))) (O.set (4 * rp + (r.length : Int)).toNat (zv y n (zS y n a0))) (A.set (4 * rp + (r.length : Int)).toNat (zS y n a0)))) (cl' := 0) (sl' := 0) rfl ?_
  refine fw_add rfl ?_
  have hl6 : (M.set rp.toNat ((r.length : Int) + 1)).length = 12 := (List.length_set ..).trans hM
  refine fw_ias (h' := (pre ++ rz_t w wt c tl T n (zS y n a0) (zD y n (zS y n a0)) sd we (zv y n (zS y n a0)) (zS y n a0) rp (M.set rp.toNat ((r.length : Int) + 1)) (R.set (4 * rp + (r.length : Int)).toNat (zv y n (zS y n a0))) (O.set (4 * rp + (r.length : Int)).toNat (zv y n (zS y n a0))) (A.set (4 * rp + (r.length : Int)).toNat (zS y n a0)))) rfl (rz_g 7 hpre rfl) (by omega) (by omega) (by omega) (rz_s 7 hpre rfl) ?_
  refine ik_Wk 1 (pc' := 181) (loc' := [some (.ref 66), some (fI sum), some (fI (r.length : Int)), some (fI (4 * rp + (r.length : Int))), some (fI 4), some (fI (r.length : Int))]) (st' := [fI 4]) (h' := (pre ++ rz_t w wt c tl T n (zS y n a0) (zD y n (zS y n a0)) sd we (zv y n (zS y n a0)) (zS y n a0) rp (M.set rp.toNat ((r.length : Int) + 1)) (R.set (4 * rp + (r.length : Int)).toNat (zv y n (zS y n a0))) (O.set (4 * rp + (r.length : Int)).toNat (zv y n (zS y n a0))) (A.set (4 * rp + (r.length : Int)).toNat (zS y n a0)))) (cl' := 0) (sl' := 0) rfl ?_
  exact ik_Wret rfl rfl ⟨_, _, rfl, rfl, rfl, rfl, (Or.inr ⟨_, _, _, _, _, _, _, _, _, Or.inr (Or.inl ⟨hg1, hany, rfl, rfl⟩), rfl, hl6, hl1, hl5, hl2, by omega, by omega, rfl⟩)⟩

theorem rz_mvL {pre tl : List ik_E} {w : Nat → Value} {wt : List Value} {c : Nat → ik_E} {y : Int → Int} {T : List Int} {n fp sd we rp : Int} {M R O A : List Int} (ok : rz_ok y T n pre tl) {a0 sum : Int} {r : List zM} (hM : M.length = 12) (hR : R.length = 48) (hO : O.length = 48) (hA : A.length = 48) (hrp : 0 ≤ rp) (hrp2 : rp ≤ 10) (hcnt : M.getD rp.toNat 0 = (r.length : Int)) (hrl : r.length ≤ 3) (hz : ∀ k : Int, 0 ≤ k → k < (r.length : Int) → R.getD (4 * rp + k).toNat 0 = (r.getD k.toNat (0, 0, 0)).1 ∧ 0 ≤ (r.getD k.toNat (0, 0, 0)).1 ∧ (r.getD k.toNat (0, 0, 0)).1 ≤ 11) (hs0 : 0 ≤ sum) (hs1 : sum ≤ 100) (h0 : 0 ≤ a0) (h1 : a0 ≤ n) (hg1 : znum y n 0 11 (zS y n a0) = 0) : ∀ (d : Nat) (i f fq : Int), ((r.length : Int) - i).toNat = d → 0 ≤ i → i ≤ (r.length : Int) → ((f = 0 ∧ fq = fp ∧ ∀ j : Int, (r.length : Int) - i ≤ j → j < (r.length : Int) → ¬ (r.getD j.toNat (0, 0, 0)).1 = zv y n (zS y n a0)) ∨ (f = 4 ∧ fq = zS y n a0 ∧ (r.any fun m => decide (m.1 = zv y n (zS y n a0))) = true)) → ik_G 143 39 [some (.ref 66), some (fI sum), some (fI (r.length : Int)), some (fI (4 * rp + (r.length : Int))), some (fI f), some (fI i)] [] (pre ++ rz_t w wt c tl T n fq (zD y n (zS y n a0)) sd we (zv y n (zS y n a0)) (zS y n a0) rp M R O A) (fun rv h' => (znum y n 0 11 (zS y n a0) = 0 ∧ (r.any fun m => decide (m.1 = zv y n (zS y n a0))) = false ∧ znum y n 1 100 (zS y n (zD y n (zS y n a0))) = 0 ∧ sum + zv y n (zS y n (zD y n (zS y n a0))) ≤ 100 ∧ rv = [fI 0] ∧ h' = (pre ++ rz_t w wt c tl T n fp (zD y n (zS y n (zD y n (zS y n a0)))) sd we (zv y n (zS y n (zD y n (zS y n a0)))) (zS y n (zD y n (zS y n a0))) rp (M.set rp.toNat ((r.length : Int) + 1)) (R.set (4 * rp + (r.length : Int)).toNat (zv y n (zS y n a0))) (O.set (4 * rp + (r.length : Int)).toNat (zv y n (zS y n (zD y n (zS y n a0))))) (A.set (4 * rp + (r.length : Int)).toNat (zS y n a0)))) ∨ (∃ (f a a' nu' na' : Int) (M' R' O' A' : List Int), zmf y n r sum a0 f a ∧ rv = [fI f] ∧ M'.length = 12 ∧ R'.length = 48 ∧ O'.length = 48 ∧ A'.length = 48 ∧ 0 ≤ a' ∧ a' ≤ n ∧ h' = (pre ++ rz_t w wt c tl T n a a' sd we nu' na' rp M' R' O' A'))) := by
  have ok' := ok
  obtain ⟨hpre, htl, hT, bT, hn, hn2, hy⟩ := ok'
  have hgv := znum0 hg1
  have hz1 := zS_ge (y := y) (n := n) a0
  have hz2 := zS_le (y := y) (n := n) (i := a0) h1
  have hz3 := zD_ge (y := y) (n := n) (zS y n a0)
  have hz4 := zD_le (y := y) (n := n) (i := zS y n a0) hz2
  intro d
  induction d using Nat.strongRecOn with
  | _ d ih =>
    intro i f fq hk hi0 hi1 hst
    refine ik_Wk 2 (pc' := 42) (loc' := [some (.ref 66), some (fI sum), some (fI (r.length : Int)), some (fI (4 * rp + (r.length : Int))), some (fI f), some (fI i)]) (st' := [fI (r.length : Int), fI i]) (h' := (pre ++ rz_t w wt c tl T n fq (zD y n (zS y n a0)) sd we (zv y n (zS y n a0)) (zS y n a0) rp M R O A)) (cl' := 0) (sl' := 0) rfl ?_
    refine fw_ic_ge rfl rfl (by omega) (by omega) (by omega) (by omega) (fun hc1 => ?_) (fun hc1 => ?_)
    · have ei : i = (r.length : Int) := by omega
      subst ei
      rcases hst with ⟨rfl, rfl, q⟩ | ⟨rfl, rfl, q⟩
      · exact rz_mv85_0 ok hM hR hO hA hrp hrp2 hcnt hrl hz hs0 hs1 h0 h1 hg1 (zany_f (fun k k0 k1 => q k (by omega) k1))
      · exact rz_mv85_4 ok hM hR hO hA hrp hrp2 hcnt hrl hz hs0 hs1 h0 h1 hg1 q
    · refine ik_Wk 1 (pc' := 46) (loc' := [some (.ref 66), some (fI sum), some (fI (r.length : Int)), some (fI (4 * rp + (r.length : Int))), some (fI f), some (fI i)]) (st' := [.ref 66]) (h' := (pre ++ rz_t w wt c tl T n fq (zD y n (zS y n a0)) sd we (zv y n (zS y n a0)) (zS y n a0) rp M R O A)) (cl' := 0) (sl' := 0) rfl ?_
      refine fw_gf rfl rfl (rz_g 0 hpre rfl) rfl ?_
      refine ik_Wk 2 (pc' := 51) (loc' := [some (.ref 66), some (fI sum), some (fI (r.length : Int)), some (fI (4 * rp + (r.length : Int))), some (fI f), some (fI i)]) (st' := [fI 1, fI (4 * rp + (r.length : Int)), .ref 74]) (h' := (pre ++ rz_t w wt c tl T n fq (zD y n (zS y n a0)) sd we (zv y n (zS y n a0)) (zS y n a0) rp M R O A)) (cl' := 0) (sl' := 0) rfl ?_
      refine fw_sub rfl ?_
      refine ik_Wk 1 (pc' := 54) (loc' := [some (.ref 66), some (fI sum), some (fI (r.length : Int)), some (fI (4 * rp + (r.length : Int))), some (fI f), some (fI i)]) (st' := [fI i, fI ((4 * rp + (r.length : Int)) - 1), .ref 74]) (h' := (pre ++ rz_t w wt c tl T n fq (zD y n (zS y n a0)) sd we (zv y n (zS y n a0)) (zS y n a0) rp M R O A)) (cl' := 0) (sl' := 0) rfl ?_
      refine fw_sub rfl ?_
      refine fw_ial rfl (rz_g 8 hpre rfl) (by omega) (by omega) (by omega) ?_
      have ez : (4 * rp + (r.length : Int) - 1 - i).toNat = (4 * rp + ((r.length : Int) - 1 - i)).toNat := by omega
      have hzk := hz ((r.length : Int) - 1 - i) (by omega) (by omega)
      rw [← ez] at hzk
      refine ik_Wk 1 (pc' := 57) (loc' := [some (.ref 66), some (fI sum), some (fI (r.length : Int)), some (fI (4 * rp + (r.length : Int))), some (fI f), some (fI i)]) (st' := [.ref 66, fI (R.getD (((4 * rp + (r.length : Int)) - 1) - i).toNat 0)]) (h' := (pre ++ rz_t w wt c tl T n fq (zD y n (zS y n a0)) sd we (zv y n (zS y n a0)) (zS y n a0) rp M R O A)) (cl' := 0) (sl' := 0) rfl ?_
      refine fw_gf rfl rfl (rz_g 0 hpre rfl) rfl ?_
      refine fw_ic_ne rfl rfl (by omega) (by omega) (by omega) (by omega) (fun hc2 => ?_) (fun hc2 => ?_)
      · refine ik_Wk 3 (pc' := 66) (loc' := [some (.ref 66), some (fI sum), some (fI (r.length : Int)), some (fI (4 * rp + (r.length : Int))), some (fI f), some (fI i)]) (st' := [.ref 66, fI 4, .ref 66]) (h' := (pre ++ rz_t w wt c tl T n fq (zD y n (zS y n a0)) sd we (zv y n (zS y n a0)) (zS y n a0) rp M R O A)) (cl' := 0) (sl' := 0) rfl ?_
        refine fw_gf rfl rfl (rz_g 0 hpre rfl) rfl ?_
        refine fw_call 137 3 0 [.ref 66, fI 4, fI (zS y n a0)] [] rfl rfl rfl (by decide) rfl rfl (fw_rec (rz_len hpre htl) rfl (rz_g 0 hpre rfl) rfl (by decide)) (rz_fails ok) ?_
        rintro rv h' ⟨rfl, rfl⟩
        refine ik_Wk 0 (pc' := 72) (loc' := [some (.ref 66), some (fI sum), some (fI (r.length : Int)), some (fI (4 * rp + (r.length : Int))), some (fI f), some (fI i)]) (st' := [fI 4]) (h' := (pre ++ rz_t w wt c tl T n (zS y n a0) (zD y n (zS y n a0)) sd we (zv y n (zS y n a0)) (zS y n a0) rp M R O A)) (cl' := 0) (sl' := 0) rfl ?_
        refine ik_Wk 2 (pc' := 79) (loc' := [some (.ref 66), some (fI sum), some (fI (r.length : Int)), some (fI (4 * rp + (r.length : Int))), some (fI 4), some (fI i)]) (st' := []) (h' := (pre ++ rz_t w wt c tl T n (zS y n a0) (zD y n (zS y n a0)) sd we (zv y n (zS y n a0)) (zS y n a0) rp M R O A)) (cl' := 0) (sl' := 0) rfl ?_
        refine fw_inc (a := i) (loc' := [some (.ref 66), some (fI sum), some (fI (r.length : Int)), some (fI (4 * rp + (r.length : Int))), some (fI 4), some (fI (i + 1))]) rfl rfl (Nat.le_of_ble_eq_true rfl) rfl ?_
        refine ik_Wk 1 (pc' := 39) (loc' := [some (.ref 66), some (fI sum), some (fI (r.length : Int)), some (fI (4 * rp + (r.length : Int))), some (fI 4), some (fI (i + 1))]) (st' := []) (h' := (pre ++ rz_t w wt c tl T n (zS y n a0) (zD y n (zS y n a0)) sd we (zv y n (zS y n a0)) (zS y n a0) rp M R O A)) (cl' := 0) (sl' := 0) rfl ?_
        skip
        exact ih _ (by omega) (i + 1) 4 _ rfl (by omega) (by omega) (Or.inr ⟨rfl, rfl, zany_t (k := (r.length : Int) - 1 - i) (by omega) (by omega) (by omega)⟩)
      · refine ik_Wk 2 (pc' := 79) (loc' := [some (.ref 66), some (fI sum), some (fI (r.length : Int)), some (fI (4 * rp + (r.length : Int))), some (fI f), some (fI i)]) (st' := []) (h' := (pre ++ rz_t w wt c tl T n fq (zD y n (zS y n a0)) sd we (zv y n (zS y n a0)) (zS y n a0) rp M R O A)) (cl' := 0) (sl' := 0) rfl ?_
        refine fw_inc (a := i) (loc' := [some (.ref 66), some (fI sum), some (fI (r.length : Int)), some (fI (4 * rp + (r.length : Int))), some (fI f), some (fI (i + 1))]) rfl rfl (Nat.le_of_ble_eq_true rfl) rfl ?_
        refine ik_Wk 1 (pc' := 39) (loc' := [some (.ref 66), some (fI sum), some (fI (r.length : Int)), some (fI (4 * rp + (r.length : Int))), some (fI f), some (fI (i + 1))]) (st' := []) (h' := (pre ++ rz_t w wt c tl T n fq (zD y n (zS y n a0)) sd we (zv y n (zS y n a0)) (zS y n a0) rp M R O A)) (cl' := 0) (sl' := 0) rfl ?_
        skip
        exact ih _ (by omega) (i + 1) f fq rfl (by omega) (by omega) (by rcases hst with ⟨a, b, q⟩ | q; (exact Or.inl ⟨a, b, fun j j0 j1 => by by_cases e : j = (r.length : Int) - 1 - i; (subst e; omega); exact q j (by omega) j1⟩); exact Or.inr q)

theorem rz_mv {pre tl : List ik_E} {w : Nat → Value} {wt : List Value} {c : Nat → ik_E} {y : Int → Int} {T : List Int} {n fp sd we nu na rp : Int} {M R O A : List Int} (ok : rz_ok y T n pre tl) {a0 sum : Int} {r : List zM} (hM : M.length = 12) (hR : R.length = 48) (hO : O.length = 48) (hA : A.length = 48) (hrp : 0 ≤ rp) (hrp2 : rp ≤ 10) (hcnt : M.getD rp.toNat 0 = (r.length : Int)) (hrl : r.length ≤ 3) (hz : ∀ k : Int, 0 ≤ k → k < (r.length : Int) → R.getD (4 * rp + k).toNat 0 = (r.getD k.toNat (0, 0, 0)).1 ∧ 0 ≤ (r.getD k.toNat (0, 0, 0)).1 ∧ (r.getD k.toNat (0, 0, 0)).1 ≤ 11) (hs0 : 0 ≤ sum) (hs1 : sum ≤ 100) (h0 : 0 ≤ a0) (h1 : a0 ≤ n) : ik_F 143 [.ref 66, fI sum] (pre ++ rz_t w wt c tl T n fp a0 sd we nu na rp M R O A) (fun rv h' => (znum y n 0 11 (zS y n a0) = 0 ∧ (r.any fun m => decide (m.1 = zv y n (zS y n a0))) = false ∧ znum y n 1 100 (zS y n (zD y n (zS y n a0))) = 0 ∧ sum + zv y n (zS y n (zD y n (zS y n a0))) ≤ 100 ∧ rv = [fI 0] ∧ h' = (pre ++ rz_t w wt c tl T n fp (zD y n (zS y n (zD y n (zS y n a0)))) sd we (zv y n (zS y n (zD y n (zS y n a0)))) (zS y n (zD y n (zS y n a0))) rp (M.set rp.toNat ((r.length : Int) + 1)) (R.set (4 * rp + (r.length : Int)).toNat (zv y n (zS y n a0))) (O.set (4 * rp + (r.length : Int)).toNat (zv y n (zS y n (zD y n (zS y n a0))))) (A.set (4 * rp + (r.length : Int)).toNat (zS y n a0)))) ∨ (∃ (f a a' nu' na' : Int) (M' R' O' A' : List Int), zmf y n r sum a0 f a ∧ rv = [fI f] ∧ M'.length = 12 ∧ R'.length = 48 ∧ O'.length = 48 ∧ A'.length = 48 ∧ 0 ≤ a' ∧ a' ≤ n ∧ h' = (pre ++ rz_t w wt c tl T n a a' sd we nu' na' rp M' R' O' A'))) := by
  have ok' := ok
  obtain ⟨hpre, htl, hT, bT, hn, hn2, hy⟩ := ok'
  refine ik_Wk 1 (pc' := 1) (loc' := [some (.ref 66), some (fI sum), none, none, none, none]) (st' := [.ref 66]) (h' := (pre ++ rz_t w wt c tl T n fp a0 sd we nu na rp M R O A)) (cl' := 0) (sl' := 0) rfl ?_
  refine fw_gf rfl rfl (rz_g 0 hpre rfl) rfl ?_
  refine ik_Wk 1 (pc' := 5) (loc' := [some (.ref 66), some (fI sum), none, none, none, none]) (st' := [.ref 66, .ref 73]) (h' := (pre ++ rz_t w wt c tl T n fp a0 sd we nu na rp M R O A)) (cl' := 0) (sl' := 0) rfl ?_
  refine fw_gf rfl rfl (rz_g 0 hpre rfl) rfl ?_
  refine fw_ial rfl (rz_g 7 hpre rfl) (by omega) (by omega) (by omega) ?_
  rw [hcnt]
  refine ik_Wk 3 (pc' := 12) (loc' := [some (.ref 66), some (fI sum), some (fI (r.length : Int)), none, none, none]) (st' := [.ref 66, fI 4]) (h' := (pre ++ rz_t w wt c tl T n fp a0 sd we nu na rp M R O A)) (cl' := 0) (sl' := 0) rfl ?_
  refine fw_gf rfl rfl (rz_g 0 hpre rfl) rfl ?_
  refine fw_mul rfl ?_
  refine ik_Wk 1 (pc' := 17) (loc' := [some (.ref 66), some (fI sum), some (fI (r.length : Int)), none, none, none]) (st' := [fI (r.length : Int), fI (4 * rp)]) (h' := (pre ++ rz_t w wt c tl T n fp a0 sd we nu na rp M R O A)) (cl' := 0) (sl' := 0) rfl ?_
  refine fw_add rfl ?_
  refine ik_Wk 3 (pc' := 21) (loc' := [some (.ref 66), some (fI sum), some (fI (r.length : Int)), some (fI ((4 * rp) + (r.length : Int))), none, none]) (st' := [fI 0, .ref 66]) (h' := (pre ++ rz_t w wt c tl T n fp a0 sd we nu na rp M R O A)) (cl' := 0) (sl' := 0) rfl ?_
  refine fw_bi rfl (by decide) ?_
  refine fw_call 141 3 0 [.ref 66, fI 0, fI 11] [] rfl rfl rfl (by decide) rfl rfl (fw_rec (rz_len hpre htl) rfl (rz_g 0 hpre rfl) rfl (by decide)) (rz_num ok (by omega) (by omega) (by decide) (by decide) (by decide)) ?_
  rintro rv h' (⟨hn1, rfl, rfl⟩ | ⟨hn1, rfl, a', nu', na', hn2a, hn2b, rfl⟩)
  · have hn2 := znum0 hn1
    have hz3 := zS_ge (y := y) (n := n) a0
    have hz4 := zS_le (y := y) (n := n) (i := a0) (by omega)
    have hz5 := zD_ge (y := y) (n := n) (zS y n a0)
    have hz6 := zD_le (y := y) (n := n) (i := zS y n a0) (by omega)
    refine ik_Wk 0 (pc' := 26) (loc' := [some (.ref 66), some (fI sum), some (fI (r.length : Int)), some (fI ((4 * rp) + (r.length : Int))), none, none]) (st' := [fI 0]) (h' := (pre ++ rz_t w wt c tl T n fp (zD y n (zS y n a0)) sd we (zv y n (zS y n a0)) (zS y n a0) rp M R O A)) (cl' := 0) (sl' := 0) rfl ?_
    refine ik_Wk 2 (pc' := 30) (loc' := [some (.ref 66), some (fI sum), some (fI (r.length : Int)), some (fI ((4 * rp) + (r.length : Int))), some (fI 0), none]) (st' := [fI 0]) (h' := (pre ++ rz_t w wt c tl T n fp (zD y n (zS y n a0)) sd we (zv y n (zS y n a0)) (zS y n a0) rp M R O A)) (cl' := 0) (sl' := 0) rfl ?_
    refine fw_if_le rfl rfl (by omega) (by omega) (fun hc7 => ?_) (fun hc7 => absurd hc7 (by omega))
    refine ik_Wk 2 (pc' := 39) (loc' := [some (.ref 66), some (fI sum), some (fI (r.length : Int)), some (fI ((4 * rp) + (r.length : Int))), some (fI 0), some (fI 0)]) (st' := []) (h' := (pre ++ rz_t w wt c tl T n fp (zD y n (zS y n a0)) sd we (zv y n (zS y n a0)) (zS y n a0) rp M R O A)) (cl' := 0) (sl' := 0) rfl ?_
    exact rz_mvL ok hM hR hO hA hrp hrp2 hcnt hrl hz hs0 hs1 h0 h1 (by assumption) _ 0 0 fp rfl (by omega) (by omega) (Or.inl ⟨rfl, rfl, fun j j0 j1 => absurd j1 (by omega)⟩)
  · have hz8 := znumR (y := y) (n := n) (lo := 0) (hi := 11) (s := zS y n a0)
    refine ik_Wk 0 (pc' := 26) (loc' := [some (.ref 66), some (fI sum), some (fI (r.length : Int)), some (fI ((4 * rp) + (r.length : Int))), none, none]) (st' := [fI (znum y n 0 11 (zS y n a0))]) (h' := (pre ++ rz_t w wt c tl T n (zS y n a0) a' sd we nu' na' rp M R O A)) (cl' := 0) (sl' := 0) rfl ?_
    refine ik_Wk 2 (pc' := 30) (loc' := [some (.ref 66), some (fI sum), some (fI (r.length : Int)), some (fI ((4 * rp) + (r.length : Int))), some (fI (znum y n 0 11 (zS y n a0))), none]) (st' := [fI (znum y n 0 11 (zS y n a0))]) (h' := (pre ++ rz_t w wt c tl T n (zS y n a0) a' sd we nu' na' rp M R O A)) (cl' := 0) (sl' := 0) rfl ?_
    refine fw_if_le rfl rfl (by omega) (by omega) (fun hc9 => absurd hc9 (by omega)) (fun hc9 => ?_)
    refine ik_Wk 1 (pc' := 35) (loc' := [some (.ref 66), some (fI sum), some (fI (r.length : Int)), some (fI ((4 * rp) + (r.length : Int))), some (fI (znum y n 0 11 (zS y n a0))), none]) (st' := [fI (znum y n 0 11 (zS y n a0))]) (h' := (pre ++ rz_t w wt c tl T n (zS y n a0) a' sd we nu' na' rp M R O A)) (cl' := 0) (sl' := 0) rfl ?_
    exact ik_Wret rfl rfl ⟨_, _, rfl, rfl, rfl, rfl, (Or.inr ⟨_, _, a', nu', na', M, R, O, A, Or.inl ⟨hn1, rfl, rfl⟩, rfl, hM, hR, hO, hA, by omega, by omega, rfl⟩)⟩
