/-! THE REFERENCE READS: its object (66) and its cells 72 .. 76 -/
def rz_t (w : Nat → Value) (wt : List Value) (c : Nat → ik_E) (tl : List ik_E) (T : List Int) (n fp a0 sd we nu na rp : Int) (M R O A : List Int) : List ik_E := .inr (10, w 0 :: w 1 :: w 2 :: w 3 :: w 4 :: w 5 :: w 6 :: w 7 :: w 8 :: .ref 72 :: fI n :: fI fp :: fI a0 :: fJ sd :: fI we :: fI nu :: fI na :: fI rp :: .ref 73 :: .ref 74 :: .ref 75 :: .ref 76 :: wt) :: c 0 :: c 1 :: c 2 :: c 3 :: c 4 :: .inl (.int, fA T) :: .inl (.int, fA M) :: .inl (.int, fA R) :: .inl (.int, fA O) :: .inl (.int, fA A) :: tl
theorem rz_len {pre tl : List ik_E} {w : Nat → Value} {wt : List Value} {c : Nat → ik_E} {T : List Int} {n fp a0 sd we nu na rp : Int} {M R O A : List Int} (hp : pre.length = 66) (htl : tl.length = 17) : (pre ++ rz_t w wt c tl T n fp a0 sd we nu na rp M R O A).length = 94 := by
  unfold rz_t
  rw [List.length_append]
  simp only [List.length_cons, htl, hp]
theorem rz_g {pre t : List ik_E} (k : Nat) {d : ik_E} (hp : pre.length = 66) (h : t[k]? = some d) : (pre ++ t)[66 + k]? = some d := by
  rw [List.getElem?_append_right (by omega), show 66 + k - pre.length = k by omega]
  exact h
theorem rz_s {pre t t' : List ik_E} (k : Nat) {d : ik_E} (hp : pre.length = 66) (h : t.set k d = t') : (pre ++ t).set (66 + k) d = pre ++ t' := by
  rw [List.set_append_right _ _ (by omega), show 66 + k - pre.length = k by omega, h]
def rz_ok (y : Int → Int) (T : List Int) (n : Int) (pre tl : List ik_E) : Prop := pre.length = 66 ∧ tl.length = 17 ∧ T.length = 500 ∧ (∀ i : Int, 0 ≤ i → i < n → 0 ≤ T.getD i.toNat 0 ∧ T.getD i.toNat 0 ≤ 255) ∧ 0 ≤ n ∧ n ≤ 500 ∧ ∀ i, 0 ≤ i → i < n → y i = T.getD i.toNat 0

theorem rz_in {h : List ik_E} {a lo hi : Int} (a0 : -9223372036854775808 ≤ a) (a1 : a < 9223372036854775808) (l0 : -9223372036854775808 ≤ lo) (l1 : lo < 9223372036854775808) (u0 : -9223372036854775808 ≤ hi) (u1 : hi < 9223372036854775808) : ik_F 127 [fJ a, fJ lo, fJ hi] h (fun rv h' => ((lo ≤ a ∧ a ≤ hi ∧ rv = [fI 1]) ∨ (¬ (lo ≤ a ∧ a ≤ hi) ∧ rv = [fI 0])) ∧ h' = h) := by
  refine ik_Wk 2 (pc' := 2) (loc' := [some (fJ a), none, some (fJ lo), none, some (fJ hi), none]) (st' := [fJ lo, fJ a]) (h' := h) (cl' := 0) (sl' := 0) rfl ?_
  refine fw_lcmp_lt rfl rfl rfl (by omega) (by omega) (by omega) (by omega) (fun hc1 => ?_) (fun hc1 => ?_)
  · refine ik_Wk 1 (pc' := 18) (loc' := [some (fJ a), none, some (fJ lo), none, some (fJ hi), none]) (st' := [fI 0]) (h' := h) (cl' := 0) (sl' := 0) rfl ?_
    exact ik_Wret rfl rfl ⟨_, _, rfl, rfl, rfl, rfl, ⟨Or.inr ⟨by omega, rfl⟩, rfl⟩⟩
  · refine ik_Wk 2 (pc' := 9) (loc' := [some (fJ a), none, some (fJ lo), none, some (fJ hi), none]) (st' := [fJ hi, fJ a]) (h' := h) (cl' := 0) (sl' := 0) rfl ?_
    refine fw_lcmp_gt rfl rfl rfl (by omega) (by omega) (by omega) (by omega) (fun hc2 => ?_) (fun hc2 => ?_)
    · refine ik_Wk 1 (pc' := 18) (loc' := [some (fJ a), none, some (fJ lo), none, some (fJ hi), none]) (st' := [fI 0]) (h' := h) (cl' := 0) (sl' := 0) rfl ?_
      exact ik_Wret rfl rfl ⟨_, _, rfl, rfl, rfl, rfl, ⟨Or.inr ⟨by omega, rfl⟩, rfl⟩⟩
    · refine ik_Wk 2 (pc' := 18) (loc' := [some (fJ a), none, some (fJ lo), none, some (fJ hi), none]) (st' := [fI 1]) (h' := h) (cl' := 0) (sl' := 0) rfl ?_
      exact ik_Wret rfl rfl ⟨_, _, rfl, rfl, rfl, rfl, ⟨Or.inl ⟨by omega, by omega, rfl⟩, rfl⟩⟩

theorem rz_code {h : List ik_E} {a b e d : Int} (a0 : 0 ≤ a) (a1 : a ≤ 255) (b0 : 0 ≤ b) (b1 : b ≤ 255) (e0 : 0 ≤ e) (e1 : e ≤ 255) (d0 : 0 ≤ d) (d1 : d ≤ 255) : ik_F 139 [fI a, fI b, fI e, fI d] h (fun rv h' => rv = [fJ (27 * (27 * (27 * (a - 96) + b - 96) + e - 96) + d - 96)] ∧ h' = h) := by
  refine fw_l2 27 rfl rfl (by decide) ?_
  refine fw_l2 27 rfl rfl (by decide) ?_
  refine fw_l2 27 rfl rfl (by decide) ?_
  refine ik_Wk 1 (pc' := 10) (loc' := [some (fI a), some (fI b), some (fI e), some (fI d)]) (st' := [fI a, fJ 27, fJ 27, fJ 27]) (h' := h) (cl' := 0) (sl' := 0) rfl ?_
  refine fw_i2l rfl (by omega) (by omega) ?_
  refine fw_l2 96 rfl rfl (by decide) ?_
  refine fw_lsub rfl ?_
  refine fw_lmul rfl ?_
  refine ik_Wk 1 (pc' := 17) (loc' := [some (fI a), some (fI b), some (fI e), some (fI d)]) (st' := [fI b, fJ (27 * (a - 96)), fJ 27, fJ 27]) (h' := h) (cl' := 0) (sl' := 0) rfl ?_
  refine fw_i2l rfl (by omega) (by omega) ?_
  refine fw_ladd rfl ?_
  refine fw_l2 96 rfl rfl (by decide) ?_
  refine fw_lsub rfl ?_
  refine fw_lmul rfl ?_
  refine ik_Wk 1 (pc' := 25) (loc' := [some (fI a), some (fI b), some (fI e), some (fI d)]) (st' := [fI e, fJ (27 * (((27 * (a - 96)) + b) - 96)), fJ 27]) (h' := h) (cl' := 0) (sl' := 0) rfl ?_
  refine fw_i2l rfl (by omega) (by omega) ?_
  refine fw_ladd rfl ?_
  refine fw_l2 96 rfl rfl (by decide) ?_
  refine fw_lsub rfl ?_
  refine fw_lmul rfl ?_
  refine ik_Wk 1 (pc' := 33) (loc' := [some (fI a), some (fI b), some (fI e), some (fI d)]) (st' := [fI d, fJ (27 * (((27 * (((27 * (a - 96)) + b) - 96)) + e) - 96))]) (h' := h) (cl' := 0) (sl' := 0) rfl ?_
  refine fw_i2l rfl (by omega) (by omega) ?_
  refine fw_ladd rfl ?_
  refine fw_l2 96 rfl rfl (by decide) ?_
  refine fw_lsub rfl ?_
  exact ik_Wret rfl rfl ⟨_, _, rfl, rfl, rfl, rfl, ⟨rfl, rfl⟩⟩

theorem rz_longer {h : List ik_E} {a e : Int} (e0 : 0 ≤ e) (e1 : e ≤ 255) : ik_F 140 [fJ a, fI e] h (fun rv h' => rv = [fJ (27 * a + e - 96)] ∧ h' = h) := by
  refine fw_l2 27 rfl rfl (by decide) ?_
  refine ik_Wk 1 (pc' := 4) (loc' := [some (fJ a), none, some (fI e)]) (st' := [fJ a, fJ 27]) (h' := h) (cl' := 0) (sl' := 0) rfl ?_
  refine fw_lmul rfl ?_
  refine ik_Wk 1 (pc' := 6) (loc' := [some (fJ a), none, some (fI e)]) (st' := [fI e, fJ (27 * a)]) (h' := h) (cl' := 0) (sl' := 0) rfl ?_
  refine fw_i2l rfl (by omega) (by omega) ?_
  refine fw_ladd rfl ?_
  refine fw_l2 96 rfl rfl (by decide) ?_
  refine fw_lsub rfl ?_
  exact ik_Wret rfl rfl ⟨_, _, rfl, rfl, rfl, rfl, ⟨rfl, rfl⟩⟩

theorem rz_fails {pre tl : List ik_E} {w : Nat → Value} {wt : List Value} {c : Nat → ik_E} {y : Int → Int} {T : List Int} {n fp sd we nu na rp : Int} {M R O A : List Int} (ok : rz_ok y T n pre tl) {a0 f a : Int} : ik_F 137 [.ref 66, fI f, fI a] (pre ++ rz_t w wt c tl T n fp a0 sd we nu na rp M R O A) (fun rv h' => rv = [fI f] ∧ h' = (pre ++ rz_t w wt c tl T n a a0 sd we nu na rp M R O A)) := by
  have ok' := ok
  obtain ⟨hpre, htl, hT, bT, hn, hn2, hy⟩ := ok'
  refine ik_Wk 2 (pc' := 2) (loc' := [some (.ref 66), some (fI f), some (fI a)]) (st' := [fI a, .ref 66]) (h' := (pre ++ rz_t w wt c tl T n fp a0 sd we nu na rp M R O A)) (cl' := 0) (sl' := 0) rfl ?_
  refine fw_pf (h' := (pre ++ rz_t w wt c tl T n a a0 sd we nu na rp M R O A)) rfl rfl (rz_g 0 hpre rfl) (Nat.le_of_ble_eq_true rfl) rfl rfl (rz_s 0 hpre rfl) ?_
  refine ik_Wk 1 (pc' := 6) (loc' := [some (.ref 66), some (fI f), some (fI a)]) (st' := [fI f]) (h' := (pre ++ rz_t w wt c tl T n a a0 sd we nu na rp M R O A)) (cl' := 0) (sl' := 0) rfl ?_
  exact ik_Wret rfl rfl ⟨_, _, rfl, rfl, rfl, rfl, ⟨rfl, rfl⟩⟩

theorem rz_here0 {pre tl : List ik_E} {w : Nat → Value} {wt : List Value} {c : Nat → ik_E} {y : Int → Int} {T : List Int} {n fp sd we nu na rp : Int} {M R O A : List Int} (ok : rz_ok y T n pre tl) : ∀ (k : Nat) (a0 : Int), (n - a0).toNat = k → 0 ≤ a0 → a0 ≤ n → ik_G 136 0 [some (.ref 66)] [] (pre ++ rz_t w wt c tl T n fp a0 sd we nu na rp M R O A) (fun rv h' => ((zS y n a0 < n ∧ rv = [fI (y (zS y n a0))]) ∨ (¬ zS y n a0 < n ∧ rv = [fI (-1)])) ∧ h' = (pre ++ rz_t w wt c tl T n fp (zS y n a0) sd we nu na rp M R O A)) := by
  have ok' := ok
  obtain ⟨hpre, htl, hT, bT, hn, hn2, hy⟩ := ok'
  intro k
  induction k using Nat.strongRecOn with
  | _ k ih =>
    intro a0 hk h0 h1
    refine ik_Wk 1 (pc' := 1) (loc' := [some (.ref 66)]) (st' := [.ref 66]) (h' := (pre ++ rz_t w wt c tl T n fp a0 sd we nu na rp M R O A)) (cl' := 0) (sl' := 0) rfl ?_
    refine fw_gf rfl rfl (rz_g 0 hpre rfl) rfl ?_
    refine ik_Wk 1 (pc' := 5) (loc' := [some (.ref 66)]) (st' := [.ref 66, fI a0]) (h' := (pre ++ rz_t w wt c tl T n fp a0 sd we nu na rp M R O A)) (cl' := 0) (sl' := 0) rfl ?_
    refine fw_gf rfl rfl (rz_g 0 hpre rfl) rfl ?_
    refine fw_ic_ge rfl rfl (by omega) (by omega) (by omega) (by omega) (fun hc1 => ?_) (fun hc1 => ?_)
    · refine ik_Wk 1 (pc' := 39) (loc' := [some (.ref 66)]) (st' := [.ref 66]) (h' := (pre ++ rz_t w wt c tl T n fp a0 sd we nu na rp M R O A)) (cl' := 0) (sl' := 0) rfl ?_
      refine fw_gf rfl rfl (rz_g 0 hpre rfl) rfl ?_
      refine ik_Wk 1 (pc' := 43) (loc' := [some (.ref 66)]) (st' := [.ref 66, fI a0]) (h' := (pre ++ rz_t w wt c tl T n fp a0 sd we nu na rp M R O A)) (cl' := 0) (sl' := 0) rfl ?_
      refine fw_gf rfl rfl (rz_g 0 hpre rfl) rfl ?_
      refine fw_ic_ge rfl rfl (by omega) (by omega) (by omega) (by omega) (fun hc2 => ?_) (fun hc2 => ?_)
      · refine ik_Wk 1 (pc' := 62) (loc' := [some (.ref 66)]) (st' := [fI (-1)]) (h' := (pre ++ rz_t w wt c tl T n fp a0 sd we nu na rp M R O A)) (cl' := 0) (sl' := 0) rfl ?_
        have hz : zS y n a0 = a0 := zS_stop (by omega)
        rw [hz]
        exact ik_Wret rfl rfl ⟨_, _, rfl, rfl, rfl, rfl, ⟨Or.inr ⟨by omega, rfl⟩, rfl⟩⟩
      · refine ik_Wk 1 (pc' := 50) (loc' := [some (.ref 66)]) (st' := [.ref 66]) (h' := (pre ++ rz_t w wt c tl T n fp a0 sd we nu na rp M R O A)) (cl' := 0) (sl' := 0) rfl ?_
        refine fw_gf rfl rfl (rz_g 0 hpre rfl) rfl ?_
        refine ik_Wk 1 (pc' := 54) (loc' := [some (.ref 66)]) (st' := [.ref 66, .ref 72]) (h' := (pre ++ rz_t w wt c tl T n fp a0 sd we nu na rp M R O A)) (cl' := 0) (sl' := 0) rfl ?_
        refine fw_gf rfl rfl (rz_g 0 hpre rfl) rfl ?_
        refine fw_ial rfl (rz_g 6 hpre rfl) (by omega) (by omega) (by omega) ?_
        have hb3 := bT a0 (by omega) (by omega)
        have hb4 := hy a0 (by omega) (by omega)
        refine ik_Wk 1 (pc' := 62) (loc' := [some (.ref 66)]) (st' := [fI (T.getD a0.toNat 0)]) (h' := (pre ++ rz_t w wt c tl T n fp a0 sd we nu na rp M R O A)) (cl' := 0) (sl' := 0) rfl ?_
        have hz : zS y n a0 = a0 := zS_stop (by omega)
        rw [hz]
        exact ik_Wret rfl rfl ⟨_, _, rfl, rfl, rfl, rfl, ⟨Or.inl ⟨by omega, by rw [hy a0 (by omega) (by omega)]⟩, rfl⟩⟩
    · refine ik_Wk 1 (pc' := 12) (loc' := [some (.ref 66)]) (st' := [.ref 66]) (h' := (pre ++ rz_t w wt c tl T n fp a0 sd we nu na rp M R O A)) (cl' := 0) (sl' := 0) rfl ?_
      refine fw_gf rfl rfl (rz_g 0 hpre rfl) rfl ?_
      refine ik_Wk 1 (pc' := 16) (loc' := [some (.ref 66)]) (st' := [.ref 66, .ref 72]) (h' := (pre ++ rz_t w wt c tl T n fp a0 sd we nu na rp M R O A)) (cl' := 0) (sl' := 0) rfl ?_
      refine fw_gf rfl rfl (rz_g 0 hpre rfl) rfl ?_
      refine fw_ial rfl (rz_g 6 hpre rfl) (by omega) (by omega) (by omega) ?_
      have hb5 := bT a0 (by omega) (by omega)
      have hb6 := hy a0 (by omega) (by omega)
      refine fw_bi rfl (by decide) ?_
      refine fw_ic_ne rfl rfl (by omega) (by omega) (by omega) (by omega) (fun hc7 => ?_) (fun hc7 => ?_)
      · refine ik_Wk 2 (pc' := 27) (loc' := [some (.ref 66)]) (st' := [.ref 66, .ref 66]) (h' := (pre ++ rz_t w wt c tl T n fp a0 sd we nu na rp M R O A)) (cl' := 0) (sl' := 0) rfl ?_
        refine fw_gf rfl rfl (rz_g 0 hpre rfl) rfl ?_
        refine ik_Wk 1 (pc' := 31) (loc' := [some (.ref 66)]) (st' := [fI 1, fI a0, .ref 66]) (h' := (pre ++ rz_t w wt c tl T n fp a0 sd we nu na rp M R O A)) (cl' := 0) (sl' := 0) rfl ?_
        refine fw_add rfl ?_
        refine fw_pf (h' := (pre ++ rz_t w wt c tl T n fp (a0 + 1) sd we nu na rp M R O A)) rfl rfl (rz_g 0 hpre rfl) (Nat.le_of_ble_eq_true rfl) rfl rfl (rz_s 0 hpre rfl) ?_
        refine ik_Wk 1 (pc' := 0) (loc' := [some (.ref 66)]) (st' := []) (h' := (pre ++ rz_t w wt c tl T n fp (a0 + 1) sd we nu na rp M R O A)) (cl' := 0) (sl' := 0) rfl ?_
        rw [zS_step (y := y) (n := n) (i := a0) (by omega) (by omega)]
        exact ih _ (by omega) (a0 + 1) rfl (by omega) (by omega)
      · refine ik_Wk 1 (pc' := 39) (loc' := [some (.ref 66)]) (st' := [.ref 66]) (h' := (pre ++ rz_t w wt c tl T n fp a0 sd we nu na rp M R O A)) (cl' := 0) (sl' := 0) rfl ?_
        refine fw_gf rfl rfl (rz_g 0 hpre rfl) rfl ?_
        refine ik_Wk 1 (pc' := 43) (loc' := [some (.ref 66)]) (st' := [.ref 66, fI a0]) (h' := (pre ++ rz_t w wt c tl T n fp a0 sd we nu na rp M R O A)) (cl' := 0) (sl' := 0) rfl ?_
        refine fw_gf rfl rfl (rz_g 0 hpre rfl) rfl ?_
        refine fw_ic_ge rfl rfl (by omega) (by omega) (by omega) (by omega) (fun hc8 => ?_) (fun hc8 => ?_)
        · refine ik_Wk 1 (pc' := 62) (loc' := [some (.ref 66)]) (st' := [fI (-1)]) (h' := (pre ++ rz_t w wt c tl T n fp a0 sd we nu na rp M R O A)) (cl' := 0) (sl' := 0) rfl ?_
          have hz : zS y n a0 = a0 := zS_stop (by omega)
          rw [hz]
          exact ik_Wret rfl rfl ⟨_, _, rfl, rfl, rfl, rfl, ⟨Or.inr ⟨by omega, rfl⟩, rfl⟩⟩
        · refine ik_Wk 1 (pc' := 50) (loc' := [some (.ref 66)]) (st' := [.ref 66]) (h' := (pre ++ rz_t w wt c tl T n fp a0 sd we nu na rp M R O A)) (cl' := 0) (sl' := 0) rfl ?_
          refine fw_gf rfl rfl (rz_g 0 hpre rfl) rfl ?_
          refine ik_Wk 1 (pc' := 54) (loc' := [some (.ref 66)]) (st' := [.ref 66, .ref 72]) (h' := (pre ++ rz_t w wt c tl T n fp a0 sd we nu na rp M R O A)) (cl' := 0) (sl' := 0) rfl ?_
          refine fw_gf rfl rfl (rz_g 0 hpre rfl) rfl ?_
          refine fw_ial rfl (rz_g 6 hpre rfl) (by omega) (by omega) (by omega) ?_
          have hb9 := bT a0 (by omega) (by omega)
          have hb10 := hy a0 (by omega) (by omega)
          refine ik_Wk 1 (pc' := 62) (loc' := [some (.ref 66)]) (st' := [fI (T.getD a0.toNat 0)]) (h' := (pre ++ rz_t w wt c tl T n fp a0 sd we nu na rp M R O A)) (cl' := 0) (sl' := 0) rfl ?_
          have hz : zS y n a0 = a0 := zS_stop (by omega)
          rw [hz]
          exact ik_Wret rfl rfl ⟨_, _, rfl, rfl, rfl, rfl, ⟨Or.inl ⟨by omega, by rw [hy a0 (by omega) (by omega)]⟩, rfl⟩⟩

theorem rz_here {pre tl : List ik_E} {w : Nat → Value} {wt : List Value} {c : Nat → ik_E} {y : Int → Int} {T : List Int} {n fp sd we nu na rp : Int} {M R O A : List Int} (ok : rz_ok y T n pre tl) {a0 : Int} (h0 : 0 ≤ a0) (h1 : a0 ≤ n) : ik_F 136 [.ref 66] (pre ++ rz_t w wt c tl T n fp a0 sd we nu na rp M R O A) (fun rv h' => ((zS y n a0 < n ∧ rv = [fI (y (zS y n a0))]) ∨ (¬ zS y n a0 < n ∧ rv = [fI (-1)])) ∧ h' = (pre ++ rz_t w wt c tl T n fp (zS y n a0) sd we nu na rp M R O A)) := rz_here0 ok _ a0 rfl h0 h1
