noncomputable section
/-! goals, goes of sets, logs judged (written by wip/fx/u16.py) -/
theorem cs_goalsL {h : List ik_E} {p : Int} {pl : Int} {lo : Int} {s : Nat} {wg : List Int} {wc : List Int} {we : List Int} {L : List (Int × Int)} (q0 : 0 ≤ p ∧ p < 12) (q1 : mx_wy wg wc we p L) (q2 : mx_ok pl L) (q3 : pl ≤ 12)  : ∀ (k : Nat) (j : Nat) (al : Nat) (kk : Int) (u : List ik_E) (u7 : cE u 7 (.inr (0, [fI pl, fI ((s : Nat) : Int), fI lo, .ref 8, .ref 9, .ref 10, .ref 11, .ref 12, .ref 13]))) (u11 : cE u 11 (.inl (.int, fA wg))) (n11 : wg.length = 60) (u12 : cE u 12 (.inl (.int, fA wc))) (n12 : wc.length = 60) (u13 : cE u 13 (.inl (.int, fA we))) (n13 : we.length = 12) (ul : u.length = 94) (F : hfr [] h u) (hj : j ≤ L.length) (hkk : kk = 5 * p + (j : Int)) (ha : al = mj_gj L j) (hk : (L.length : Int) - (j : Int) < (k : Int)), ik_G 10 6 [some (.ref 7), some (fI p), some (fI ((al : Nat) : Int)), some (fI kk)] [] u (fun rv h' => rv = [fI ((mj_gs L : Nat) : Int)] ∧ hfr [] h h') := by
  intro k
  induction k with
  | zero => intro j al kk u u7 u11 n11 u12 n12 u13 n13 ul F hj hkk ha hk; omega
  | succ k ih =>
    intro j al kk u u7 u11 n11 u12 n12 u13 n13 ul F hj hkk ha hk
    obtain ⟨w1, w2⟩ := q1
    obtain ⟨o1, o2, o3⟩ := q2
    refine ik_Wk 2 (pc' := 8) (loc' := [some (.ref 7), some (fI p), some (fI ((al : Nat) : Int)), some (fI kk)]) (st' := [.ref 7, fI kk]) (h' := u) (cl' := 0) (sl' := 0) rfl ?_
    refine fw_gf rfl rfl u7 rfl ?_
    refine ik_Wk 1 (pc' := 12) (loc' := [some (.ref 7), some (fI p), some (fI ((al : Nat) : Int)), some (fI kk)]) (st' := [fI p, .ref 13, fI kk]) (h' := u) (cl' := 0) (sl' := 0) rfl ?_
    refine fw_ial rfl u13 (by omega) (by omega) (by omega) ?_
    refine fw_ic_ge rfl rfl (by omega) (by omega) (by omega) (by omega) (fun hc1 => ?_) (fun hc1 => ?_)
    · refine ik_Wk 1 (pc' := 34) (loc' := [some (.ref 7), some (fI p), some (fI ((al : Nat) : Int)), some (fI kk)]) (st' := [fI ((al : Nat) : Int)]) (h' := u) (cl' := 0) (sl' := 0) rfl ?_
      have ejl : j = L.length := by omega
      rw [ejl] at ha
      exact ik_Wret rfl rfl ⟨_, _, rfl, rfl, rfl, rfl, ⟨(congrArg (fun z => [fI ((z : Nat) : Int)]) ha), F⟩⟩
    · refine ik_Wk 3 (pc' := 19) (loc' := [some (.ref 7), some (fI p), some (fI ((al : Nat) : Int)), some (fI kk)]) (st' := [.ref 7, fI 1, fI ((al : Nat) : Int)]) (h' := u) (cl' := 0) (sl' := 0) rfl ?_
      refine fw_gf rfl rfl u7 rfl ?_
      refine ik_Wk 1 (pc' := 23) (loc' := [some (.ref 7), some (fI p), some (fI ((al : Nat) : Int)), some (fI kk)]) (st' := [fI kk, .ref 11, fI 1, fI ((al : Nat) : Int)]) (h' := u) (cl' := 0) (sl' := 0) rfl ?_
      refine fw_ial rfl u11 (by omega) (by omega) (by omega) ?_
      have ej : kk.toNat = 5 * p.toNat + j := by omega
      have hw := w2 j (by omega)
      rw [← ej] at hw
      have hq := o3 j (by omega)
      refine fx_shl rfl (by omega) (by omega) ?_
      refine fx_or (m := al) (n := 1 <<< (wg.getD kk.toNat 0).toNat) rfl ?_
      refine ik_Wk 1 (pc' := 27) (loc' := [some (.ref 7), some (fI p), some (fI ((al ||| (1 <<< (wg.getD kk.toNat 0).toNat) : Nat) : Int)), some (fI kk)]) (st' := []) (h' := u) (cl' := 0) (sl' := 0) rfl ?_
      refine fw_inc (a := kk) (loc' := [some (.ref 7), some (fI p), some (fI ((al ||| (1 <<< (wg.getD kk.toNat 0).toNat) : Nat) : Int)), some (fI (kk + 1))]) rfl rfl (Nat.le_of_ble_eq_true rfl) rfl ?_
      refine ik_Wk 1 (pc' := 6) (loc' := [some (.ref 7), some (fI p), some (fI ((al ||| (1 <<< (wg.getD kk.toNat 0).toNat) : Nat) : Int)), some (fI (kk + 1))]) (st' := []) (h' := u) (cl' := 0) (sl' := 0) rfl ?_
      exact ih  (j + 1) (al ||| (1 <<< (wg.getD kk.toNat 0).toNat)) (kk + 1) u u7 u11 n11 u12 n12 u13 n13 ul F (by omega) (by omega) (by rw [ha, hw.1]; rfl) (by omega)

theorem cs_goals {h : List ik_E} {p : Int} {pl : Int} {lo : Int} {s : Nat} {wg : List Int} {wc : List Int} {we : List Int} {L : List (Int × Int)} (q0 : 0 ≤ p ∧ p < 12) (q1 : mx_wy wg wc we p L) (q2 : mx_ok pl L) (q3 : pl ≤ 12) (h7 : cE h 7 (.inr (0, [fI pl, fI ((s : Nat) : Int), fI lo, .ref 8, .ref 9, .ref 10, .ref 11, .ref 12, .ref 13]))) (h11 : cE h 11 (.inl (.int, fA wg))) (n11 : wg.length = 60) (h12 : cE h 12 (.inl (.int, fA wc))) (n12 : wc.length = 60) (h13 : cE h 13 (.inl (.int, fA we))) (n13 : we.length = 12) (hl : h.length = 94) : ik_F 10 [.ref 7, fI p] h (fun rv h' => rv = [fI ((mj_gs L : Nat) : Int)] ∧ hfr [] h h') := by
  refine ik_Wk 4 (pc' := 4) (loc' := [some (.ref 7), some (fI p), some (fI 0), none]) (st' := [fI 5, fI p]) (h' := h) (cl' := 0) (sl' := 0) rfl ?_
  refine fx_mulc rfl ?_
  refine ik_Wk 1 (pc' := 6) (loc' := [some (.ref 7), some (fI p), some (fI 0), some (fI (5 * p))]) (st' := []) (h' := h) (cl' := 0) (sl' := 0) rfl ?_
  exact cs_goalsL (p := p) (pl := pl) (lo := lo) (s := s) (wg := wg) (wc := wc) (we := we) (L := L) q0 q1 q2 q3  (L.length + 1) 0 0 (5 * p) h h7 h11 n11 h12 n12 h13 n13 hl (hfr_refl [] h) (by omega) (by omega) rfl (by omega)

theorem cs_goOnceL {h : List ik_E} {pl : Int} {lo : Int} {s : Nat} {B : Nat} {wg : List Int} {wc : List Int} {we : List Int} {W : Int → List (Int × Int)} (q0 : 1 ≤ pl ∧ pl ≤ 12) (q1 : ∀ x : Int, 0 ≤ x → x < pl - 1 → mx_wy wg wc we x (W x)) (q2 : ∀ x : Int, 0 ≤ x → x < pl - 1 → mx_ok pl (W x)) (q3 : B < 4096)  : ∀ (k : Nat) (p : Int) (rd : Nat) (u : List ik_E) (u7 : cE u 7 (.inr (0, [fI pl, fI ((s : Nat) : Int), fI lo, .ref 8, .ref 9, .ref 10, .ref 11, .ref 12, .ref 13]))) (u11 : cE u 11 (.inl (.int, fA wg))) (n11 : wg.length = 60) (u12 : cE u 12 (.inl (.int, fA wc))) (n12 : wc.length = 60) (u13 : cE u 13 (.inl (.int, fA we))) (n13 : we.length = 12) (ul : u.length = 94) (F : hfr [] h u) (hp : 0 ≤ p ∧ p ≤ pl - 1) (hr : rd = (B &&& 1 <<< (pl - 1).toNat) ||| mj_of W B p.toNat) (hk : pl - 1 - p < (k : Int)), ik_G 20 11 [some (.ref 7), some (fI ((B : Nat) : Int)), some (fI ((rd : Nat) : Int)), some (fI p)] [] u (fun rv h' => rv = [fI ((mj_on W (pl - 1) B : Nat) : Int)] ∧ hfr [] h h') := by
  intro k
  induction k with
  | zero => intro p rd u u7 u11 n11 u12 n12 u13 n13 ul F hp hr hk; omega
  | succ k ih =>
    intro p rd u u7 u11 n11 u12 n12 u13 n13 ul F hp hr hk
    refine ik_Wk 2 (pc' := 13) (loc' := [some (.ref 7), some (fI ((B : Nat) : Int)), some (fI ((rd : Nat) : Int)), some (fI p)]) (st' := [.ref 7, fI p]) (h' := u) (cl' := 0) (sl' := 0) rfl ?_
    refine ik_Wc 2 1 0 [.ref 7] [fI p] rfl rfl rfl (by decide) rfl rfl (fw_rec ul rfl u7 rfl (by decide)) ?_
    refine ik_Wk 0 (pc' := 0) (loc' := [some (.ref 7)]) (st' := []) (h' := u) (cl' := 0) (sl' := 0) rfl ?_
    refine ik_Wk 1 (pc' := 1) (loc' := [some (.ref 7)]) (st' := [.ref 7]) (h' := u) (cl' := 0) (sl' := 0) rfl ?_
    refine fw_gf rfl rfl u7 rfl ?_
    refine ik_Wk 1 (pc' := 5) (loc' := [some (.ref 7)]) (st' := [fI 1, fI pl]) (h' := u) (cl' := 0) (sl' := 0) rfl ?_
    refine fw_sub rfl ?_
    refine ik_Wret rfl rfl ⟨_, _, rfl, rfl, ?_⟩
    refine ik_Wk 0 (pc' := 16) (loc' := [some (.ref 7), some (fI ((B : Nat) : Int)), some (fI ((rd : Nat) : Int)), some (fI p)]) (st' := [fI (pl - 1), fI p]) (h' := u) (cl' := 0) (sl' := 0) rfl ?_
    refine fw_ic_ge rfl rfl (by omega) (by omega) (by omega) (by omega) (fun hc1 => ?_) (fun hc1 => ?_)
    · refine ik_Wk 1 (pc' := 42) (loc' := [some (.ref 7), some (fI ((B : Nat) : Int)), some (fI ((rd : Nat) : Int)), some (fI p)]) (st' := [fI ((rd : Nat) : Int)]) (h' := u) (cl' := 0) (sl' := 0) rfl ?_
      have ep : p = pl - 1 := by omega
      rw [ep] at hr
      exact ik_Wret rfl rfl ⟨_, _, rfl, rfl, rfl, rfl, ⟨(congrArg (fun z => [fI ((z : Nat) : Int)]) (by rw [hr, Nat.or_comm]; rfl)), F⟩⟩
    · refine ik_Wk 2 (pc' := 21) (loc' := [some (.ref 7), some (fI ((B : Nat) : Int)), some (fI ((rd : Nat) : Int)), some (fI p)]) (st' := [fI p, fI ((B : Nat) : Int)]) (h' := u) (cl' := 0) (sl' := 0) rfl ?_
      refine fx_shr (n := B) rfl (by omega) (by omega) (by omega) ?_
      refine ik_Wk 1 (pc' := 23) (loc' := [some (.ref 7), some (fI ((B : Nat) : Int)), some (fI ((rd : Nat) : Int)), some (fI p)]) (st' := [fI 1, fI ((B >>> p.toNat : Nat) : Int)]) (h' := u) (cl' := 0) (sl' := 0) rfl ?_
      refine fx_bit (n := B) (k := p.toNat) rfl (fun hb2 => ?_) (fun hb2 => ?_)
      · refine ik_Wk 0 (pc' := 24) (loc' := [some (.ref 7), some (fI ((B : Nat) : Int)), some (fI ((rd : Nat) : Int)), some (fI p)]) (st' := [fI 1]) (h' := u) (cl' := 0) (sl' := 0) rfl ?_
        refine fw_if_eq rfl rfl (by omega) (by omega) (fun hc3 => absurd hc3 (by omega)) (fun hc3 => ?_)
        refine ik_Wk 3 (pc' := 30) (loc' := [some (.ref 7), some (fI ((B : Nat) : Int)), some (fI ((rd : Nat) : Int)), some (fI p)]) (st' := [fI p, .ref 7, fI ((rd : Nat) : Int)]) (h' := u) (cl' := 0) (sl' := 0) rfl ?_
        refine fw_call 10 2 0 [.ref 7, fI p] [fI ((rd : Nat) : Int)] rfl rfl rfl (by decide) rfl rfl (fw_rec ul rfl u7 rfl (by decide)) (cs_goals (p := p) (pl := pl) (lo := lo) (s := s) (wg := wg) (wc := wc) (we := we) (L := (W p)) (by omega) (q1 p (by omega) (by omega)) (q2 p (by omega) (by omega)) (by omega) u7 u11 n11 u12 n12 u13 n13 ul) ?_
        rintro _ h_330 ⟨rfl, F_330⟩
        have k_330 := F_330.1.trans ul
        have fr_330 := hfr_c F F_330 (by decide)
        have g_330_7 := (F_330.2 7 (by decide +kernel)).trans u7
        have g_330_11 := (F_330.2 11 (by decide +kernel)).trans u11
        have g_330_12 := (F_330.2 12 (by decide +kernel)).trans u12
        have g_330_13 := (F_330.2 13 (by decide +kernel)).trans u13
        refine ik_Wk 0 (pc' := 33) (loc' := [some (.ref 7), some (fI ((B : Nat) : Int)), some (fI ((rd : Nat) : Int)), some (fI p)]) (st' := [fI ((mj_gs (W p) : Nat) : Int), fI ((rd : Nat) : Int)]) (h' := h_330) (cl' := 0) (sl' := 0) rfl ?_
        refine fx_or (m := rd) (n := mj_gs (W p)) rfl ?_
        refine ik_Wk 1 (pc' := 35) (loc' := [some (.ref 7), some (fI ((B : Nat) : Int)), some (fI ((rd ||| (mj_gs (W p)) : Nat) : Int)), some (fI p)]) (st' := []) (h' := h_330) (cl' := 0) (sl' := 0) rfl ?_
        refine fw_inc (a := p) (loc' := [some (.ref 7), some (fI ((B : Nat) : Int)), some (fI ((rd ||| (mj_gs (W p)) : Nat) : Int)), some (fI (p + 1))]) rfl rfl (Nat.le_of_ble_eq_true rfl) rfl ?_
        refine ik_Wk 1 (pc' := 11) (loc' := [some (.ref 7), some (fI ((B : Nat) : Int)), some (fI ((rd ||| (mj_gs (W p)) : Nat) : Int)), some (fI (p + 1))]) (st' := []) (h' := h_330) (cl' := 0) (sl' := 0) rfl ?_
        exact ih  (p + 1) (rd ||| (mj_gs (W p))) h_330 g_330_7 g_330_11 n11 g_330_12 n12 g_330_13 n13 k_330 fr_330 (by omega) (by rw [mj_of_s (by omega), if_pos hb2, hr, Nat.or_assoc]) (by omega)
      · refine ik_Wk 0 (pc' := 24) (loc' := [some (.ref 7), some (fI ((B : Nat) : Int)), some (fI ((rd : Nat) : Int)), some (fI p)]) (st' := [fI 0]) (h' := u) (cl' := 0) (sl' := 0) rfl ?_
        refine fw_if_eq rfl rfl (by omega) (by omega) (fun hc4 => ?_) (fun hc4 => absurd hc4 (by omega))
        refine fw_inc (a := p) (loc' := [some (.ref 7), some (fI ((B : Nat) : Int)), some (fI ((rd : Nat) : Int)), some (fI (p + 1))]) rfl rfl (Nat.le_of_ble_eq_true rfl) rfl ?_
        refine ik_Wk 1 (pc' := 11) (loc' := [some (.ref 7), some (fI ((B : Nat) : Int)), some (fI ((rd : Nat) : Int)), some (fI (p + 1))]) (st' := []) (h' := u) (cl' := 0) (sl' := 0) rfl ?_
        exact ih  (p + 1) rd u u7 u11 n11 u12 n12 u13 n13 ul F (by omega) (by rw [mj_of_s (by omega), if_neg (by rw [hb2]; decide)]; exact hr) (by omega)

theorem cs_goOnce {h : List ik_E} {pl : Int} {lo : Int} {s : Nat} {B : Nat} {wg : List Int} {wc : List Int} {we : List Int} {W : Int → List (Int × Int)} (q0 : 1 ≤ pl ∧ pl ≤ 12) (q1 : ∀ x : Int, 0 ≤ x → x < pl - 1 → mx_wy wg wc we x (W x)) (q2 : ∀ x : Int, 0 ≤ x → x < pl - 1 → mx_ok pl (W x)) (q3 : B < 4096) (h7 : cE h 7 (.inr (0, [fI pl, fI ((s : Nat) : Int), fI lo, .ref 8, .ref 9, .ref 10, .ref 11, .ref 12, .ref 13]))) (h11 : cE h 11 (.inl (.int, fA wg))) (n11 : wg.length = 60) (h12 : cE h 12 (.inl (.int, fA wc))) (n12 : wc.length = 60) (h13 : cE h 13 (.inl (.int, fA we))) (n13 : we.length = 12) (hl : h.length = 94) : ik_F 20 [.ref 7, fI ((B : Nat) : Int)] h (fun rv h' => rv = [fI ((mj_on W (pl - 1) B : Nat) : Int)] ∧ hfr [] h h') := by
  refine ik_Wk 3 (pc' := 3) (loc' := [some (.ref 7), some (fI ((B : Nat) : Int)), none, none]) (st' := [.ref 7, fI 1, fI ((B : Nat) : Int)]) (h' := h) (cl' := 0) (sl' := 0) rfl ?_
  refine ik_Wc 2 1 0 [.ref 7] [fI 1, fI ((B : Nat) : Int)] rfl rfl rfl (by decide) rfl rfl (fw_rec hl rfl h7 rfl (by decide)) ?_
  refine ik_Wk 0 (pc' := 0) (loc' := [some (.ref 7)]) (st' := []) (h' := h) (cl' := 0) (sl' := 0) rfl ?_
  refine ik_Wk 1 (pc' := 1) (loc' := [some (.ref 7)]) (st' := [.ref 7]) (h' := h) (cl' := 0) (sl' := 0) rfl ?_
  refine fw_gf rfl rfl h7 rfl ?_
  refine ik_Wk 1 (pc' := 5) (loc' := [some (.ref 7)]) (st' := [fI 1, fI pl]) (h' := h) (cl' := 0) (sl' := 0) rfl ?_
  refine fw_sub rfl ?_
  refine ik_Wret rfl rfl ⟨_, _, rfl, rfl, ?_⟩
  refine ik_Wk 0 (pc' := 6) (loc' := [some (.ref 7), some (fI ((B : Nat) : Int)), none, none]) (st' := [fI (pl - 1), fI 1, fI ((B : Nat) : Int)]) (h' := h) (cl' := 0) (sl' := 0) rfl ?_
  refine fx_shl rfl (by omega) (by omega) ?_
  refine fx_and (m := B) (n := 1 <<< (pl - 1).toNat) rfl ?_
  refine ik_Wk 3 (pc' := 11) (loc' := [some (.ref 7), some (fI ((B : Nat) : Int)), some (fI ((B &&& (1 <<< (pl - 1).toNat) : Nat) : Int)), some (fI 0)]) (st' := []) (h' := h) (cl' := 0) (sl' := 0) rfl ?_
  exact cs_goOnceL (pl := pl) (lo := lo) (s := s) (B := B) (wg := wg) (wc := wc) (we := we) (W := W) q0 q1 q2 q3  (pl.toNat + 1) 0 (B &&& (1 <<< (pl - 1).toNat)) h h7 h11 n11 h12 n12 h13 n13 hl (hfr_refl [] h) (by omega) (Nat.or_zero _).symm (by omega)

theorem cs_leadsL {h : List ik_E} {p : Int} {q : Int} {n : Int} {pl : Int} {lo : Int} {s : Nat} {wg : List Int} {wc : List Int} {we : List Int} {W : Int → List (Int × Int)} (q0 : 0 ≤ pl ∧ pl ≤ 12) (q1 : ∀ x : Int, 0 ≤ x → x < pl - 1 → mx_wy wg wc we x (W x)) (q2 : ∀ x : Int, 0 ≤ x → x < pl - 1 → mx_ok pl (W x)) (q3 : 0 ≤ n ∧ n ≤ 2) (q4 : -2147483648 ≤ p ∧ p < 2147483648) (q5 : -2147483648 ≤ q ∧ q < 2147483648) (hp : 0 ≤ p ∧ p < pl) (hq : 0 ≤ q ∧ q < pl) : ∀ (k : Nat) (i : Int) (B : Nat) (u : List ik_E) (u7 : cE u 7 (.inr (0, [fI pl, fI ((s : Nat) : Int), fI lo, .ref 8, .ref 9, .ref 10, .ref 11, .ref 12, .ref 13]))) (u11 : cE u 11 (.inl (.int, fA wg))) (n11 : wg.length = 60) (u12 : cE u 12 (.inl (.int, fA wc))) (n12 : wc.length = 60) (u13 : cE u 13 (.inl (.int, fA we))) (n13 : we.length = 12) (ul : u.length = 94) (F : hfr [] h u) (hi : 0 ≤ i ∧ i ≤ n) (hB : B < 2 ^ pl.toNat) (he : mj_oi W (pl - 1) n.toNat (1 <<< p.toNat) = mj_oi W (pl - 1) (n - i).toNat B) (hk : n - i < (k : Int)), ik_G 19 26 [some (.ref 7), some (fI p), some (fI q), some (fI n), some (fI ((B : Nat) : Int)), some (fI i)] [] u (fun rv h' => (rv = [fI 1] ∧ (mj_ld W pl p q n.toNat = true) ∧ hfr [] h h') ∨ (rv = [fI 0] ∧ (mj_ld W pl p q n.toNat = false) ∧ hfr [] h h')) := by
  intro k
  induction k with
  | zero => intro i B u u7 u11 n11 u12 n12 u13 n13 ul F hi hB he hk; omega
  | succ k ih =>
    intro i B u u7 u11 n11 u12 n12 u13 n13 ul F hi hB he hk
    have hB4 := mj_12 hB (by omega)
    refine ik_Wk 2 (pc' := 29) (loc' := [some (.ref 7), some (fI p), some (fI q), some (fI n), some (fI ((B : Nat) : Int)), some (fI i)]) (st' := [fI n, fI i]) (h' := u) (cl' := 0) (sl' := 0) rfl ?_
    refine fw_ic_ge rfl rfl (by omega) (by omega) (by omega) (by omega) (fun hc1 => ?_) (fun hc1 => ?_)
    · refine ik_Wk 2 (pc' := 49) (loc' := [some (.ref 7), some (fI p), some (fI q), some (fI n), some (fI ((B : Nat) : Int)), some (fI i)]) (st' := [fI q, fI ((B : Nat) : Int)]) (h' := u) (cl' := 0) (sl' := 0) rfl ?_
      refine fx_shr (n := B) rfl (by omega) (by omega) (by omega) ?_
      refine ik_Wk 1 (pc' := 51) (loc' := [some (.ref 7), some (fI p), some (fI q), some (fI n), some (fI ((B : Nat) : Int)), some (fI i)]) (st' := [fI 1, fI ((B >>> q.toNat : Nat) : Int)]) (h' := u) (cl' := 0) (sl' := 0) rfl ?_
      refine fx_bit (n := B) (k := q.toNat) rfl (fun hb2 => ?_) (fun hb2 => ?_)
      · refine ik_Wk 0 (pc' := 52) (loc' := [some (.ref 7), some (fI p), some (fI q), some (fI n), some (fI ((B : Nat) : Int)), some (fI i)]) (st' := [fI 1]) (h' := u) (cl' := 0) (sl' := 0) rfl ?_
        refine fw_if_eq rfl rfl (by omega) (by omega) (fun hc3 => absurd hc3 (by omega)) (fun hc3 => ?_)
        refine ik_Wk 2 (pc' := 60) (loc' := [some (.ref 7), some (fI p), some (fI q), some (fI n), some (fI ((B : Nat) : Int)), some (fI i)]) (st' := [fI 1]) (h' := u) (cl' := 0) (sl' := 0) rfl ?_
        rw [show (n - i).toNat = 0 by omega] at he
        exact ik_Wret rfl rfl ⟨_, _, rfl, rfl, rfl, rfl, Or.inl ⟨rfl, (decide_eq_true ⟨hp, hq, by rw [he]; exact hb2⟩), F⟩⟩
      · refine ik_Wk 0 (pc' := 52) (loc' := [some (.ref 7), some (fI p), some (fI q), some (fI n), some (fI ((B : Nat) : Int)), some (fI i)]) (st' := [fI 0]) (h' := u) (cl' := 0) (sl' := 0) rfl ?_
        refine fw_if_eq rfl rfl (by omega) (by omega) (fun hc4 => ?_) (fun hc4 => absurd hc4 (by omega))
        refine ik_Wk 1 (pc' := 60) (loc' := [some (.ref 7), some (fI p), some (fI q), some (fI n), some (fI ((B : Nat) : Int)), some (fI i)]) (st' := [fI 0]) (h' := u) (cl' := 0) (sl' := 0) rfl ?_
        rw [show (n - i).toNat = 0 by omega] at he
        exact ik_Wret rfl rfl ⟨_, _, rfl, rfl, rfl, rfl, Or.inr ⟨rfl, (decide_eq_false (fun w => by have z := w.2.2; rw [he] at z; exact absurd (z.symm.trans hb2) (by decide))), F⟩⟩
    · refine ik_Wk 2 (pc' := 35) (loc' := [some (.ref 7), some (fI p), some (fI q), some (fI n), some (fI ((B : Nat) : Int)), some (fI i)]) (st' := [fI ((B : Nat) : Int), .ref 7]) (h' := u) (cl' := 0) (sl' := 0) rfl ?_
      refine fw_call 20 2 0 [.ref 7, fI ((B : Nat) : Int)] [] rfl rfl rfl (by decide) rfl rfl (fw_rec ul rfl u7 rfl (by decide)) (cs_goOnce (pl := pl) (lo := lo) (s := s) (B := B) (wg := wg) (wc := wc) (we := we) (by omega) q1 q2 (mj_12 hB (by omega)) u7 u11 n11 u12 n12 u13 n13 ul) ?_
      rintro _ h_331 ⟨rfl, F_331⟩
      have k_331 := F_331.1.trans ul
      have fr_331 := hfr_c F F_331 (by decide)
      have g_331_7 := (F_331.2 7 (by decide +kernel)).trans u7
      have g_331_11 := (F_331.2 11 (by decide +kernel)).trans u11
      have g_331_12 := (F_331.2 12 (by decide +kernel)).trans u12
      have g_331_13 := (F_331.2 13 (by decide +kernel)).trans u13
      refine ik_Wk 0 (pc' := 38) (loc' := [some (.ref 7), some (fI p), some (fI q), some (fI n), some (fI ((B : Nat) : Int)), some (fI i)]) (st' := [fI ((mj_on W (pl - 1) B : Nat) : Int)]) (h' := h_331) (cl' := 0) (sl' := 0) rfl ?_
      refine ik_Wk 1 (pc' := 40) (loc' := [some (.ref 7), some (fI p), some (fI q), some (fI n), some (fI ((mj_on W (pl - 1) B : Nat) : Int)), some (fI i)]) (st' := []) (h' := h_331) (cl' := 0) (sl' := 0) rfl ?_
      refine fw_inc (a := i) (loc' := [some (.ref 7), some (fI p), some (fI q), some (fI n), some (fI ((mj_on W (pl - 1) B : Nat) : Int)), some (fI (i + 1))]) rfl rfl (Nat.le_of_ble_eq_true rfl) rfl ?_
      refine ik_Wk 1 (pc' := 26) (loc' := [some (.ref 7), some (fI p), some (fI q), some (fI n), some (fI ((mj_on W (pl - 1) B : Nat) : Int)), some (fI (i + 1))]) (st' := []) (h' := h_331) (cl' := 0) (sl' := 0) rfl ?_
      exact ih  (i + 1) (mj_on W (pl - 1) B) h_331 g_331_7 g_331_11 n11 g_331_12 n12 g_331_13 n13 k_331 fr_331 (by omega) (mj_on_lt q2 (by omega) B) (by rw [he, show (n - i).toNat = (n - (i + 1)).toNat + 1 by omega]; rfl) (by omega)

theorem cs_leads {h : List ik_E} {p : Int} {q : Int} {n : Int} {pl : Int} {lo : Int} {s : Nat} {wg : List Int} {wc : List Int} {we : List Int} {W : Int → List (Int × Int)} (q0 : 0 ≤ pl ∧ pl ≤ 12) (q1 : ∀ x : Int, 0 ≤ x → x < pl - 1 → mx_wy wg wc we x (W x)) (q2 : ∀ x : Int, 0 ≤ x → x < pl - 1 → mx_ok pl (W x)) (q3 : 0 ≤ n ∧ n ≤ 2) (q4 : -2147483648 ≤ p ∧ p < 2147483648) (q5 : -2147483648 ≤ q ∧ q < 2147483648) (h7 : cE h 7 (.inr (0, [fI pl, fI ((s : Nat) : Int), fI lo, .ref 8, .ref 9, .ref 10, .ref 11, .ref 12, .ref 13]))) (h11 : cE h 11 (.inl (.int, fA wg))) (n11 : wg.length = 60) (h12 : cE h 12 (.inl (.int, fA wc))) (n12 : wc.length = 60) (h13 : cE h 13 (.inl (.int, fA we))) (n13 : we.length = 12) (hl : h.length = 94) : ik_F 19 [.ref 7, fI p, fI q, fI n] h (fun rv h' => (rv = [fI 1] ∧ (mj_ld W pl p q n.toNat = true) ∧ hfr [] h h') ∨ (rv = [fI 0] ∧ (mj_ld W pl p q n.toNat = false) ∧ hfr [] h h')) := by
  refine ik_Wk 2 (pc' := 2) (loc' := [some (.ref 7), some (fI p), some (fI q), some (fI n), none, none]) (st' := [fI p, .ref 7]) (h' := h) (cl' := 0) (sl' := 0) rfl ?_
  refine ik_Wc 3 2 0 [.ref 7, fI p] [] rfl rfl rfl (by decide) rfl rfl (fw_rec hl rfl h7 rfl (by decide)) ?_
  refine ik_Wk 0 (pc' := 0) (loc' := [some (.ref 7), some (fI p)]) (st' := []) (h' := h) (cl' := 0) (sl' := 0) rfl ?_
  refine ik_Wk 1 (pc' := 1) (loc' := [some (.ref 7), some (fI p)]) (st' := [fI p]) (h' := h) (cl' := 0) (sl' := 0) rfl ?_
  refine fw_if_lt rfl rfl (by omega) (by omega) (fun hc1 => ?_) (fun hc1 => ?_)
  · refine ik_Wk 1 (pc' := 17) (loc' := [some (.ref 7), some (fI p)]) (st' := [fI 0]) (h' := h) (cl' := 0) (sl' := 0) rfl ?_
    refine ik_Wret rfl rfl ⟨_, _, rfl, rfl, ?_⟩
    refine ik_Wk 0 (pc' := 5) (loc' := [some (.ref 7), some (fI p), some (fI q), some (fI n), none, none]) (st' := [fI 0]) (h' := h) (cl' := 0) (sl' := 0) rfl ?_
    refine fw_if_eq rfl rfl (by omega) (by omega) (fun hc2 => ?_) (fun hc2 => absurd hc2 (by omega))
    refine ik_Wk 1 (pc' := 17) (loc' := [some (.ref 7), some (fI p), some (fI q), some (fI n), none, none]) (st' := [fI 0]) (h' := h) (cl' := 0) (sl' := 0) rfl ?_
    exact ik_Wret rfl rfl ⟨_, _, rfl, rfl, rfl, rfl, Or.inr ⟨rfl, (decide_eq_false (fun w => by omega)), (hfr_refl [] h)⟩⟩
  · refine ik_Wk 2 (pc' := 6) (loc' := [some (.ref 7), some (fI p)]) (st' := [.ref 7, fI p]) (h' := h) (cl' := 0) (sl' := 0) rfl ?_
    refine fw_gf rfl rfl h7 rfl ?_
    refine fw_ic_ge rfl rfl (by omega) (by omega) (by omega) (by omega) (fun hc3 => ?_) (fun hc3 => ?_)
    · refine ik_Wk 1 (pc' := 17) (loc' := [some (.ref 7), some (fI p)]) (st' := [fI 0]) (h' := h) (cl' := 0) (sl' := 0) rfl ?_
      refine ik_Wret rfl rfl ⟨_, _, rfl, rfl, ?_⟩
      refine ik_Wk 0 (pc' := 5) (loc' := [some (.ref 7), some (fI p), some (fI q), some (fI n), none, none]) (st' := [fI 0]) (h' := h) (cl' := 0) (sl' := 0) rfl ?_
      refine fw_if_eq rfl rfl (by omega) (by omega) (fun hc4 => ?_) (fun hc4 => absurd hc4 (by omega))
      refine ik_Wk 1 (pc' := 17) (loc' := [some (.ref 7), some (fI p), some (fI q), some (fI n), none, none]) (st' := [fI 0]) (h' := h) (cl' := 0) (sl' := 0) rfl ?_
      exact ik_Wret rfl rfl ⟨_, _, rfl, rfl, rfl, rfl, Or.inr ⟨rfl, (decide_eq_false (fun w => by omega)), (hfr_refl [] h)⟩⟩
    · refine ik_Wk 2 (pc' := 17) (loc' := [some (.ref 7), some (fI p)]) (st' := [fI 1]) (h' := h) (cl' := 0) (sl' := 0) rfl ?_
      refine ik_Wret rfl rfl ⟨_, _, rfl, rfl, ?_⟩
      refine ik_Wk 0 (pc' := 5) (loc' := [some (.ref 7), some (fI p), some (fI q), some (fI n), none, none]) (st' := [fI 1]) (h' := h) (cl' := 0) (sl' := 0) rfl ?_
      refine fw_if_eq rfl rfl (by omega) (by omega) (fun hc5 => absurd hc5 (by omega)) (fun hc5 => ?_)
      refine ik_Wk 2 (pc' := 10) (loc' := [some (.ref 7), some (fI p), some (fI q), some (fI n), none, none]) (st' := [fI q, .ref 7]) (h' := h) (cl' := 0) (sl' := 0) rfl ?_
      refine ik_Wc 3 2 0 [.ref 7, fI q] [] rfl rfl rfl (by decide) rfl rfl (fw_rec hl rfl h7 rfl (by decide)) ?_
      refine ik_Wk 0 (pc' := 0) (loc' := [some (.ref 7), some (fI q)]) (st' := []) (h' := h) (cl' := 0) (sl' := 0) rfl ?_
      refine ik_Wk 1 (pc' := 1) (loc' := [some (.ref 7), some (fI q)]) (st' := [fI q]) (h' := h) (cl' := 0) (sl' := 0) rfl ?_
      refine fw_if_lt rfl rfl (by omega) (by omega) (fun hc6 => ?_) (fun hc6 => ?_)
      · refine ik_Wk 1 (pc' := 17) (loc' := [some (.ref 7), some (fI q)]) (st' := [fI 0]) (h' := h) (cl' := 0) (sl' := 0) rfl ?_
        refine ik_Wret rfl rfl ⟨_, _, rfl, rfl, ?_⟩
        refine ik_Wk 0 (pc' := 13) (loc' := [some (.ref 7), some (fI p), some (fI q), some (fI n), none, none]) (st' := [fI 0]) (h' := h) (cl' := 0) (sl' := 0) rfl ?_
        refine fw_if_ne rfl rfl (by omega) (by omega) (fun hc7 => ?_) (fun hc7 => absurd hc7 (by omega))
        refine ik_Wk 1 (pc' := 17) (loc' := [some (.ref 7), some (fI p), some (fI q), some (fI n), none, none]) (st' := [fI 0]) (h' := h) (cl' := 0) (sl' := 0) rfl ?_
        exact ik_Wret rfl rfl ⟨_, _, rfl, rfl, rfl, rfl, Or.inr ⟨rfl, (decide_eq_false (fun w => by omega)), (hfr_refl [] h)⟩⟩
      · refine ik_Wk 2 (pc' := 6) (loc' := [some (.ref 7), some (fI q)]) (st' := [.ref 7, fI q]) (h' := h) (cl' := 0) (sl' := 0) rfl ?_
        refine fw_gf rfl rfl h7 rfl ?_
        refine fw_ic_ge rfl rfl (by omega) (by omega) (by omega) (by omega) (fun hc8 => ?_) (fun hc8 => ?_)
        · refine ik_Wk 1 (pc' := 17) (loc' := [some (.ref 7), some (fI q)]) (st' := [fI 0]) (h' := h) (cl' := 0) (sl' := 0) rfl ?_
          refine ik_Wret rfl rfl ⟨_, _, rfl, rfl, ?_⟩
          refine ik_Wk 0 (pc' := 13) (loc' := [some (.ref 7), some (fI p), some (fI q), some (fI n), none, none]) (st' := [fI 0]) (h' := h) (cl' := 0) (sl' := 0) rfl ?_
          refine fw_if_ne rfl rfl (by omega) (by omega) (fun hc9 => ?_) (fun hc9 => absurd hc9 (by omega))
          refine ik_Wk 1 (pc' := 17) (loc' := [some (.ref 7), some (fI p), some (fI q), some (fI n), none, none]) (st' := [fI 0]) (h' := h) (cl' := 0) (sl' := 0) rfl ?_
          exact ik_Wret rfl rfl ⟨_, _, rfl, rfl, rfl, rfl, Or.inr ⟨rfl, (decide_eq_false (fun w => by omega)), (hfr_refl [] h)⟩⟩
        · refine ik_Wk 2 (pc' := 17) (loc' := [some (.ref 7), some (fI q)]) (st' := [fI 1]) (h' := h) (cl' := 0) (sl' := 0) rfl ?_
          refine ik_Wret rfl rfl ⟨_, _, rfl, rfl, ?_⟩
          refine ik_Wk 0 (pc' := 13) (loc' := [some (.ref 7), some (fI p), some (fI q), some (fI n), none, none]) (st' := [fI 1]) (h' := h) (cl' := 0) (sl' := 0) rfl ?_
          refine fw_if_ne rfl rfl (by omega) (by omega) (fun hc10 => absurd hc10 (by omega)) (fun hc10 => ?_)
          refine ik_Wk 2 (pc' := 20) (loc' := [some (.ref 7), some (fI p), some (fI q), some (fI n), none, none]) (st' := [fI p, fI 1]) (h' := h) (cl' := 0) (sl' := 0) rfl ?_
          refine fx_shl rfl (by omega) (by omega) ?_
          refine ik_Wk 3 (pc' := 26) (loc' := [some (.ref 7), some (fI p), some (fI q), some (fI n), some (fI ((1 <<< p.toNat : Nat) : Int)), some (fI 0)]) (st' := []) (h' := h) (cl' := 0) (sl' := 0) rfl ?_
          exact cs_leadsL (p := p) (q := q) (n := n) (pl := pl) (lo := lo) (s := s) (wg := wg) (wc := wc) (we := we) (W := W) q0 q1 q2 q3 q4 q5 (by omega) (by omega) (n.toNat + 1) 0 (1 <<< p.toNat) h h7 h11 n11 h12 n12 h13 n13 hl (hfr_refl [] h) (by omega) (mj_shl_lt (by omega)) (by rw [Int.sub_zero]) (by omega)

theorem cs_wrong0L {h : List ik_E} {pl : Int} {lo : Int} {s : Nat} {n0 : Int} {n1 : Int} {ka : Int} {pa : Int} {fa : Int} {kb : Int} {pb : Int} {fb : Int} {lr : List Int} {wg : List Int} {wc : List Int} {we : List Int} {W : Int → List (Int × Int)} (q0 : 0 ≤ pl ∧ pl ≤ 12) (q1 : ∀ x : Int, 0 ≤ x → x < pl - 1 → mx_wy wg wc we x (W x)) (q2 : ∀ x : Int, 0 ≤ x → x < pl - 1 → mx_ok pl (W x)) (q3 : 0 ≤ ka ∧ ka ≤ 2) (q4 : 0 ≤ pa ∧ pa ≤ 11) (q5 : 0 ≤ fa ∧ fa ≤ 30) (q6 : 0 ≤ n0 ∧ n0 ≤ 40) (q7 : ∀ j : Nat, (j : Int) < n0 → lr.getD (0 + j) 0 = 12 ∨ (0 ≤ lr.getD (0 + j) 0 ∧ lr.getD (0 + j) 0 < pl))  : ∀ (k : Nat) (i : Int) (x7 : Option Value) (x8 : Option Value) (u : List ik_E) (u7 : cE u 7 (.inr (0, [fI pl, fI ((s : Nat) : Int), fI lo, .ref 8, .ref 9, .ref 10, .ref 11, .ref 12, .ref 13]))) (u11 : cE u 11 (.inl (.int, fA wg))) (n11 : wg.length = 60) (u12 : cE u 12 (.inl (.int, fA wc))) (n12 : wc.length = 60) (u13 : cE u 13 (.inl (.int, fA we))) (n13 : we.length = 12) (u15 : cE u 15 (.inl (.int, fA [ka, pa, fa, kb, pb, fb]))) (u54 : cE u 54 (.inr (4, [.ref 55, .ref 56]))) (u55 : cE u 55 (.inl (.int, fA lr))) (n55 : lr.length = 80) (u56 : cE u 56 (.inl (.int, fA [n0, n1]))) (ul : u.length = 94) (F : hfr [] h u) (hi : 0 ≤ i ∧ i ≤ n0) (he : mj_fw (mj_ok W pl ka pa fa lr 0) n0.toNat 0 = mj_fw (mj_ok W pl ka pa fa lr 0) (n0 - i).toNat i) (w7 : ik_wl 94 x7 = true) (w8 : ik_wl 94 x8 = true) (hk : n0 - i < (k : Int)), ik_G 39 21 [some (.ref 54), some (fI 0), some (.ref 7), some (.ref 15), some (fI ka), some (fI fa), some (fI i), x7, x8] [] u (fun rv h' => rv = [fI (mj_fw (mj_ok W pl ka pa fa lr 0) n0.toNat 0)] ∧ hfr [] h h') := by
  intro k
  induction k with
  | zero => intro i x7 x8 u u7 u11 n11 u12 n12 u13 n13 u15 u54 u55 n55 u56 ul F hi he w7 w8 hk; omega
  | succ k ih =>
    intro i x7 x8 u u7 u11 n11 u12 n12 u13 n13 u15 u54 u55 n55 u56 ul F hi he w7 w8 hk
    refine ik_Wk 2 (pc' := 24) (loc' := [some (.ref 54), some (fI 0), some (.ref 7), some (.ref 15), some (fI ka), some (fI fa), some (fI i), x7, x8]) (st' := [.ref 54, fI i]) (h' := u) (cl' := 0) (sl' := 0) rfl ?_
    refine fw_gf rfl rfl u54 rfl ?_
    refine ik_Wk 1 (pc' := 28) (loc' := [some (.ref 54), some (fI 0), some (.ref 7), some (.ref 15), some (fI ka), some (fI fa), some (fI i), x7, x8]) (st' := [fI 0, .ref 56, fI i]) (h' := u) (cl' := 0) (sl' := 0) rfl ?_
    refine fw_ial (z := 0) rfl u56 (by decide) (Nat.le_of_ble_eq_true rfl) (by decide) ?_
    refine ik_Wk 0 (pc' := 29) (loc' := [some (.ref 54), some (fI 0), some (.ref 7), some (.ref 15), some (fI ka), some (fI fa), some (fI i), x7, x8]) (st' := [fI n0, fI i]) (h' := u) (cl' := 0) (sl' := 0) rfl ?_
    refine fw_ic_ge rfl rfl (by omega) (by omega) (by omega) (by omega) (fun hc1 => ?_) (fun hc1 => ?_)
    · refine ik_Wk 1 (pc' := 146) (loc' := [some (.ref 54), some (fI 0), some (.ref 7), some (.ref 15), some (fI ka), some (fI fa), some (fI i), x7, x8]) (st' := [fI (-1)]) (h' := u) (cl' := 0) (sl' := 0) rfl ?_
      rw [show (n0 - i).toNat = 0 by omega] at he
      exact ik_Wret rfl rfl ⟨_, _, rfl, rfl, rfl, rfl, ⟨(congrArg (fun z => [fI z]) he.symm), F⟩⟩
    · refine ik_Wk 1 (pc' := 33) (loc' := [some (.ref 54), some (fI 0), some (.ref 7), some (.ref 15), some (fI ka), some (fI fa), some (fI i), x7, x8]) (st' := [.ref 54]) (h' := u) (cl' := 0) (sl' := 0) rfl ?_
      refine fw_gf rfl rfl u54 rfl ?_
      refine ik_Wk 1 (pc' := 37) (loc' := [some (.ref 54), some (fI 0), some (.ref 7), some (.ref 15), some (fI ka), some (fI fa), some (fI i), x7, x8]) (st' := [fI 0, .ref 55]) (h' := u) (cl' := 0) (sl' := 0) rfl ?_
      refine fw_bi rfl (by decide) ?_
      refine fw_mul rfl ?_
      refine ik_Wk 1 (pc' := 42) (loc' := [some (.ref 54), some (fI 0), some (.ref 7), some (.ref 15), some (fI ka), some (fI fa), some (fI i), x7, x8]) (st' := [fI i, fI 0, .ref 55]) (h' := u) (cl' := 0) (sl' := 0) rfl ?_
      refine fw_add rfl ?_
      refine fw_ial rfl u55 (by omega) (by omega) (by omega) ?_
      have hl2 := q7 i.toNat (by omega)
      rw [show 0 + i.toNat = (0 + i).toNat by omega] at hl2
      refine ik_Wk 3 (pc' := 50) (loc' := [some (.ref 54), some (fI 0), some (.ref 7), some (.ref 15), some (fI ka), some (fI fa), some (fI i), some (fI (lr.getD (0 + i).toNat 0)), x8]) (st' := [fI fa, fI i]) (h' := u) (cl' := 0) (sl' := 0) rfl ?_
      refine fw_ic_ge rfl rfl (by omega) (by omega) (by omega) (by omega) (fun hc3 => ?_) (fun hc3 => ?_)
      · refine ik_Wk 2 (pc' := 74) (loc' := [some (.ref 54), some (fI 0), some (.ref 7), some (.ref 15), some (fI ka), some (fI fa), some (fI i), some (fI (lr.getD (0 + i).toNat 0)), x8]) (st' := [fI fa, fI i]) (h' := u) (cl' := 0) (sl' := 0) rfl ?_
        refine fw_ic_ne rfl rfl (by omega) (by omega) (by omega) (by omega) (fun hc4 => ?_) (fun hc4 => ?_)
        · refine ik_Wk 4 (pc' := 82) (loc' := [some (.ref 54), some (fI 0), some (.ref 7), some (.ref 15), some (fI ka), some (fI fa), some (fI i), some (fI (lr.getD (0 + i).toNat 0)), x8]) (st' := [fI 3, fI 0, .ref 15, fI (lr.getD (0 + i).toNat 0)]) (h' := u) (cl' := 0) (sl' := 0) rfl ?_
          refine fw_mul rfl ?_
          refine ik_Wk 1 (pc' := 84) (loc' := [some (.ref 54), some (fI 0), some (.ref 7), some (.ref 15), some (fI ka), some (fI fa), some (fI i), some (fI (lr.getD (0 + i).toNat 0)), x8]) (st' := [fI 1, fI 0, .ref 15, fI (lr.getD (0 + i).toNat 0)]) (h' := u) (cl' := 0) (sl' := 0) rfl ?_
          refine fw_add rfl ?_
          refine fw_ial (z := 1) rfl u15 (by decide) (Nat.le_of_ble_eq_true rfl) (by decide) ?_
          refine ik_Wk 0 (pc' := 86) (loc' := [some (.ref 54), some (fI 0), some (.ref 7), some (.ref 15), some (fI ka), some (fI fa), some (fI i), some (fI (lr.getD (0 + i).toNat 0)), x8]) (st' := [fI pa, fI (lr.getD (0 + i).toNat 0)]) (h' := u) (cl' := 0) (sl' := 0) rfl ?_
          refine fw_ic_ne rfl rfl (by omega) (by omega) (by omega) (by omega) (fun hc5 => ?_) (fun hc5 => ?_)
          · refine ik_Wk 5 (pc' := 133) (loc' := [some (.ref 54), some (fI 0), some (.ref 7), some (.ref 15), some (fI ka), some (fI fa), some (fI i), some (fI (lr.getD (0 + i).toNat 0)), some (fI 1)]) (st' := [fI 1]) (h' := u) (cl' := 0) (sl' := 0) rfl ?_
            refine fw_if_ne rfl rfl (by omega) (by omega) (fun hc6 => absurd hc6 (by omega)) (fun hc6 => ?_)
            refine fw_inc (a := i) (loc' := [some (.ref 54), some (fI 0), some (.ref 7), some (.ref 15), some (fI ka), some (fI fa), some (fI (i + 1)), some (fI (lr.getD (0 + i).toNat 0)), some (fI 1)]) rfl rfl (Nat.le_of_ble_eq_true rfl) rfl ?_
            refine ik_Wk 1 (pc' := 21) (loc' := [some (.ref 54), some (fI 0), some (.ref 7), some (.ref 15), some (fI ka), some (fI fa), some (fI (i + 1)), some (fI (lr.getD (0 + i).toNat 0)), some (fI 1)]) (st' := []) (h' := u) (cl' := 0) (sl' := 0) rfl ?_
            have hG : (mj_ok W pl ka pa fa lr 0) i = true := by
              show (if i < fa then _ else if i = fa then _ else _) = _
              split
              · exact decide_eq_true (by omega)
              · first | exact decide_eq_true (by omega) | (rw [if_pos (by omega)]; exact decide_eq_true (by omega))
            exact ih  (i + 1) (some (fI (lr.getD (0 + i).toNat 0))) (some (fI 1)) u u7 u11 n11 u12 n12 u13 n13 u15 u54 u55 n55 u56 ul F (by omega) (by rw [he, mj_fw_s (by omega), hG, if_pos rfl]) rfl rfl (by omega)
          · refine ik_Wk 4 (pc' := 133) (loc' := [some (.ref 54), some (fI 0), some (.ref 7), some (.ref 15), some (fI ka), some (fI fa), some (fI i), some (fI (lr.getD (0 + i).toNat 0)), some (fI 0)]) (st' := [fI 0]) (h' := u) (cl' := 0) (sl' := 0) rfl ?_
            refine fw_if_ne rfl rfl (by omega) (by omega) (fun hc7 => ?_) (fun hc7 => absurd hc7 (by omega))
            refine ik_Wk 1 (pc' := 138) (loc' := [some (.ref 54), some (fI 0), some (.ref 7), some (.ref 15), some (fI ka), some (fI fa), some (fI i), some (fI (lr.getD (0 + i).toNat 0)), some (fI 0)]) (st' := [fI i]) (h' := u) (cl' := 0) (sl' := 0) rfl ?_
            have hG : (mj_ok W pl ka pa fa lr 0) i = false := by
              show (if i < fa then _ else if i = fa then _ else _) = _
              split
              · exact decide_eq_false (by omega)
              · first | exact decide_eq_false (by omega) | (rw [if_pos (by omega)]; exact decide_eq_false (by omega))
            exact ik_Wret rfl rfl ⟨_, _, rfl, rfl, rfl, rfl, ⟨(congrArg (fun z => [fI z]) (by rw [he, mj_fw_s (by omega), hG, if_neg (by decide)])), F⟩⟩
        · refine ik_Wk 2 (pc' := 101) (loc' := [some (.ref 54), some (fI 0), some (.ref 7), some (.ref 15), some (fI ka), some (fI fa), some (fI i), some (fI (lr.getD (0 + i).toNat 0)), x8]) (st' := [.ref 54, .ref 7]) (h' := u) (cl' := 0) (sl' := 0) rfl ?_
          refine fw_gf rfl rfl u54 rfl ?_
          refine ik_Wk 1 (pc' := 105) (loc' := [some (.ref 54), some (fI 0), some (.ref 7), some (.ref 15), some (fI ka), some (fI fa), some (fI i), some (fI (lr.getD (0 + i).toNat 0)), x8]) (st' := [fI 0, .ref 55, .ref 7]) (h' := u) (cl' := 0) (sl' := 0) rfl ?_
          refine fw_bi rfl (by decide) ?_
          refine fw_mul rfl ?_
          refine ik_Wk 1 (pc' := 110) (loc' := [some (.ref 54), some (fI 0), some (.ref 7), some (.ref 15), some (fI ka), some (fI fa), some (fI i), some (fI (lr.getD (0 + i).toNat 0)), x8]) (st' := [fI i, fI 0, .ref 55, .ref 7]) (h' := u) (cl' := 0) (sl' := 0) rfl ?_
          refine fw_add rfl ?_
          refine ik_Wk 1 (pc' := 112) (loc' := [some (.ref 54), some (fI 0), some (.ref 7), some (.ref 15), some (fI ka), some (fI fa), some (fI i), some (fI (lr.getD (0 + i).toNat 0)), x8]) (st' := [fI 1, fI (0 + i), .ref 55, .ref 7]) (h' := u) (cl' := 0) (sl' := 0) rfl ?_
          refine fw_sub rfl ?_
          refine fw_ial rfl u55 (by omega) (by omega) (by omega) ?_
          have hl8 := q7 (i - 1).toNat (by omega)
          rw [show 0 + (i - 1).toNat = ((0 + i) - 1).toNat by omega] at hl8
          refine ik_Wk 4 (pc' := 122) (loc' := [some (.ref 54), some (fI 0), some (.ref 7), some (.ref 15), some (fI ka), some (fI fa), some (fI i), some (fI (lr.getD (0 + i).toNat 0)), x8]) (st' := [fI fa, fI i, fI ka, fI (lr.getD (0 + i).toNat 0), fI (lr.getD ((0 + i) - 1).toNat 0), .ref 7]) (h' := u) (cl' := 0) (sl' := 0) rfl ?_
          refine fw_sub rfl ?_
          refine ik_Wc 125 2 4 [fI ka, fI (i - fa)] [fI (lr.getD (0 + i).toNat 0), fI (lr.getD ((0 + i) - 1).toNat 0), .ref 7] rfl rfl rfl (by decide) rfl rfl (fw_sta ul (fw_ftx rfl (wv_c rfl (wv_c rfl (wv_c rfl wv_n))) (wl_c rfl (wl_c rfl (wl_c rfl (wl_c rfl (wl_c rfl (wl_c rfl (wl_c rfl (wl_c rfl (wl_c w8 wl_n)))))))))) (by decide)) ?_
          refine ik_Wk 0 (pc' := 0) (loc' := [some (fI ka), some (fI (i - fa))]) (st' := []) (h' := u) (cl' := 0) (sl' := 0) rfl ?_
          refine ik_Wk 2 (pc' := 2) (loc' := [some (fI ka), some (fI (i - fa))]) (st' := [fI 1, fI ka]) (h' := u) (cl' := 0) (sl' := 0) rfl ?_
          refine fw_ic_ne rfl rfl (by omega) (by omega) (by omega) (by omega) (fun hc9 => ?_) (fun hc9 => ?_)
          · refine ik_Wk 1 (pc' := 6) (loc' := [some (fI ka), some (fI (i - fa))]) (st' := [fI 2]) (h' := u) (cl' := 0) (sl' := 0) rfl ?_
            refine ik_Wret rfl rfl ⟨_, _, rfl, rfl, ?_⟩
            refine ik_Wk 0 (pc' := 126) (loc' := [some (.ref 54), some (fI 0), some (.ref 7), some (.ref 15), some (fI ka), some (fI fa), some (fI i), some (fI (lr.getD (0 + i).toNat 0)), x8]) (st' := [fI 2, fI (lr.getD (0 + i).toNat 0), fI (lr.getD ((0 + i) - 1).toNat 0), .ref 7]) (h' := u) (cl' := 0) (sl' := 0) rfl ?_
            refine fw_call 19 4 0 [.ref 7, fI (lr.getD ((0 + i) - 1).toNat 0), fI (lr.getD (0 + i).toNat 0), fI 2] [] rfl rfl rfl (by decide) rfl rfl (fw_rec ul (fw_ftx rfl wv_n (wl_c rfl (wl_c rfl (wl_c rfl (wl_c rfl (wl_c rfl (wl_c rfl (wl_c rfl (wl_c rfl (wl_c w8 wl_n)))))))))) u7 rfl (by decide)) (cs_leads (p := lr.getD ((0 + i) - 1).toNat 0) (q := lr.getD (0 + i).toNat 0) (n := 2) (pl := pl) (lo := lo) (s := s) (wg := wg) (wc := wc) (we := we) (by omega) q1 q2 (by omega) (by omega) (by omega) u7 u11 n11 u12 n12 u13 n13 ul) ?_
            rintro _ h_332 (⟨rfl, p_332_0, F_332⟩ | ⟨rfl, p_332_0, F_332⟩)
            · have k_332 := F_332.1.trans ul
              have fr_332 := hfr_c F F_332 (by decide)
              have g_332_7 := (F_332.2 7 (by decide +kernel)).trans u7
              have g_332_11 := (F_332.2 11 (by decide +kernel)).trans u11
              have g_332_12 := (F_332.2 12 (by decide +kernel)).trans u12
              have g_332_13 := (F_332.2 13 (by decide +kernel)).trans u13
              have g_332_15 := (F_332.2 15 (by decide +kernel)).trans u15
              have g_332_54 := (F_332.2 54 (by decide +kernel)).trans u54
              have g_332_55 := (F_332.2 55 (by decide +kernel)).trans u55
              have g_332_56 := (F_332.2 56 (by decide +kernel)).trans u56
              refine ik_Wk 0 (pc' := 129) (loc' := [some (.ref 54), some (fI 0), some (.ref 7), some (.ref 15), some (fI ka), some (fI fa), some (fI i), some (fI (lr.getD (0 + i).toNat 0)), x8]) (st' := [fI 1]) (h' := h_332) (cl' := 0) (sl' := 0) rfl ?_
              refine ik_Wk 2 (pc' := 133) (loc' := [some (.ref 54), some (fI 0), some (.ref 7), some (.ref 15), some (fI ka), some (fI fa), some (fI i), some (fI (lr.getD (0 + i).toNat 0)), some (fI 1)]) (st' := [fI 1]) (h' := h_332) (cl' := 0) (sl' := 0) rfl ?_
              refine fw_if_ne rfl rfl (by omega) (by omega) (fun hc10 => absurd hc10 (by omega)) (fun hc10 => ?_)
              refine fw_inc (a := i) (loc' := [some (.ref 54), some (fI 0), some (.ref 7), some (.ref 15), some (fI ka), some (fI fa), some (fI (i + 1)), some (fI (lr.getD (0 + i).toNat 0)), some (fI 1)]) rfl rfl (Nat.le_of_ble_eq_true rfl) rfl ?_
              refine ik_Wk 1 (pc' := 21) (loc' := [some (.ref 54), some (fI 0), some (.ref 7), some (.ref 15), some (fI ka), some (fI fa), some (fI (i + 1)), some (fI (lr.getD (0 + i).toNat 0)), some (fI 1)]) (st' := []) (h' := h_332) (cl' := 0) (sl' := 0) rfl ?_
              have et : mx_tm ka (i - fa) = 2 := by unfold mx_tm; (repeat' split) <;> omega
              have hG : (mj_ok W pl ka pa fa lr 0) i = true := by
                show (if i < fa then _ else if i = fa then _ else _) = _
                rw [if_neg (by omega), if_neg (by omega), et]
                exact p_332_0
              exact ih  (i + 1) (some (fI (lr.getD (0 + i).toNat 0))) (some (fI 1)) h_332 g_332_7 g_332_11 n11 g_332_12 n12 g_332_13 n13 g_332_15 g_332_54 g_332_55 n55 g_332_56 k_332 fr_332 (by omega) (by rw [he, mj_fw_s (by omega), hG, if_pos rfl]) rfl rfl (by omega)
            · have k_332 := F_332.1.trans ul
              have fr_332 := hfr_c F F_332 (by decide)
              have g_332_7 := (F_332.2 7 (by decide +kernel)).trans u7
              have g_332_11 := (F_332.2 11 (by decide +kernel)).trans u11
              have g_332_12 := (F_332.2 12 (by decide +kernel)).trans u12
              have g_332_13 := (F_332.2 13 (by decide +kernel)).trans u13
              have g_332_15 := (F_332.2 15 (by decide +kernel)).trans u15
              have g_332_54 := (F_332.2 54 (by decide +kernel)).trans u54
              have g_332_55 := (F_332.2 55 (by decide +kernel)).trans u55
              have g_332_56 := (F_332.2 56 (by decide +kernel)).trans u56
              refine ik_Wk 0 (pc' := 129) (loc' := [some (.ref 54), some (fI 0), some (.ref 7), some (.ref 15), some (fI ka), some (fI fa), some (fI i), some (fI (lr.getD (0 + i).toNat 0)), x8]) (st' := [fI 0]) (h' := h_332) (cl' := 0) (sl' := 0) rfl ?_
              refine ik_Wk 2 (pc' := 133) (loc' := [some (.ref 54), some (fI 0), some (.ref 7), some (.ref 15), some (fI ka), some (fI fa), some (fI i), some (fI (lr.getD (0 + i).toNat 0)), some (fI 0)]) (st' := [fI 0]) (h' := h_332) (cl' := 0) (sl' := 0) rfl ?_
              refine fw_if_ne rfl rfl (by omega) (by omega) (fun hc11 => ?_) (fun hc11 => absurd hc11 (by omega))
              refine ik_Wk 1 (pc' := 138) (loc' := [some (.ref 54), some (fI 0), some (.ref 7), some (.ref 15), some (fI ka), some (fI fa), some (fI i), some (fI (lr.getD (0 + i).toNat 0)), some (fI 0)]) (st' := [fI i]) (h' := h_332) (cl' := 0) (sl' := 0) rfl ?_
              have et : mx_tm ka (i - fa) = 2 := by unfold mx_tm; (repeat' split) <;> omega
              have hG : (mj_ok W pl ka pa fa lr 0) i = false := by
                show (if i < fa then _ else if i = fa then _ else _) = _
                rw [if_neg (by omega), if_neg (by omega), et]
                exact p_332_0
              exact ik_Wret rfl rfl ⟨_, _, rfl, rfl, rfl, rfl, ⟨(congrArg (fun z => [fI z]) (by rw [he, mj_fw_s (by omega), hG, if_neg (by decide)])), fr_332⟩⟩
          · refine ik_Wk 2 (pc' := 9) (loc' := [some (fI ka), some (fI (i - fa))]) (st' := [fI 2, fI ka]) (h' := u) (cl' := 0) (sl' := 0) rfl ?_
            refine fw_ic_ne rfl rfl (by omega) (by omega) (by omega) (by omega) (fun hc12 => ?_) (fun hc12 => ?_)
            · refine ik_Wk 2 (pc' := 14) (loc' := [some (fI ka), some (fI (i - fa))]) (st' := [fI 2, fI (i - fa)]) (h' := u) (cl' := 0) (sl' := 0) rfl ?_
              refine fx_irem rfl (by omega) (by omega) (by omega) (by omega) ?_
              refine fw_if_eq rfl rfl (by omega) (by omega) (fun hc13 => ?_) (fun hc13 => ?_)
              · refine ik_Wk 1 (pc' := 23) (loc' := [some (fI ka), some (fI (i - fa))]) (st' := [fI 1]) (h' := u) (cl' := 0) (sl' := 0) rfl ?_
                refine ik_Wret rfl rfl ⟨_, _, rfl, rfl, ?_⟩
                refine ik_Wk 0 (pc' := 126) (loc' := [some (.ref 54), some (fI 0), some (.ref 7), some (.ref 15), some (fI ka), some (fI fa), some (fI i), some (fI (lr.getD (0 + i).toNat 0)), x8]) (st' := [fI 1, fI (lr.getD (0 + i).toNat 0), fI (lr.getD ((0 + i) - 1).toNat 0), .ref 7]) (h' := u) (cl' := 0) (sl' := 0) rfl ?_
                refine fw_call 19 4 0 [.ref 7, fI (lr.getD ((0 + i) - 1).toNat 0), fI (lr.getD (0 + i).toNat 0), fI 1] [] rfl rfl rfl (by decide) rfl rfl (fw_rec ul (fw_ftx rfl wv_n (wl_c rfl (wl_c rfl (wl_c rfl (wl_c rfl (wl_c rfl (wl_c rfl (wl_c rfl (wl_c rfl (wl_c w8 wl_n)))))))))) u7 rfl (by decide)) (cs_leads (p := lr.getD ((0 + i) - 1).toNat 0) (q := lr.getD (0 + i).toNat 0) (n := 1) (pl := pl) (lo := lo) (s := s) (wg := wg) (wc := wc) (we := we) (by omega) q1 q2 (by omega) (by omega) (by omega) u7 u11 n11 u12 n12 u13 n13 ul) ?_
                rintro _ h_333 (⟨rfl, p_333_0, F_333⟩ | ⟨rfl, p_333_0, F_333⟩)
                · have k_333 := F_333.1.trans ul
                  have fr_333 := hfr_c F F_333 (by decide)
                  have g_333_7 := (F_333.2 7 (by decide +kernel)).trans u7
                  have g_333_11 := (F_333.2 11 (by decide +kernel)).trans u11
                  have g_333_12 := (F_333.2 12 (by decide +kernel)).trans u12
                  have g_333_13 := (F_333.2 13 (by decide +kernel)).trans u13
                  have g_333_15 := (F_333.2 15 (by decide +kernel)).trans u15
                  have g_333_54 := (F_333.2 54 (by decide +kernel)).trans u54
                  have g_333_55 := (F_333.2 55 (by decide +kernel)).trans u55
                  have g_333_56 := (F_333.2 56 (by decide +kernel)).trans u56
                  refine ik_Wk 0 (pc' := 129) (loc' := [some (.ref 54), some (fI 0), some (.ref 7), some (.ref 15), some (fI ka), some (fI fa), some (fI i), some (fI (lr.getD (0 + i).toNat 0)), x8]) (st' := [fI 1]) (h' := h_333) (cl' := 0) (sl' := 0) rfl ?_
                  refine ik_Wk 2 (pc' := 133) (loc' := [some (.ref 54), some (fI 0), some (.ref 7), some (.ref 15), some (fI ka), some (fI fa), some (fI i), some (fI (lr.getD (0 + i).toNat 0)), some (fI 1)]) (st' := [fI 1]) (h' := h_333) (cl' := 0) (sl' := 0) rfl ?_
                  refine fw_if_ne rfl rfl (by omega) (by omega) (fun hc14 => absurd hc14 (by omega)) (fun hc14 => ?_)
                  refine fw_inc (a := i) (loc' := [some (.ref 54), some (fI 0), some (.ref 7), some (.ref 15), some (fI ka), some (fI fa), some (fI (i + 1)), some (fI (lr.getD (0 + i).toNat 0)), some (fI 1)]) rfl rfl (Nat.le_of_ble_eq_true rfl) rfl ?_
                  refine ik_Wk 1 (pc' := 21) (loc' := [some (.ref 54), some (fI 0), some (.ref 7), some (.ref 15), some (fI ka), some (fI fa), some (fI (i + 1)), some (fI (lr.getD (0 + i).toNat 0)), some (fI 1)]) (st' := []) (h' := h_333) (cl' := 0) (sl' := 0) rfl ?_
                  have et : mx_tm ka (i - fa) = 1 := by unfold mx_tm; (repeat' split) <;> omega
                  have hG : (mj_ok W pl ka pa fa lr 0) i = true := by
                    show (if i < fa then _ else if i = fa then _ else _) = _
                    rw [if_neg (by omega), if_neg (by omega), et]
                    exact p_333_0
                  exact ih  (i + 1) (some (fI (lr.getD (0 + i).toNat 0))) (some (fI 1)) h_333 g_333_7 g_333_11 n11 g_333_12 n12 g_333_13 n13 g_333_15 g_333_54 g_333_55 n55 g_333_56 k_333 fr_333 (by omega) (by rw [he, mj_fw_s (by omega), hG, if_pos rfl]) rfl rfl (by omega)
                · have k_333 := F_333.1.trans ul
                  have fr_333 := hfr_c F F_333 (by decide)
                  have g_333_7 := (F_333.2 7 (by decide +kernel)).trans u7
                  have g_333_11 := (F_333.2 11 (by decide +kernel)).trans u11
                  have g_333_12 := (F_333.2 12 (by decide +kernel)).trans u12
                  have g_333_13 := (F_333.2 13 (by decide +kernel)).trans u13
                  have g_333_15 := (F_333.2 15 (by decide +kernel)).trans u15
                  have g_333_54 := (F_333.2 54 (by decide +kernel)).trans u54
                  have g_333_55 := (F_333.2 55 (by decide +kernel)).trans u55
                  have g_333_56 := (F_333.2 56 (by decide +kernel)).trans u56
                  refine ik_Wk 0 (pc' := 129) (loc' := [some (.ref 54), some (fI 0), some (.ref 7), some (.ref 15), some (fI ka), some (fI fa), some (fI i), some (fI (lr.getD (0 + i).toNat 0)), x8]) (st' := [fI 0]) (h' := h_333) (cl' := 0) (sl' := 0) rfl ?_
                  refine ik_Wk 2 (pc' := 133) (loc' := [some (.ref 54), some (fI 0), some (.ref 7), some (.ref 15), some (fI ka), some (fI fa), some (fI i), some (fI (lr.getD (0 + i).toNat 0)), some (fI 0)]) (st' := [fI 0]) (h' := h_333) (cl' := 0) (sl' := 0) rfl ?_
                  refine fw_if_ne rfl rfl (by omega) (by omega) (fun hc15 => ?_) (fun hc15 => absurd hc15 (by omega))
                  refine ik_Wk 1 (pc' := 138) (loc' := [some (.ref 54), some (fI 0), some (.ref 7), some (.ref 15), some (fI ka), some (fI fa), some (fI i), some (fI (lr.getD (0 + i).toNat 0)), some (fI 0)]) (st' := [fI i]) (h' := h_333) (cl' := 0) (sl' := 0) rfl ?_
                  have et : mx_tm ka (i - fa) = 1 := by unfold mx_tm; (repeat' split) <;> omega
                  have hG : (mj_ok W pl ka pa fa lr 0) i = false := by
                    show (if i < fa then _ else if i = fa then _ else _) = _
                    rw [if_neg (by omega), if_neg (by omega), et]
                    exact p_333_0
                  exact ik_Wret rfl rfl ⟨_, _, rfl, rfl, rfl, rfl, ⟨(congrArg (fun z => [fI z]) (by rw [he, mj_fw_s (by omega), hG, if_neg (by decide)])), fr_333⟩⟩
              · refine ik_Wk 2 (pc' := 23) (loc' := [some (fI ka), some (fI (i - fa))]) (st' := [fI 0]) (h' := u) (cl' := 0) (sl' := 0) rfl ?_
                refine ik_Wret rfl rfl ⟨_, _, rfl, rfl, ?_⟩
                refine ik_Wk 0 (pc' := 126) (loc' := [some (.ref 54), some (fI 0), some (.ref 7), some (.ref 15), some (fI ka), some (fI fa), some (fI i), some (fI (lr.getD (0 + i).toNat 0)), x8]) (st' := [fI 0, fI (lr.getD (0 + i).toNat 0), fI (lr.getD ((0 + i) - 1).toNat 0), .ref 7]) (h' := u) (cl' := 0) (sl' := 0) rfl ?_
                refine fw_call 19 4 0 [.ref 7, fI (lr.getD ((0 + i) - 1).toNat 0), fI (lr.getD (0 + i).toNat 0), fI 0] [] rfl rfl rfl (by decide) rfl rfl (fw_rec ul (fw_ftx rfl wv_n (wl_c rfl (wl_c rfl (wl_c rfl (wl_c rfl (wl_c rfl (wl_c rfl (wl_c rfl (wl_c rfl (wl_c w8 wl_n)))))))))) u7 rfl (by decide)) (cs_leads (p := lr.getD ((0 + i) - 1).toNat 0) (q := lr.getD (0 + i).toNat 0) (n := 0) (pl := pl) (lo := lo) (s := s) (wg := wg) (wc := wc) (we := we) (by omega) q1 q2 (by omega) (by omega) (by omega) u7 u11 n11 u12 n12 u13 n13 ul) ?_
                rintro _ h_334 (⟨rfl, p_334_0, F_334⟩ | ⟨rfl, p_334_0, F_334⟩)
                · have k_334 := F_334.1.trans ul
                  have fr_334 := hfr_c F F_334 (by decide)
                  have g_334_7 := (F_334.2 7 (by decide +kernel)).trans u7
                  have g_334_11 := (F_334.2 11 (by decide +kernel)).trans u11
                  have g_334_12 := (F_334.2 12 (by decide +kernel)).trans u12
                  have g_334_13 := (F_334.2 13 (by decide +kernel)).trans u13
                  have g_334_15 := (F_334.2 15 (by decide +kernel)).trans u15
                  have g_334_54 := (F_334.2 54 (by decide +kernel)).trans u54
                  have g_334_55 := (F_334.2 55 (by decide +kernel)).trans u55
                  have g_334_56 := (F_334.2 56 (by decide +kernel)).trans u56
                  refine ik_Wk 0 (pc' := 129) (loc' := [some (.ref 54), some (fI 0), some (.ref 7), some (.ref 15), some (fI ka), some (fI fa), some (fI i), some (fI (lr.getD (0 + i).toNat 0)), x8]) (st' := [fI 1]) (h' := h_334) (cl' := 0) (sl' := 0) rfl ?_
                  refine ik_Wk 2 (pc' := 133) (loc' := [some (.ref 54), some (fI 0), some (.ref 7), some (.ref 15), some (fI ka), some (fI fa), some (fI i), some (fI (lr.getD (0 + i).toNat 0)), some (fI 1)]) (st' := [fI 1]) (h' := h_334) (cl' := 0) (sl' := 0) rfl ?_
                  refine fw_if_ne rfl rfl (by omega) (by omega) (fun hc16 => absurd hc16 (by omega)) (fun hc16 => ?_)
                  refine fw_inc (a := i) (loc' := [some (.ref 54), some (fI 0), some (.ref 7), some (.ref 15), some (fI ka), some (fI fa), some (fI (i + 1)), some (fI (lr.getD (0 + i).toNat 0)), some (fI 1)]) rfl rfl (Nat.le_of_ble_eq_true rfl) rfl ?_
                  refine ik_Wk 1 (pc' := 21) (loc' := [some (.ref 54), some (fI 0), some (.ref 7), some (.ref 15), some (fI ka), some (fI fa), some (fI (i + 1)), some (fI (lr.getD (0 + i).toNat 0)), some (fI 1)]) (st' := []) (h' := h_334) (cl' := 0) (sl' := 0) rfl ?_
                  have et : mx_tm ka (i - fa) = 0 := by unfold mx_tm; (repeat' split) <;> omega
                  have hG : (mj_ok W pl ka pa fa lr 0) i = true := by
                    show (if i < fa then _ else if i = fa then _ else _) = _
                    rw [if_neg (by omega), if_neg (by omega), et]
                    exact p_334_0
                  exact ih  (i + 1) (some (fI (lr.getD (0 + i).toNat 0))) (some (fI 1)) h_334 g_334_7 g_334_11 n11 g_334_12 n12 g_334_13 n13 g_334_15 g_334_54 g_334_55 n55 g_334_56 k_334 fr_334 (by omega) (by rw [he, mj_fw_s (by omega), hG, if_pos rfl]) rfl rfl (by omega)
                · have k_334 := F_334.1.trans ul
                  have fr_334 := hfr_c F F_334 (by decide)
                  have g_334_7 := (F_334.2 7 (by decide +kernel)).trans u7
                  have g_334_11 := (F_334.2 11 (by decide +kernel)).trans u11
                  have g_334_12 := (F_334.2 12 (by decide +kernel)).trans u12
                  have g_334_13 := (F_334.2 13 (by decide +kernel)).trans u13
                  have g_334_15 := (F_334.2 15 (by decide +kernel)).trans u15
                  have g_334_54 := (F_334.2 54 (by decide +kernel)).trans u54
                  have g_334_55 := (F_334.2 55 (by decide +kernel)).trans u55
                  have g_334_56 := (F_334.2 56 (by decide +kernel)).trans u56
                  refine ik_Wk 0 (pc' := 129) (loc' := [some (.ref 54), some (fI 0), some (.ref 7), some (.ref 15), some (fI ka), some (fI fa), some (fI i), some (fI (lr.getD (0 + i).toNat 0)), x8]) (st' := [fI 0]) (h' := h_334) (cl' := 0) (sl' := 0) rfl ?_
                  refine ik_Wk 2 (pc' := 133) (loc' := [some (.ref 54), some (fI 0), some (.ref 7), some (.ref 15), some (fI ka), some (fI fa), some (fI i), some (fI (lr.getD (0 + i).toNat 0)), some (fI 0)]) (st' := [fI 0]) (h' := h_334) (cl' := 0) (sl' := 0) rfl ?_
                  refine fw_if_ne rfl rfl (by omega) (by omega) (fun hc17 => ?_) (fun hc17 => absurd hc17 (by omega))
                  refine ik_Wk 1 (pc' := 138) (loc' := [some (.ref 54), some (fI 0), some (.ref 7), some (.ref 15), some (fI ka), some (fI fa), some (fI i), some (fI (lr.getD (0 + i).toNat 0)), some (fI 0)]) (st' := [fI i]) (h' := h_334) (cl' := 0) (sl' := 0) rfl ?_
                  have et : mx_tm ka (i - fa) = 0 := by unfold mx_tm; (repeat' split) <;> omega
                  have hG : (mj_ok W pl ka pa fa lr 0) i = false := by
                    show (if i < fa then _ else if i = fa then _ else _) = _
                    rw [if_neg (by omega), if_neg (by omega), et]
                    exact p_334_0
                  exact ik_Wret rfl rfl ⟨_, _, rfl, rfl, rfl, rfl, ⟨(congrArg (fun z => [fI z]) (by rw [he, mj_fw_s (by omega), hG, if_neg (by decide)])), fr_334⟩⟩
            · refine ik_Wk 1 (pc' := 23) (loc' := [some (fI ka), some (fI (i - fa))]) (st' := [fI 1]) (h' := u) (cl' := 0) (sl' := 0) rfl ?_
              refine ik_Wret rfl rfl ⟨_, _, rfl, rfl, ?_⟩
              refine ik_Wk 0 (pc' := 126) (loc' := [some (.ref 54), some (fI 0), some (.ref 7), some (.ref 15), some (fI ka), some (fI fa), some (fI i), some (fI (lr.getD (0 + i).toNat 0)), x8]) (st' := [fI 1, fI (lr.getD (0 + i).toNat 0), fI (lr.getD ((0 + i) - 1).toNat 0), .ref 7]) (h' := u) (cl' := 0) (sl' := 0) rfl ?_
              refine fw_call 19 4 0 [.ref 7, fI (lr.getD ((0 + i) - 1).toNat 0), fI (lr.getD (0 + i).toNat 0), fI 1] [] rfl rfl rfl (by decide) rfl rfl (fw_rec ul (fw_ftx rfl wv_n (wl_c rfl (wl_c rfl (wl_c rfl (wl_c rfl (wl_c rfl (wl_c rfl (wl_c rfl (wl_c rfl (wl_c w8 wl_n)))))))))) u7 rfl (by decide)) (cs_leads (p := lr.getD ((0 + i) - 1).toNat 0) (q := lr.getD (0 + i).toNat 0) (n := 1) (pl := pl) (lo := lo) (s := s) (wg := wg) (wc := wc) (we := we) (by omega) q1 q2 (by omega) (by omega) (by omega) u7 u11 n11 u12 n12 u13 n13 ul) ?_
              rintro _ h_335 (⟨rfl, p_335_0, F_335⟩ | ⟨rfl, p_335_0, F_335⟩)
              · have k_335 := F_335.1.trans ul
                have fr_335 := hfr_c F F_335 (by decide)
                have g_335_7 := (F_335.2 7 (by decide +kernel)).trans u7
                have g_335_11 := (F_335.2 11 (by decide +kernel)).trans u11
                have g_335_12 := (F_335.2 12 (by decide +kernel)).trans u12
                have g_335_13 := (F_335.2 13 (by decide +kernel)).trans u13
                have g_335_15 := (F_335.2 15 (by decide +kernel)).trans u15
                have g_335_54 := (F_335.2 54 (by decide +kernel)).trans u54
                have g_335_55 := (F_335.2 55 (by decide +kernel)).trans u55
                have g_335_56 := (F_335.2 56 (by decide +kernel)).trans u56
                refine ik_Wk 0 (pc' := 129) (loc' := [some (.ref 54), some (fI 0), some (.ref 7), some (.ref 15), some (fI ka), some (fI fa), some (fI i), some (fI (lr.getD (0 + i).toNat 0)), x8]) (st' := [fI 1]) (h' := h_335) (cl' := 0) (sl' := 0) rfl ?_
                refine ik_Wk 2 (pc' := 133) (loc' := [some (.ref 54), some (fI 0), some (.ref 7), some (.ref 15), some (fI ka), some (fI fa), some (fI i), some (fI (lr.getD (0 + i).toNat 0)), some (fI 1)]) (st' := [fI 1]) (h' := h_335) (cl' := 0) (sl' := 0) rfl ?_
                refine fw_if_ne rfl rfl (by omega) (by omega) (fun hc18 => absurd hc18 (by omega)) (fun hc18 => ?_)
                refine fw_inc (a := i) (loc' := [some (.ref 54), some (fI 0), some (.ref 7), some (.ref 15), some (fI ka), some (fI fa), some (fI (i + 1)), some (fI (lr.getD (0 + i).toNat 0)), some (fI 1)]) rfl rfl (Nat.le_of_ble_eq_true rfl) rfl ?_
                refine ik_Wk 1 (pc' := 21) (loc' := [some (.ref 54), some (fI 0), some (.ref 7), some (.ref 15), some (fI ka), some (fI fa), some (fI (i + 1)), some (fI (lr.getD (0 + i).toNat 0)), some (fI 1)]) (st' := []) (h' := h_335) (cl' := 0) (sl' := 0) rfl ?_
                have et : mx_tm ka (i - fa) = 1 := by unfold mx_tm; (repeat' split) <;> omega
                have hG : (mj_ok W pl ka pa fa lr 0) i = true := by
                  show (if i < fa then _ else if i = fa then _ else _) = _
                  rw [if_neg (by omega), if_neg (by omega), et]
                  exact p_335_0
                exact ih  (i + 1) (some (fI (lr.getD (0 + i).toNat 0))) (some (fI 1)) h_335 g_335_7 g_335_11 n11 g_335_12 n12 g_335_13 n13 g_335_15 g_335_54 g_335_55 n55 g_335_56 k_335 fr_335 (by omega) (by rw [he, mj_fw_s (by omega), hG, if_pos rfl]) rfl rfl (by omega)
              · have k_335 := F_335.1.trans ul
                have fr_335 := hfr_c F F_335 (by decide)
                have g_335_7 := (F_335.2 7 (by decide +kernel)).trans u7
                have g_335_11 := (F_335.2 11 (by decide +kernel)).trans u11
                have g_335_12 := (F_335.2 12 (by decide +kernel)).trans u12
                have g_335_13 := (F_335.2 13 (by decide +kernel)).trans u13
                have g_335_15 := (F_335.2 15 (by decide +kernel)).trans u15
                have g_335_54 := (F_335.2 54 (by decide +kernel)).trans u54
                have g_335_55 := (F_335.2 55 (by decide +kernel)).trans u55
                have g_335_56 := (F_335.2 56 (by decide +kernel)).trans u56
                refine ik_Wk 0 (pc' := 129) (loc' := [some (.ref 54), some (fI 0), some (.ref 7), some (.ref 15), some (fI ka), some (fI fa), some (fI i), some (fI (lr.getD (0 + i).toNat 0)), x8]) (st' := [fI 0]) (h' := h_335) (cl' := 0) (sl' := 0) rfl ?_
                refine ik_Wk 2 (pc' := 133) (loc' := [some (.ref 54), some (fI 0), some (.ref 7), some (.ref 15), some (fI ka), some (fI fa), some (fI i), some (fI (lr.getD (0 + i).toNat 0)), some (fI 0)]) (st' := [fI 0]) (h' := h_335) (cl' := 0) (sl' := 0) rfl ?_
                refine fw_if_ne rfl rfl (by omega) (by omega) (fun hc19 => ?_) (fun hc19 => absurd hc19 (by omega))
                refine ik_Wk 1 (pc' := 138) (loc' := [some (.ref 54), some (fI 0), some (.ref 7), some (.ref 15), some (fI ka), some (fI fa), some (fI i), some (fI (lr.getD (0 + i).toNat 0)), some (fI 0)]) (st' := [fI i]) (h' := h_335) (cl' := 0) (sl' := 0) rfl ?_
                have et : mx_tm ka (i - fa) = 1 := by unfold mx_tm; (repeat' split) <;> omega
                have hG : (mj_ok W pl ka pa fa lr 0) i = false := by
                  show (if i < fa then _ else if i = fa then _ else _) = _
                  rw [if_neg (by omega), if_neg (by omega), et]
                  exact p_335_0
                exact ik_Wret rfl rfl ⟨_, _, rfl, rfl, rfl, rfl, ⟨(congrArg (fun z => [fI z]) (by rw [he, mj_fw_s (by omega), hG, if_neg (by decide)])), fr_335⟩⟩
      · refine ik_Wk 1 (pc' := 55) (loc' := [some (.ref 54), some (fI 0), some (.ref 7), some (.ref 15), some (fI ka), some (fI fa), some (fI i), some (fI (lr.getD (0 + i).toNat 0)), x8]) (st' := [fI (lr.getD (0 + i).toNat 0)]) (h' := u) (cl' := 0) (sl' := 0) rfl ?_
        refine fw_bi rfl (by decide) ?_
        refine fw_ic_ne rfl rfl (by omega) (by omega) (by omega) (by omega) (fun hc20 => ?_) (fun hc20 => ?_)
        · refine ik_Wk 5 (pc' := 133) (loc' := [some (.ref 54), some (fI 0), some (.ref 7), some (.ref 15), some (fI ka), some (fI fa), some (fI i), some (fI (lr.getD (0 + i).toNat 0)), some (fI 1)]) (st' := [fI 1]) (h' := u) (cl' := 0) (sl' := 0) rfl ?_
          refine fw_if_ne rfl rfl (by omega) (by omega) (fun hc21 => absurd hc21 (by omega)) (fun hc21 => ?_)
          refine fw_inc (a := i) (loc' := [some (.ref 54), some (fI 0), some (.ref 7), some (.ref 15), some (fI ka), some (fI fa), some (fI (i + 1)), some (fI (lr.getD (0 + i).toNat 0)), some (fI 1)]) rfl rfl (Nat.le_of_ble_eq_true rfl) rfl ?_
          refine ik_Wk 1 (pc' := 21) (loc' := [some (.ref 54), some (fI 0), some (.ref 7), some (.ref 15), some (fI ka), some (fI fa), some (fI (i + 1)), some (fI (lr.getD (0 + i).toNat 0)), some (fI 1)]) (st' := []) (h' := u) (cl' := 0) (sl' := 0) rfl ?_
          have hG : (mj_ok W pl ka pa fa lr 0) i = true := by
            show (if i < fa then _ else if i = fa then _ else _) = _
            split
            · exact decide_eq_true (by omega)
            · first | exact decide_eq_true (by omega) | (rw [if_pos (by omega)]; exact decide_eq_true (by omega))
          exact ih  (i + 1) (some (fI (lr.getD (0 + i).toNat 0))) (some (fI 1)) u u7 u11 n11 u12 n12 u13 n13 u15 u54 u55 n55 u56 ul F (by omega) (by rw [he, mj_fw_s (by omega), hG, if_pos rfl]) rfl rfl (by omega)
        · refine ik_Wk 4 (pc' := 133) (loc' := [some (.ref 54), some (fI 0), some (.ref 7), some (.ref 15), some (fI ka), some (fI fa), some (fI i), some (fI (lr.getD (0 + i).toNat 0)), some (fI 0)]) (st' := [fI 0]) (h' := u) (cl' := 0) (sl' := 0) rfl ?_
          refine fw_if_ne rfl rfl (by omega) (by omega) (fun hc22 => ?_) (fun hc22 => absurd hc22 (by omega))
          refine ik_Wk 1 (pc' := 138) (loc' := [some (.ref 54), some (fI 0), some (.ref 7), some (.ref 15), some (fI ka), some (fI fa), some (fI i), some (fI (lr.getD (0 + i).toNat 0)), some (fI 0)]) (st' := [fI i]) (h' := u) (cl' := 0) (sl' := 0) rfl ?_
          have hG : (mj_ok W pl ka pa fa lr 0) i = false := by
            show (if i < fa then _ else if i = fa then _ else _) = _
            split
            · exact decide_eq_false (by omega)
            · first | exact decide_eq_false (by omega) | (rw [if_pos (by omega)]; exact decide_eq_false (by omega))
          exact ik_Wret rfl rfl ⟨_, _, rfl, rfl, rfl, rfl, ⟨(congrArg (fun z => [fI z]) (by rw [he, mj_fw_s (by omega), hG, if_neg (by decide)])), F⟩⟩

theorem cs_wrong0 {h : List ik_E} {pl : Int} {lo : Int} {s : Nat} {n0 : Int} {n1 : Int} {ka : Int} {pa : Int} {fa : Int} {kb : Int} {pb : Int} {fb : Int} {lr : List Int} {wg : List Int} {wc : List Int} {we : List Int} {W : Int → List (Int × Int)} (q0 : 0 ≤ pl ∧ pl ≤ 12) (q1 : ∀ x : Int, 0 ≤ x → x < pl - 1 → mx_wy wg wc we x (W x)) (q2 : ∀ x : Int, 0 ≤ x → x < pl - 1 → mx_ok pl (W x)) (q3 : 0 ≤ ka ∧ ka ≤ 2) (q4 : 0 ≤ pa ∧ pa ≤ 11) (q5 : 0 ≤ fa ∧ fa ≤ 30) (q6 : 0 ≤ n0 ∧ n0 ≤ 40) (q7 : ∀ j : Nat, (j : Int) < n0 → lr.getD (0 + j) 0 = 12 ∨ (0 ≤ lr.getD (0 + j) 0 ∧ lr.getD (0 + j) 0 < pl)) (h7 : cE h 7 (.inr (0, [fI pl, fI ((s : Nat) : Int), fI lo, .ref 8, .ref 9, .ref 10, .ref 11, .ref 12, .ref 13]))) (h11 : cE h 11 (.inl (.int, fA wg))) (n11 : wg.length = 60) (h12 : cE h 12 (.inl (.int, fA wc))) (n12 : wc.length = 60) (h13 : cE h 13 (.inl (.int, fA we))) (n13 : we.length = 12) (h15 : cE h 15 (.inl (.int, fA [ka, pa, fa, kb, pb, fb]))) (h54 : cE h 54 (.inr (4, [.ref 55, .ref 56]))) (h55 : cE h 55 (.inl (.int, fA lr))) (n55 : lr.length = 80) (h56 : cE h 56 (.inl (.int, fA [n0, n1]))) (hl : h.length = 94) : ik_F 39 [.ref 54, fI 0, .ref 7, .ref 15] h (fun rv h' => rv = [fI (mj_fw (mj_ok W pl ka pa fa lr 0) n0.toNat 0)] ∧ hfr [] h h') := by
  refine ik_Wk 3 (pc' := 3) (loc' := [some (.ref 54), some (fI 0), some (.ref 7), some (.ref 15), none, none, none, none, none]) (st' := [fI 3, fI 0, .ref 15]) (h' := h) (cl' := 0) (sl' := 0) rfl ?_
  refine fw_mul rfl ?_
  refine ik_Wk 1 (pc' := 5) (loc' := [some (.ref 54), some (fI 0), some (.ref 7), some (.ref 15), none, none, none, none, none]) (st' := [fI 0, fI 0, .ref 15]) (h' := h) (cl' := 0) (sl' := 0) rfl ?_
  refine fw_add rfl ?_
  refine fw_ial (z := 0) rfl h15 (by decide) (Nat.le_of_ble_eq_true rfl) (by decide) ?_
  refine ik_Wk 0 (pc' := 7) (loc' := [some (.ref 54), some (fI 0), some (.ref 7), some (.ref 15), none, none, none, none, none]) (st' := [fI ka]) (h' := h) (cl' := 0) (sl' := 0) rfl ?_
  refine ik_Wk 4 (pc' := 12) (loc' := [some (.ref 54), some (fI 0), some (.ref 7), some (.ref 15), some (fI ka), none, none, none, none]) (st' := [fI 3, fI 0, .ref 15]) (h' := h) (cl' := 0) (sl' := 0) rfl ?_
  refine fw_mul rfl ?_
  refine ik_Wk 1 (pc' := 14) (loc' := [some (.ref 54), some (fI 0), some (.ref 7), some (.ref 15), some (fI ka), none, none, none, none]) (st' := [fI 2, fI 0, .ref 15]) (h' := h) (cl' := 0) (sl' := 0) rfl ?_
  refine fw_add rfl ?_
  refine fw_ial (z := 2) rfl h15 (by decide) (Nat.le_of_ble_eq_true rfl) (by decide) ?_
  refine ik_Wk 0 (pc' := 16) (loc' := [some (.ref 54), some (fI 0), some (.ref 7), some (.ref 15), some (fI ka), none, none, none, none]) (st' := [fI fa]) (h' := h) (cl' := 0) (sl' := 0) rfl ?_
  refine ik_Wk 3 (pc' := 21) (loc' := [some (.ref 54), some (fI 0), some (.ref 7), some (.ref 15), some (fI ka), some (fI fa), some (fI 0), none, none]) (st' := []) (h' := h) (cl' := 0) (sl' := 0) rfl ?_
  exact cs_wrong0L (pl := pl) (lo := lo) (s := s) (n0 := n0) (n1 := n1) (ka := ka) (pa := pa) (fa := fa) (kb := kb) (pb := pb) (fb := fb) (lr := lr) (wg := wg) (wc := wc) (we := we) (W := W) q0 q1 q2 q3 q4 q5 q6 q7  (n0.toNat + 1) 0 none none h h7 h11 n11 h12 n12 h13 n13 h15 h54 h55 n55 h56 hl (hfr_refl [] h) (by omega) (by rw [Int.sub_zero]) rfl rfl (by omega)

theorem cs_wrong1L {h : List ik_E} {pl : Int} {lo : Int} {s : Nat} {n0 : Int} {n1 : Int} {ka : Int} {pa : Int} {fa : Int} {kb : Int} {pb : Int} {fb : Int} {lr : List Int} {wg : List Int} {wc : List Int} {we : List Int} {W : Int → List (Int × Int)} (q0 : 0 ≤ pl ∧ pl ≤ 12) (q1 : ∀ x : Int, 0 ≤ x → x < pl - 1 → mx_wy wg wc we x (W x)) (q2 : ∀ x : Int, 0 ≤ x → x < pl - 1 → mx_ok pl (W x)) (q3 : 0 ≤ kb ∧ kb ≤ 2) (q4 : 0 ≤ pb ∧ pb ≤ 11) (q5 : 0 ≤ fb ∧ fb ≤ 30) (q6 : 0 ≤ n1 ∧ n1 ≤ 40) (q7 : ∀ j : Nat, (j : Int) < n1 → lr.getD (40 + j) 0 = 12 ∨ (0 ≤ lr.getD (40 + j) 0 ∧ lr.getD (40 + j) 0 < pl))  : ∀ (k : Nat) (i : Int) (x7 : Option Value) (x8 : Option Value) (u : List ik_E) (u7 : cE u 7 (.inr (0, [fI pl, fI ((s : Nat) : Int), fI lo, .ref 8, .ref 9, .ref 10, .ref 11, .ref 12, .ref 13]))) (u11 : cE u 11 (.inl (.int, fA wg))) (n11 : wg.length = 60) (u12 : cE u 12 (.inl (.int, fA wc))) (n12 : wc.length = 60) (u13 : cE u 13 (.inl (.int, fA we))) (n13 : we.length = 12) (u15 : cE u 15 (.inl (.int, fA [ka, pa, fa, kb, pb, fb]))) (u54 : cE u 54 (.inr (4, [.ref 55, .ref 56]))) (u55 : cE u 55 (.inl (.int, fA lr))) (n55 : lr.length = 80) (u56 : cE u 56 (.inl (.int, fA [n0, n1]))) (ul : u.length = 94) (F : hfr [] h u) (hi : 0 ≤ i ∧ i ≤ n1) (he : mj_fw (mj_ok W pl kb pb fb lr 40) n1.toNat 0 = mj_fw (mj_ok W pl kb pb fb lr 40) (n1 - i).toNat i) (w7 : ik_wl 94 x7 = true) (w8 : ik_wl 94 x8 = true) (hk : n1 - i < (k : Int)), ik_G 39 21 [some (.ref 54), some (fI 1), some (.ref 7), some (.ref 15), some (fI kb), some (fI fb), some (fI i), x7, x8] [] u (fun rv h' => rv = [fI (mj_fw (mj_ok W pl kb pb fb lr 40) n1.toNat 0)] ∧ hfr [] h h') := by
  intro k
  induction k with
  | zero => intro i x7 x8 u u7 u11 n11 u12 n12 u13 n13 u15 u54 u55 n55 u56 ul F hi he w7 w8 hk; omega
  | succ k ih =>
    intro i x7 x8 u u7 u11 n11 u12 n12 u13 n13 u15 u54 u55 n55 u56 ul F hi he w7 w8 hk
    refine ik_Wk 2 (pc' := 24) (loc' := [some (.ref 54), some (fI 1), some (.ref 7), some (.ref 15), some (fI kb), some (fI fb), some (fI i), x7, x8]) (st' := [.ref 54, fI i]) (h' := u) (cl' := 0) (sl' := 0) rfl ?_
    refine fw_gf rfl rfl u54 rfl ?_
    refine ik_Wk 1 (pc' := 28) (loc' := [some (.ref 54), some (fI 1), some (.ref 7), some (.ref 15), some (fI kb), some (fI fb), some (fI i), x7, x8]) (st' := [fI 1, .ref 56, fI i]) (h' := u) (cl' := 0) (sl' := 0) rfl ?_
    refine fw_ial (z := 1) rfl u56 (by decide) (Nat.le_of_ble_eq_true rfl) (by decide) ?_
    refine ik_Wk 0 (pc' := 29) (loc' := [some (.ref 54), some (fI 1), some (.ref 7), some (.ref 15), some (fI kb), some (fI fb), some (fI i), x7, x8]) (st' := [fI n1, fI i]) (h' := u) (cl' := 0) (sl' := 0) rfl ?_
    refine fw_ic_ge rfl rfl (by omega) (by omega) (by omega) (by omega) (fun hc1 => ?_) (fun hc1 => ?_)
    · refine ik_Wk 1 (pc' := 146) (loc' := [some (.ref 54), some (fI 1), some (.ref 7), some (.ref 15), some (fI kb), some (fI fb), some (fI i), x7, x8]) (st' := [fI (-1)]) (h' := u) (cl' := 0) (sl' := 0) rfl ?_
      rw [show (n1 - i).toNat = 0 by omega] at he
      exact ik_Wret rfl rfl ⟨_, _, rfl, rfl, rfl, rfl, ⟨(congrArg (fun z => [fI z]) he.symm), F⟩⟩
    · refine ik_Wk 1 (pc' := 33) (loc' := [some (.ref 54), some (fI 1), some (.ref 7), some (.ref 15), some (fI kb), some (fI fb), some (fI i), x7, x8]) (st' := [.ref 54]) (h' := u) (cl' := 0) (sl' := 0) rfl ?_
      refine fw_gf rfl rfl u54 rfl ?_
      refine ik_Wk 1 (pc' := 37) (loc' := [some (.ref 54), some (fI 1), some (.ref 7), some (.ref 15), some (fI kb), some (fI fb), some (fI i), x7, x8]) (st' := [fI 1, .ref 55]) (h' := u) (cl' := 0) (sl' := 0) rfl ?_
      refine fw_bi rfl (by decide) ?_
      refine fw_mul rfl ?_
      refine ik_Wk 1 (pc' := 42) (loc' := [some (.ref 54), some (fI 1), some (.ref 7), some (.ref 15), some (fI kb), some (fI fb), some (fI i), x7, x8]) (st' := [fI i, fI 40, .ref 55]) (h' := u) (cl' := 0) (sl' := 0) rfl ?_
      refine fw_add rfl ?_
      refine fw_ial rfl u55 (by omega) (by omega) (by omega) ?_
      have hl2 := q7 i.toNat (by omega)
      rw [show 40 + i.toNat = (40 + i).toNat by omega] at hl2
      refine ik_Wk 3 (pc' := 50) (loc' := [some (.ref 54), some (fI 1), some (.ref 7), some (.ref 15), some (fI kb), some (fI fb), some (fI i), some (fI (lr.getD (40 + i).toNat 0)), x8]) (st' := [fI fb, fI i]) (h' := u) (cl' := 0) (sl' := 0) rfl ?_
      refine fw_ic_ge rfl rfl (by omega) (by omega) (by omega) (by omega) (fun hc3 => ?_) (fun hc3 => ?_)
      · refine ik_Wk 2 (pc' := 74) (loc' := [some (.ref 54), some (fI 1), some (.ref 7), some (.ref 15), some (fI kb), some (fI fb), some (fI i), some (fI (lr.getD (40 + i).toNat 0)), x8]) (st' := [fI fb, fI i]) (h' := u) (cl' := 0) (sl' := 0) rfl ?_
        refine fw_ic_ne rfl rfl (by omega) (by omega) (by omega) (by omega) (fun hc4 => ?_) (fun hc4 => ?_)
        · refine ik_Wk 4 (pc' := 82) (loc' := [some (.ref 54), some (fI 1), some (.ref 7), some (.ref 15), some (fI kb), some (fI fb), some (fI i), some (fI (lr.getD (40 + i).toNat 0)), x8]) (st' := [fI 3, fI 1, .ref 15, fI (lr.getD (40 + i).toNat 0)]) (h' := u) (cl' := 0) (sl' := 0) rfl ?_
          refine fw_mul rfl ?_
          refine ik_Wk 1 (pc' := 84) (loc' := [some (.ref 54), some (fI 1), some (.ref 7), some (.ref 15), some (fI kb), some (fI fb), some (fI i), some (fI (lr.getD (40 + i).toNat 0)), x8]) (st' := [fI 1, fI 3, .ref 15, fI (lr.getD (40 + i).toNat 0)]) (h' := u) (cl' := 0) (sl' := 0) rfl ?_
          refine fw_add rfl ?_
          refine fw_ial (z := 4) rfl u15 (by decide) (Nat.le_of_ble_eq_true rfl) (by decide) ?_
          refine ik_Wk 0 (pc' := 86) (loc' := [some (.ref 54), some (fI 1), some (.ref 7), some (.ref 15), some (fI kb), some (fI fb), some (fI i), some (fI (lr.getD (40 + i).toNat 0)), x8]) (st' := [fI pb, fI (lr.getD (40 + i).toNat 0)]) (h' := u) (cl' := 0) (sl' := 0) rfl ?_
          refine fw_ic_ne rfl rfl (by omega) (by omega) (by omega) (by omega) (fun hc5 => ?_) (fun hc5 => ?_)
          · refine ik_Wk 5 (pc' := 133) (loc' := [some (.ref 54), some (fI 1), some (.ref 7), some (.ref 15), some (fI kb), some (fI fb), some (fI i), some (fI (lr.getD (40 + i).toNat 0)), some (fI 1)]) (st' := [fI 1]) (h' := u) (cl' := 0) (sl' := 0) rfl ?_
            refine fw_if_ne rfl rfl (by omega) (by omega) (fun hc6 => absurd hc6 (by omega)) (fun hc6 => ?_)
            refine fw_inc (a := i) (loc' := [some (.ref 54), some (fI 1), some (.ref 7), some (.ref 15), some (fI kb), some (fI fb), some (fI (i + 1)), some (fI (lr.getD (40 + i).toNat 0)), some (fI 1)]) rfl rfl (Nat.le_of_ble_eq_true rfl) rfl ?_
            refine ik_Wk 1 (pc' := 21) (loc' := [some (.ref 54), some (fI 1), some (.ref 7), some (.ref 15), some (fI kb), some (fI fb), some (fI (i + 1)), some (fI (lr.getD (40 + i).toNat 0)), some (fI 1)]) (st' := []) (h' := u) (cl' := 0) (sl' := 0) rfl ?_
            have hG : (mj_ok W pl kb pb fb lr 40) i = true := by
              show (if i < fb then _ else if i = fb then _ else _) = _
              split
              · exact decide_eq_true (by omega)
              · first | exact decide_eq_true (by omega) | (rw [if_pos (by omega)]; exact decide_eq_true (by omega))
            exact ih  (i + 1) (some (fI (lr.getD (40 + i).toNat 0))) (some (fI 1)) u u7 u11 n11 u12 n12 u13 n13 u15 u54 u55 n55 u56 ul F (by omega) (by rw [he, mj_fw_s (by omega), hG, if_pos rfl]) rfl rfl (by omega)
          · refine ik_Wk 4 (pc' := 133) (loc' := [some (.ref 54), some (fI 1), some (.ref 7), some (.ref 15), some (fI kb), some (fI fb), some (fI i), some (fI (lr.getD (40 + i).toNat 0)), some (fI 0)]) (st' := [fI 0]) (h' := u) (cl' := 0) (sl' := 0) rfl ?_
            refine fw_if_ne rfl rfl (by omega) (by omega) (fun hc7 => ?_) (fun hc7 => absurd hc7 (by omega))
            refine ik_Wk 1 (pc' := 138) (loc' := [some (.ref 54), some (fI 1), some (.ref 7), some (.ref 15), some (fI kb), some (fI fb), some (fI i), some (fI (lr.getD (40 + i).toNat 0)), some (fI 0)]) (st' := [fI i]) (h' := u) (cl' := 0) (sl' := 0) rfl ?_
            have hG : (mj_ok W pl kb pb fb lr 40) i = false := by
              show (if i < fb then _ else if i = fb then _ else _) = _
              split
              · exact decide_eq_false (by omega)
              · first | exact decide_eq_false (by omega) | (rw [if_pos (by omega)]; exact decide_eq_false (by omega))
            exact ik_Wret rfl rfl ⟨_, _, rfl, rfl, rfl, rfl, ⟨(congrArg (fun z => [fI z]) (by rw [he, mj_fw_s (by omega), hG, if_neg (by decide)])), F⟩⟩
        · refine ik_Wk 2 (pc' := 101) (loc' := [some (.ref 54), some (fI 1), some (.ref 7), some (.ref 15), some (fI kb), some (fI fb), some (fI i), some (fI (lr.getD (40 + i).toNat 0)), x8]) (st' := [.ref 54, .ref 7]) (h' := u) (cl' := 0) (sl' := 0) rfl ?_
          refine fw_gf rfl rfl u54 rfl ?_
          refine ik_Wk 1 (pc' := 105) (loc' := [some (.ref 54), some (fI 1), some (.ref 7), some (.ref 15), some (fI kb), some (fI fb), some (fI i), some (fI (lr.getD (40 + i).toNat 0)), x8]) (st' := [fI 1, .ref 55, .ref 7]) (h' := u) (cl' := 0) (sl' := 0) rfl ?_
          refine fw_bi rfl (by decide) ?_
          refine fw_mul rfl ?_
          refine ik_Wk 1 (pc' := 110) (loc' := [some (.ref 54), some (fI 1), some (.ref 7), some (.ref 15), some (fI kb), some (fI fb), some (fI i), some (fI (lr.getD (40 + i).toNat 0)), x8]) (st' := [fI i, fI 40, .ref 55, .ref 7]) (h' := u) (cl' := 0) (sl' := 0) rfl ?_
          refine fw_add rfl ?_
          refine ik_Wk 1 (pc' := 112) (loc' := [some (.ref 54), some (fI 1), some (.ref 7), some (.ref 15), some (fI kb), some (fI fb), some (fI i), some (fI (lr.getD (40 + i).toNat 0)), x8]) (st' := [fI 1, fI (40 + i), .ref 55, .ref 7]) (h' := u) (cl' := 0) (sl' := 0) rfl ?_
          refine fw_sub rfl ?_
          refine fw_ial rfl u55 (by omega) (by omega) (by omega) ?_
          have hl8 := q7 (i - 1).toNat (by omega)
          rw [show 40 + (i - 1).toNat = ((40 + i) - 1).toNat by omega] at hl8
          refine ik_Wk 4 (pc' := 122) (loc' := [some (.ref 54), some (fI 1), some (.ref 7), some (.ref 15), some (fI kb), some (fI fb), some (fI i), some (fI (lr.getD (40 + i).toNat 0)), x8]) (st' := [fI fb, fI i, fI kb, fI (lr.getD (40 + i).toNat 0), fI (lr.getD ((40 + i) - 1).toNat 0), .ref 7]) (h' := u) (cl' := 0) (sl' := 0) rfl ?_
          refine fw_sub rfl ?_
          refine ik_Wc 125 2 4 [fI kb, fI (i - fb)] [fI (lr.getD (40 + i).toNat 0), fI (lr.getD ((40 + i) - 1).toNat 0), .ref 7] rfl rfl rfl (by decide) rfl rfl (fw_sta ul (fw_ftx rfl (wv_c rfl (wv_c rfl (wv_c rfl wv_n))) (wl_c rfl (wl_c rfl (wl_c rfl (wl_c rfl (wl_c rfl (wl_c rfl (wl_c rfl (wl_c rfl (wl_c w8 wl_n)))))))))) (by decide)) ?_
          refine ik_Wk 0 (pc' := 0) (loc' := [some (fI kb), some (fI (i - fb))]) (st' := []) (h' := u) (cl' := 0) (sl' := 0) rfl ?_
          refine ik_Wk 2 (pc' := 2) (loc' := [some (fI kb), some (fI (i - fb))]) (st' := [fI 1, fI kb]) (h' := u) (cl' := 0) (sl' := 0) rfl ?_
          refine fw_ic_ne rfl rfl (by omega) (by omega) (by omega) (by omega) (fun hc9 => ?_) (fun hc9 => ?_)
          · refine ik_Wk 1 (pc' := 6) (loc' := [some (fI kb), some (fI (i - fb))]) (st' := [fI 2]) (h' := u) (cl' := 0) (sl' := 0) rfl ?_
            refine ik_Wret rfl rfl ⟨_, _, rfl, rfl, ?_⟩
            refine ik_Wk 0 (pc' := 126) (loc' := [some (.ref 54), some (fI 1), some (.ref 7), some (.ref 15), some (fI kb), some (fI fb), some (fI i), some (fI (lr.getD (40 + i).toNat 0)), x8]) (st' := [fI 2, fI (lr.getD (40 + i).toNat 0), fI (lr.getD ((40 + i) - 1).toNat 0), .ref 7]) (h' := u) (cl' := 0) (sl' := 0) rfl ?_
            refine fw_call 19 4 0 [.ref 7, fI (lr.getD ((40 + i) - 1).toNat 0), fI (lr.getD (40 + i).toNat 0), fI 2] [] rfl rfl rfl (by decide) rfl rfl (fw_rec ul (fw_ftx rfl wv_n (wl_c rfl (wl_c rfl (wl_c rfl (wl_c rfl (wl_c rfl (wl_c rfl (wl_c rfl (wl_c rfl (wl_c w8 wl_n)))))))))) u7 rfl (by decide)) (cs_leads (p := lr.getD ((40 + i) - 1).toNat 0) (q := lr.getD (40 + i).toNat 0) (n := 2) (pl := pl) (lo := lo) (s := s) (wg := wg) (wc := wc) (we := we) (by omega) q1 q2 (by omega) (by omega) (by omega) u7 u11 n11 u12 n12 u13 n13 ul) ?_
            rintro _ h_336 (⟨rfl, p_336_0, F_336⟩ | ⟨rfl, p_336_0, F_336⟩)
            · have k_336 := F_336.1.trans ul
              have fr_336 := hfr_c F F_336 (by decide)
              have g_336_7 := (F_336.2 7 (by decide +kernel)).trans u7
              have g_336_11 := (F_336.2 11 (by decide +kernel)).trans u11
              have g_336_12 := (F_336.2 12 (by decide +kernel)).trans u12
              have g_336_13 := (F_336.2 13 (by decide +kernel)).trans u13
              have g_336_15 := (F_336.2 15 (by decide +kernel)).trans u15
              have g_336_54 := (F_336.2 54 (by decide +kernel)).trans u54
              have g_336_55 := (F_336.2 55 (by decide +kernel)).trans u55
              have g_336_56 := (F_336.2 56 (by decide +kernel)).trans u56
              refine ik_Wk 0 (pc' := 129) (loc' := [some (.ref 54), some (fI 1), some (.ref 7), some (.ref 15), some (fI kb), some (fI fb), some (fI i), some (fI (lr.getD (40 + i).toNat 0)), x8]) (st' := [fI 1]) (h' := h_336) (cl' := 0) (sl' := 0) rfl ?_
              refine ik_Wk 2 (pc' := 133) (loc' := [some (.ref 54), some (fI 1), some (.ref 7), some (.ref 15), some (fI kb), some (fI fb), some (fI i), some (fI (lr.getD (40 + i).toNat 0)), some (fI 1)]) (st' := [fI 1]) (h' := h_336) (cl' := 0) (sl' := 0) rfl ?_
              refine fw_if_ne rfl rfl (by omega) (by omega) (fun hc10 => absurd hc10 (by omega)) (fun hc10 => ?_)
              refine fw_inc (a := i) (loc' := [some (.ref 54), some (fI 1), some (.ref 7), some (.ref 15), some (fI kb), some (fI fb), some (fI (i + 1)), some (fI (lr.getD (40 + i).toNat 0)), some (fI 1)]) rfl rfl (Nat.le_of_ble_eq_true rfl) rfl ?_
              refine ik_Wk 1 (pc' := 21) (loc' := [some (.ref 54), some (fI 1), some (.ref 7), some (.ref 15), some (fI kb), some (fI fb), some (fI (i + 1)), some (fI (lr.getD (40 + i).toNat 0)), some (fI 1)]) (st' := []) (h' := h_336) (cl' := 0) (sl' := 0) rfl ?_
              have et : mx_tm kb (i - fb) = 2 := by unfold mx_tm; (repeat' split) <;> omega
              have hG : (mj_ok W pl kb pb fb lr 40) i = true := by
                show (if i < fb then _ else if i = fb then _ else _) = _
                rw [if_neg (by omega), if_neg (by omega), et]
                exact p_336_0
              exact ih  (i + 1) (some (fI (lr.getD (40 + i).toNat 0))) (some (fI 1)) h_336 g_336_7 g_336_11 n11 g_336_12 n12 g_336_13 n13 g_336_15 g_336_54 g_336_55 n55 g_336_56 k_336 fr_336 (by omega) (by rw [he, mj_fw_s (by omega), hG, if_pos rfl]) rfl rfl (by omega)
            · have k_336 := F_336.1.trans ul
              have fr_336 := hfr_c F F_336 (by decide)
              have g_336_7 := (F_336.2 7 (by decide +kernel)).trans u7
              have g_336_11 := (F_336.2 11 (by decide +kernel)).trans u11
              have g_336_12 := (F_336.2 12 (by decide +kernel)).trans u12
              have g_336_13 := (F_336.2 13 (by decide +kernel)).trans u13
              have g_336_15 := (F_336.2 15 (by decide +kernel)).trans u15
              have g_336_54 := (F_336.2 54 (by decide +kernel)).trans u54
              have g_336_55 := (F_336.2 55 (by decide +kernel)).trans u55
              have g_336_56 := (F_336.2 56 (by decide +kernel)).trans u56
              refine ik_Wk 0 (pc' := 129) (loc' := [some (.ref 54), some (fI 1), some (.ref 7), some (.ref 15), some (fI kb), some (fI fb), some (fI i), some (fI (lr.getD (40 + i).toNat 0)), x8]) (st' := [fI 0]) (h' := h_336) (cl' := 0) (sl' := 0) rfl ?_
              refine ik_Wk 2 (pc' := 133) (loc' := [some (.ref 54), some (fI 1), some (.ref 7), some (.ref 15), some (fI kb), some (fI fb), some (fI i), some (fI (lr.getD (40 + i).toNat 0)), some (fI 0)]) (st' := [fI 0]) (h' := h_336) (cl' := 0) (sl' := 0) rfl ?_
              refine fw_if_ne rfl rfl (by omega) (by omega) (fun hc11 => ?_) (fun hc11 => absurd hc11 (by omega))
              refine ik_Wk 1 (pc' := 138) (loc' := [some (.ref 54), some (fI 1), some (.ref 7), some (.ref 15), some (fI kb), some (fI fb), some (fI i), some (fI (lr.getD (40 + i).toNat 0)), some (fI 0)]) (st' := [fI i]) (h' := h_336) (cl' := 0) (sl' := 0) rfl ?_
              have et : mx_tm kb (i - fb) = 2 := by unfold mx_tm; (repeat' split) <;> omega
              have hG : (mj_ok W pl kb pb fb lr 40) i = false := by
                show (if i < fb then _ else if i = fb then _ else _) = _
                rw [if_neg (by omega), if_neg (by omega), et]
                exact p_336_0
              exact ik_Wret rfl rfl ⟨_, _, rfl, rfl, rfl, rfl, ⟨(congrArg (fun z => [fI z]) (by rw [he, mj_fw_s (by omega), hG, if_neg (by decide)])), fr_336⟩⟩
          · refine ik_Wk 2 (pc' := 9) (loc' := [some (fI kb), some (fI (i - fb))]) (st' := [fI 2, fI kb]) (h' := u) (cl' := 0) (sl' := 0) rfl ?_
            refine fw_ic_ne rfl rfl (by omega) (by omega) (by omega) (by omega) (fun hc12 => ?_) (fun hc12 => ?_)
            · refine ik_Wk 2 (pc' := 14) (loc' := [some (fI kb), some (fI (i - fb))]) (st' := [fI 2, fI (i - fb)]) (h' := u) (cl' := 0) (sl' := 0) rfl ?_
              refine fx_irem rfl (by omega) (by omega) (by omega) (by omega) ?_
              refine fw_if_eq rfl rfl (by omega) (by omega) (fun hc13 => ?_) (fun hc13 => ?_)
              · refine ik_Wk 1 (pc' := 23) (loc' := [some (fI kb), some (fI (i - fb))]) (st' := [fI 1]) (h' := u) (cl' := 0) (sl' := 0) rfl ?_
                refine ik_Wret rfl rfl ⟨_, _, rfl, rfl, ?_⟩
                refine ik_Wk 0 (pc' := 126) (loc' := [some (.ref 54), some (fI 1), some (.ref 7), some (.ref 15), some (fI kb), some (fI fb), some (fI i), some (fI (lr.getD (40 + i).toNat 0)), x8]) (st' := [fI 1, fI (lr.getD (40 + i).toNat 0), fI (lr.getD ((40 + i) - 1).toNat 0), .ref 7]) (h' := u) (cl' := 0) (sl' := 0) rfl ?_
                refine fw_call 19 4 0 [.ref 7, fI (lr.getD ((40 + i) - 1).toNat 0), fI (lr.getD (40 + i).toNat 0), fI 1] [] rfl rfl rfl (by decide) rfl rfl (fw_rec ul (fw_ftx rfl wv_n (wl_c rfl (wl_c rfl (wl_c rfl (wl_c rfl (wl_c rfl (wl_c rfl (wl_c rfl (wl_c rfl (wl_c w8 wl_n)))))))))) u7 rfl (by decide)) (cs_leads (p := lr.getD ((40 + i) - 1).toNat 0) (q := lr.getD (40 + i).toNat 0) (n := 1) (pl := pl) (lo := lo) (s := s) (wg := wg) (wc := wc) (we := we) (by omega) q1 q2 (by omega) (by omega) (by omega) u7 u11 n11 u12 n12 u13 n13 ul) ?_
                rintro _ h_337 (⟨rfl, p_337_0, F_337⟩ | ⟨rfl, p_337_0, F_337⟩)
                · have k_337 := F_337.1.trans ul
                  have fr_337 := hfr_c F F_337 (by decide)
                  have g_337_7 := (F_337.2 7 (by decide +kernel)).trans u7
                  have g_337_11 := (F_337.2 11 (by decide +kernel)).trans u11
                  have g_337_12 := (F_337.2 12 (by decide +kernel)).trans u12
                  have g_337_13 := (F_337.2 13 (by decide +kernel)).trans u13
                  have g_337_15 := (F_337.2 15 (by decide +kernel)).trans u15
                  have g_337_54 := (F_337.2 54 (by decide +kernel)).trans u54
                  have g_337_55 := (F_337.2 55 (by decide +kernel)).trans u55
                  have g_337_56 := (F_337.2 56 (by decide +kernel)).trans u56
                  refine ik_Wk 0 (pc' := 129) (loc' := [some (.ref 54), some (fI 1), some (.ref 7), some (.ref 15), some (fI kb), some (fI fb), some (fI i), some (fI (lr.getD (40 + i).toNat 0)), x8]) (st' := [fI 1]) (h' := h_337) (cl' := 0) (sl' := 0) rfl ?_
                  refine ik_Wk 2 (pc' := 133) (loc' := [some (.ref 54), some (fI 1), some (.ref 7), some (.ref 15), some (fI kb), some (fI fb), some (fI i), some (fI (lr.getD (40 + i).toNat 0)), some (fI 1)]) (st' := [fI 1]) (h' := h_337) (cl' := 0) (sl' := 0) rfl ?_
                  refine fw_if_ne rfl rfl (by omega) (by omega) (fun hc14 => absurd hc14 (by omega)) (fun hc14 => ?_)
                  refine fw_inc (a := i) (loc' := [some (.ref 54), some (fI 1), some (.ref 7), some (.ref 15), some (fI kb), some (fI fb), some (fI (i + 1)), some (fI (lr.getD (40 + i).toNat 0)), some (fI 1)]) rfl rfl (Nat.le_of_ble_eq_true rfl) rfl ?_
                  refine ik_Wk 1 (pc' := 21) (loc' := [some (.ref 54), some (fI 1), some (.ref 7), some (.ref 15), some (fI kb), some (fI fb), some (fI (i + 1)), some (fI (lr.getD (40 + i).toNat 0)), some (fI 1)]) (st' := []) (h' := h_337) (cl' := 0) (sl' := 0) rfl ?_
                  have et : mx_tm kb (i - fb) = 1 := by unfold mx_tm; (repeat' split) <;> omega
                  have hG : (mj_ok W pl kb pb fb lr 40) i = true := by
                    show (if i < fb then _ else if i = fb then _ else _) = _
                    rw [if_neg (by omega), if_neg (by omega), et]
                    exact p_337_0
                  exact ih  (i + 1) (some (fI (lr.getD (40 + i).toNat 0))) (some (fI 1)) h_337 g_337_7 g_337_11 n11 g_337_12 n12 g_337_13 n13 g_337_15 g_337_54 g_337_55 n55 g_337_56 k_337 fr_337 (by omega) (by rw [he, mj_fw_s (by omega), hG, if_pos rfl]) rfl rfl (by omega)
                · have k_337 := F_337.1.trans ul
                  have fr_337 := hfr_c F F_337 (by decide)
                  have g_337_7 := (F_337.2 7 (by decide +kernel)).trans u7
                  have g_337_11 := (F_337.2 11 (by decide +kernel)).trans u11
                  have g_337_12 := (F_337.2 12 (by decide +kernel)).trans u12
                  have g_337_13 := (F_337.2 13 (by decide +kernel)).trans u13
                  have g_337_15 := (F_337.2 15 (by decide +kernel)).trans u15
                  have g_337_54 := (F_337.2 54 (by decide +kernel)).trans u54
                  have g_337_55 := (F_337.2 55 (by decide +kernel)).trans u55
                  have g_337_56 := (F_337.2 56 (by decide +kernel)).trans u56
                  refine ik_Wk 0 (pc' := 129) (loc' := [some (.ref 54), some (fI 1), some (.ref 7), some (.ref 15), some (fI kb), some (fI fb), some (fI i), some (fI (lr.getD (40 + i).toNat 0)), x8]) (st' := [fI 0]) (h' := h_337) (cl' := 0) (sl' := 0) rfl ?_
                  refine ik_Wk 2 (pc' := 133) (loc' := [some (.ref 54), some (fI 1), some (.ref 7), some (.ref 15), some (fI kb), some (fI fb), some (fI i), some (fI (lr.getD (40 + i).toNat 0)), some (fI 0)]) (st' := [fI 0]) (h' := h_337) (cl' := 0) (sl' := 0) rfl ?_
                  refine fw_if_ne rfl rfl (by omega) (by omega) (fun hc15 => ?_) (fun hc15 => absurd hc15 (by omega))
                  refine ik_Wk 1 (pc' := 138) (loc' := [some (.ref 54), some (fI 1), some (.ref 7), some (.ref 15), some (fI kb), some (fI fb), some (fI i), some (fI (lr.getD (40 + i).toNat 0)), some (fI 0)]) (st' := [fI i]) (h' := h_337) (cl' := 0) (sl' := 0) rfl ?_
                  have et : mx_tm kb (i - fb) = 1 := by unfold mx_tm; (repeat' split) <;> omega
                  have hG : (mj_ok W pl kb pb fb lr 40) i = false := by
                    show (if i < fb then _ else if i = fb then _ else _) = _
                    rw [if_neg (by omega), if_neg (by omega), et]
                    exact p_337_0
                  exact ik_Wret rfl rfl ⟨_, _, rfl, rfl, rfl, rfl, ⟨(congrArg (fun z => [fI z]) (by rw [he, mj_fw_s (by omega), hG, if_neg (by decide)])), fr_337⟩⟩
              · refine ik_Wk 2 (pc' := 23) (loc' := [some (fI kb), some (fI (i - fb))]) (st' := [fI 0]) (h' := u) (cl' := 0) (sl' := 0) rfl ?_
                refine ik_Wret rfl rfl ⟨_, _, rfl, rfl, ?_⟩
                refine ik_Wk 0 (pc' := 126) (loc' := [some (.ref 54), some (fI 1), some (.ref 7), some (.ref 15), some (fI kb), some (fI fb), some (fI i), some (fI (lr.getD (40 + i).toNat 0)), x8]) (st' := [fI 0, fI (lr.getD (40 + i).toNat 0), fI (lr.getD ((40 + i) - 1).toNat 0), .ref 7]) (h' := u) (cl' := 0) (sl' := 0) rfl ?_
                refine fw_call 19 4 0 [.ref 7, fI (lr.getD ((40 + i) - 1).toNat 0), fI (lr.getD (40 + i).toNat 0), fI 0] [] rfl rfl rfl (by decide) rfl rfl (fw_rec ul (fw_ftx rfl wv_n (wl_c rfl (wl_c rfl (wl_c rfl (wl_c rfl (wl_c rfl (wl_c rfl (wl_c rfl (wl_c rfl (wl_c w8 wl_n)))))))))) u7 rfl (by decide)) (cs_leads (p := lr.getD ((40 + i) - 1).toNat 0) (q := lr.getD (40 + i).toNat 0) (n := 0) (pl := pl) (lo := lo) (s := s) (wg := wg) (wc := wc) (we := we) (by omega) q1 q2 (by omega) (by omega) (by omega) u7 u11 n11 u12 n12 u13 n13 ul) ?_
                rintro _ h_338 (⟨rfl, p_338_0, F_338⟩ | ⟨rfl, p_338_0, F_338⟩)
                · have k_338 := F_338.1.trans ul
                  have fr_338 := hfr_c F F_338 (by decide)
                  have g_338_7 := (F_338.2 7 (by decide +kernel)).trans u7
                  have g_338_11 := (F_338.2 11 (by decide +kernel)).trans u11
                  have g_338_12 := (F_338.2 12 (by decide +kernel)).trans u12
                  have g_338_13 := (F_338.2 13 (by decide +kernel)).trans u13
                  have g_338_15 := (F_338.2 15 (by decide +kernel)).trans u15
                  have g_338_54 := (F_338.2 54 (by decide +kernel)).trans u54
                  have g_338_55 := (F_338.2 55 (by decide +kernel)).trans u55
                  have g_338_56 := (F_338.2 56 (by decide +kernel)).trans u56
                  refine ik_Wk 0 (pc' := 129) (loc' := [some (.ref 54), some (fI 1), some (.ref 7), some (.ref 15), some (fI kb), some (fI fb), some (fI i), some (fI (lr.getD (40 + i).toNat 0)), x8]) (st' := [fI 1]) (h' := h_338) (cl' := 0) (sl' := 0) rfl ?_
                  refine ik_Wk 2 (pc' := 133) (loc' := [some (.ref 54), some (fI 1), some (.ref 7), some (.ref 15), some (fI kb), some (fI fb), some (fI i), some (fI (lr.getD (40 + i).toNat 0)), some (fI 1)]) (st' := [fI 1]) (h' := h_338) (cl' := 0) (sl' := 0) rfl ?_
                  refine fw_if_ne rfl rfl (by omega) (by omega) (fun hc16 => absurd hc16 (by omega)) (fun hc16 => ?_)
                  refine fw_inc (a := i) (loc' := [some (.ref 54), some (fI 1), some (.ref 7), some (.ref 15), some (fI kb), some (fI fb), some (fI (i + 1)), some (fI (lr.getD (40 + i).toNat 0)), some (fI 1)]) rfl rfl (Nat.le_of_ble_eq_true rfl) rfl ?_
                  refine ik_Wk 1 (pc' := 21) (loc' := [some (.ref 54), some (fI 1), some (.ref 7), some (.ref 15), some (fI kb), some (fI fb), some (fI (i + 1)), some (fI (lr.getD (40 + i).toNat 0)), some (fI 1)]) (st' := []) (h' := h_338) (cl' := 0) (sl' := 0) rfl ?_
                  have et : mx_tm kb (i - fb) = 0 := by unfold mx_tm; (repeat' split) <;> omega
                  have hG : (mj_ok W pl kb pb fb lr 40) i = true := by
                    show (if i < fb then _ else if i = fb then _ else _) = _
                    rw [if_neg (by omega), if_neg (by omega), et]
                    exact p_338_0
                  exact ih  (i + 1) (some (fI (lr.getD (40 + i).toNat 0))) (some (fI 1)) h_338 g_338_7 g_338_11 n11 g_338_12 n12 g_338_13 n13 g_338_15 g_338_54 g_338_55 n55 g_338_56 k_338 fr_338 (by omega) (by rw [he, mj_fw_s (by omega), hG, if_pos rfl]) rfl rfl (by omega)
                · have k_338 := F_338.1.trans ul
                  have fr_338 := hfr_c F F_338 (by decide)
                  have g_338_7 := (F_338.2 7 (by decide +kernel)).trans u7
                  have g_338_11 := (F_338.2 11 (by decide +kernel)).trans u11
                  have g_338_12 := (F_338.2 12 (by decide +kernel)).trans u12
                  have g_338_13 := (F_338.2 13 (by decide +kernel)).trans u13
                  have g_338_15 := (F_338.2 15 (by decide +kernel)).trans u15
                  have g_338_54 := (F_338.2 54 (by decide +kernel)).trans u54
                  have g_338_55 := (F_338.2 55 (by decide +kernel)).trans u55
                  have g_338_56 := (F_338.2 56 (by decide +kernel)).trans u56
                  refine ik_Wk 0 (pc' := 129) (loc' := [some (.ref 54), some (fI 1), some (.ref 7), some (.ref 15), some (fI kb), some (fI fb), some (fI i), some (fI (lr.getD (40 + i).toNat 0)), x8]) (st' := [fI 0]) (h' := h_338) (cl' := 0) (sl' := 0) rfl ?_
                  refine ik_Wk 2 (pc' := 133) (loc' := [some (.ref 54), some (fI 1), some (.ref 7), some (.ref 15), some (fI kb), some (fI fb), some (fI i), some (fI (lr.getD (40 + i).toNat 0)), some (fI 0)]) (st' := [fI 0]) (h' := h_338) (cl' := 0) (sl' := 0) rfl ?_
                  refine fw_if_ne rfl rfl (by omega) (by omega) (fun hc17 => ?_) (fun hc17 => absurd hc17 (by omega))
                  refine ik_Wk 1 (pc' := 138) (loc' := [some (.ref 54), some (fI 1), some (.ref 7), some (.ref 15), some (fI kb), some (fI fb), some (fI i), some (fI (lr.getD (40 + i).toNat 0)), some (fI 0)]) (st' := [fI i]) (h' := h_338) (cl' := 0) (sl' := 0) rfl ?_
                  have et : mx_tm kb (i - fb) = 0 := by unfold mx_tm; (repeat' split) <;> omega
                  have hG : (mj_ok W pl kb pb fb lr 40) i = false := by
                    show (if i < fb then _ else if i = fb then _ else _) = _
                    rw [if_neg (by omega), if_neg (by omega), et]
                    exact p_338_0
                  exact ik_Wret rfl rfl ⟨_, _, rfl, rfl, rfl, rfl, ⟨(congrArg (fun z => [fI z]) (by rw [he, mj_fw_s (by omega), hG, if_neg (by decide)])), fr_338⟩⟩
            · refine ik_Wk 1 (pc' := 23) (loc' := [some (fI kb), some (fI (i - fb))]) (st' := [fI 1]) (h' := u) (cl' := 0) (sl' := 0) rfl ?_
              refine ik_Wret rfl rfl ⟨_, _, rfl, rfl, ?_⟩
              refine ik_Wk 0 (pc' := 126) (loc' := [some (.ref 54), some (fI 1), some (.ref 7), some (.ref 15), some (fI kb), some (fI fb), some (fI i), some (fI (lr.getD (40 + i).toNat 0)), x8]) (st' := [fI 1, fI (lr.getD (40 + i).toNat 0), fI (lr.getD ((40 + i) - 1).toNat 0), .ref 7]) (h' := u) (cl' := 0) (sl' := 0) rfl ?_
              refine fw_call 19 4 0 [.ref 7, fI (lr.getD ((40 + i) - 1).toNat 0), fI (lr.getD (40 + i).toNat 0), fI 1] [] rfl rfl rfl (by decide) rfl rfl (fw_rec ul (fw_ftx rfl wv_n (wl_c rfl (wl_c rfl (wl_c rfl (wl_c rfl (wl_c rfl (wl_c rfl (wl_c rfl (wl_c rfl (wl_c w8 wl_n)))))))))) u7 rfl (by decide)) (cs_leads (p := lr.getD ((40 + i) - 1).toNat 0) (q := lr.getD (40 + i).toNat 0) (n := 1) (pl := pl) (lo := lo) (s := s) (wg := wg) (wc := wc) (we := we) (by omega) q1 q2 (by omega) (by omega) (by omega) u7 u11 n11 u12 n12 u13 n13 ul) ?_
              rintro _ h_339 (⟨rfl, p_339_0, F_339⟩ | ⟨rfl, p_339_0, F_339⟩)
              · have k_339 := F_339.1.trans ul
                have fr_339 := hfr_c F F_339 (by decide)
                have g_339_7 := (F_339.2 7 (by decide +kernel)).trans u7
                have g_339_11 := (F_339.2 11 (by decide +kernel)).trans u11
                have g_339_12 := (F_339.2 12 (by decide +kernel)).trans u12
                have g_339_13 := (F_339.2 13 (by decide +kernel)).trans u13
                have g_339_15 := (F_339.2 15 (by decide +kernel)).trans u15
                have g_339_54 := (F_339.2 54 (by decide +kernel)).trans u54
                have g_339_55 := (F_339.2 55 (by decide +kernel)).trans u55
                have g_339_56 := (F_339.2 56 (by decide +kernel)).trans u56
                refine ik_Wk 0 (pc' := 129) (loc' := [some (.ref 54), some (fI 1), some (.ref 7), some (.ref 15), some (fI kb), some (fI fb), some (fI i), some (fI (lr.getD (40 + i).toNat 0)), x8]) (st' := [fI 1]) (h' := h_339) (cl' := 0) (sl' := 0) rfl ?_
                refine ik_Wk 2 (pc' := 133) (loc' := [some (.ref 54), some (fI 1), some (.ref 7), some (.ref 15), some (fI kb), some (fI fb), some (fI i), some (fI (lr.getD (40 + i).toNat 0)), some (fI 1)]) (st' := [fI 1]) (h' := h_339) (cl' := 0) (sl' := 0) rfl ?_
                refine fw_if_ne rfl rfl (by omega) (by omega) (fun hc18 => absurd hc18 (by omega)) (fun hc18 => ?_)
                refine fw_inc (a := i) (loc' := [some (.ref 54), some (fI 1), some (.ref 7), some (.ref 15), some (fI kb), some (fI fb), some (fI (i + 1)), some (fI (lr.getD (40 + i).toNat 0)), some (fI 1)]) rfl rfl (Nat.le_of_ble_eq_true rfl) rfl ?_
                refine ik_Wk 1 (pc' := 21) (loc' := [some (.ref 54), some (fI 1), some (.ref 7), some (.ref 15), some (fI kb), some (fI fb), some (fI (i + 1)), some (fI (lr.getD (40 + i).toNat 0)), some (fI 1)]) (st' := []) (h' := h_339) (cl' := 0) (sl' := 0) rfl ?_
                have et : mx_tm kb (i - fb) = 1 := by unfold mx_tm; (repeat' split) <;> omega
                have hG : (mj_ok W pl kb pb fb lr 40) i = true := by
                  show (if i < fb then _ else if i = fb then _ else _) = _
                  rw [if_neg (by omega), if_neg (by omega), et]
                  exact p_339_0
                exact ih  (i + 1) (some (fI (lr.getD (40 + i).toNat 0))) (some (fI 1)) h_339 g_339_7 g_339_11 n11 g_339_12 n12 g_339_13 n13 g_339_15 g_339_54 g_339_55 n55 g_339_56 k_339 fr_339 (by omega) (by rw [he, mj_fw_s (by omega), hG, if_pos rfl]) rfl rfl (by omega)
              · have k_339 := F_339.1.trans ul
                have fr_339 := hfr_c F F_339 (by decide)
                have g_339_7 := (F_339.2 7 (by decide +kernel)).trans u7
                have g_339_11 := (F_339.2 11 (by decide +kernel)).trans u11
                have g_339_12 := (F_339.2 12 (by decide +kernel)).trans u12
                have g_339_13 := (F_339.2 13 (by decide +kernel)).trans u13
                have g_339_15 := (F_339.2 15 (by decide +kernel)).trans u15
                have g_339_54 := (F_339.2 54 (by decide +kernel)).trans u54
                have g_339_55 := (F_339.2 55 (by decide +kernel)).trans u55
                have g_339_56 := (F_339.2 56 (by decide +kernel)).trans u56
                refine ik_Wk 0 (pc' := 129) (loc' := [some (.ref 54), some (fI 1), some (.ref 7), some (.ref 15), some (fI kb), some (fI fb), some (fI i), some (fI (lr.getD (40 + i).toNat 0)), x8]) (st' := [fI 0]) (h' := h_339) (cl' := 0) (sl' := 0) rfl ?_
                refine ik_Wk 2 (pc' := 133) (loc' := [some (.ref 54), some (fI 1), some (.ref 7), some (.ref 15), some (fI kb), some (fI fb), some (fI i), some (fI (lr.getD (40 + i).toNat 0)), some (fI 0)]) (st' := [fI 0]) (h' := h_339) (cl' := 0) (sl' := 0) rfl ?_
                refine fw_if_ne rfl rfl (by omega) (by omega) (fun hc19 => ?_) (fun hc19 => absurd hc19 (by omega))
                refine ik_Wk 1 (pc' := 138) (loc' := [some (.ref 54), some (fI 1), some (.ref 7), some (.ref 15), some (fI kb), some (fI fb), some (fI i), some (fI (lr.getD (40 + i).toNat 0)), some (fI 0)]) (st' := [fI i]) (h' := h_339) (cl' := 0) (sl' := 0) rfl ?_
                have et : mx_tm kb (i - fb) = 1 := by unfold mx_tm; (repeat' split) <;> omega
                have hG : (mj_ok W pl kb pb fb lr 40) i = false := by
                  show (if i < fb then _ else if i = fb then _ else _) = _
                  rw [if_neg (by omega), if_neg (by omega), et]
                  exact p_339_0
                exact ik_Wret rfl rfl ⟨_, _, rfl, rfl, rfl, rfl, ⟨(congrArg (fun z => [fI z]) (by rw [he, mj_fw_s (by omega), hG, if_neg (by decide)])), fr_339⟩⟩
      · refine ik_Wk 1 (pc' := 55) (loc' := [some (.ref 54), some (fI 1), some (.ref 7), some (.ref 15), some (fI kb), some (fI fb), some (fI i), some (fI (lr.getD (40 + i).toNat 0)), x8]) (st' := [fI (lr.getD (40 + i).toNat 0)]) (h' := u) (cl' := 0) (sl' := 0) rfl ?_
        refine fw_bi rfl (by decide) ?_
        refine fw_ic_ne rfl rfl (by omega) (by omega) (by omega) (by omega) (fun hc20 => ?_) (fun hc20 => ?_)
        · refine ik_Wk 5 (pc' := 133) (loc' := [some (.ref 54), some (fI 1), some (.ref 7), some (.ref 15), some (fI kb), some (fI fb), some (fI i), some (fI (lr.getD (40 + i).toNat 0)), some (fI 1)]) (st' := [fI 1]) (h' := u) (cl' := 0) (sl' := 0) rfl ?_
          refine fw_if_ne rfl rfl (by omega) (by omega) (fun hc21 => absurd hc21 (by omega)) (fun hc21 => ?_)
          refine fw_inc (a := i) (loc' := [some (.ref 54), some (fI 1), some (.ref 7), some (.ref 15), some (fI kb), some (fI fb), some (fI (i + 1)), some (fI (lr.getD (40 + i).toNat 0)), some (fI 1)]) rfl rfl (Nat.le_of_ble_eq_true rfl) rfl ?_
          refine ik_Wk 1 (pc' := 21) (loc' := [some (.ref 54), some (fI 1), some (.ref 7), some (.ref 15), some (fI kb), some (fI fb), some (fI (i + 1)), some (fI (lr.getD (40 + i).toNat 0)), some (fI 1)]) (st' := []) (h' := u) (cl' := 0) (sl' := 0) rfl ?_
          have hG : (mj_ok W pl kb pb fb lr 40) i = true := by
            show (if i < fb then _ else if i = fb then _ else _) = _
            split
            · exact decide_eq_true (by omega)
            · first | exact decide_eq_true (by omega) | (rw [if_pos (by omega)]; exact decide_eq_true (by omega))
          exact ih  (i + 1) (some (fI (lr.getD (40 + i).toNat 0))) (some (fI 1)) u u7 u11 n11 u12 n12 u13 n13 u15 u54 u55 n55 u56 ul F (by omega) (by rw [he, mj_fw_s (by omega), hG, if_pos rfl]) rfl rfl (by omega)
        · refine ik_Wk 4 (pc' := 133) (loc' := [some (.ref 54), some (fI 1), some (.ref 7), some (.ref 15), some (fI kb), some (fI fb), some (fI i), some (fI (lr.getD (40 + i).toNat 0)), some (fI 0)]) (st' := [fI 0]) (h' := u) (cl' := 0) (sl' := 0) rfl ?_
          refine fw_if_ne rfl rfl (by omega) (by omega) (fun hc22 => ?_) (fun hc22 => absurd hc22 (by omega))
          refine ik_Wk 1 (pc' := 138) (loc' := [some (.ref 54), some (fI 1), some (.ref 7), some (.ref 15), some (fI kb), some (fI fb), some (fI i), some (fI (lr.getD (40 + i).toNat 0)), some (fI 0)]) (st' := [fI i]) (h' := u) (cl' := 0) (sl' := 0) rfl ?_
          have hG : (mj_ok W pl kb pb fb lr 40) i = false := by
            show (if i < fb then _ else if i = fb then _ else _) = _
            split
            · exact decide_eq_false (by omega)
            · first | exact decide_eq_false (by omega) | (rw [if_pos (by omega)]; exact decide_eq_false (by omega))
          exact ik_Wret rfl rfl ⟨_, _, rfl, rfl, rfl, rfl, ⟨(congrArg (fun z => [fI z]) (by rw [he, mj_fw_s (by omega), hG, if_neg (by decide)])), F⟩⟩

theorem cs_wrong1 {h : List ik_E} {pl : Int} {lo : Int} {s : Nat} {n0 : Int} {n1 : Int} {ka : Int} {pa : Int} {fa : Int} {kb : Int} {pb : Int} {fb : Int} {lr : List Int} {wg : List Int} {wc : List Int} {we : List Int} {W : Int → List (Int × Int)} (q0 : 0 ≤ pl ∧ pl ≤ 12) (q1 : ∀ x : Int, 0 ≤ x → x < pl - 1 → mx_wy wg wc we x (W x)) (q2 : ∀ x : Int, 0 ≤ x → x < pl - 1 → mx_ok pl (W x)) (q3 : 0 ≤ kb ∧ kb ≤ 2) (q4 : 0 ≤ pb ∧ pb ≤ 11) (q5 : 0 ≤ fb ∧ fb ≤ 30) (q6 : 0 ≤ n1 ∧ n1 ≤ 40) (q7 : ∀ j : Nat, (j : Int) < n1 → lr.getD (40 + j) 0 = 12 ∨ (0 ≤ lr.getD (40 + j) 0 ∧ lr.getD (40 + j) 0 < pl)) (h7 : cE h 7 (.inr (0, [fI pl, fI ((s : Nat) : Int), fI lo, .ref 8, .ref 9, .ref 10, .ref 11, .ref 12, .ref 13]))) (h11 : cE h 11 (.inl (.int, fA wg))) (n11 : wg.length = 60) (h12 : cE h 12 (.inl (.int, fA wc))) (n12 : wc.length = 60) (h13 : cE h 13 (.inl (.int, fA we))) (n13 : we.length = 12) (h15 : cE h 15 (.inl (.int, fA [ka, pa, fa, kb, pb, fb]))) (h54 : cE h 54 (.inr (4, [.ref 55, .ref 56]))) (h55 : cE h 55 (.inl (.int, fA lr))) (n55 : lr.length = 80) (h56 : cE h 56 (.inl (.int, fA [n0, n1]))) (hl : h.length = 94) : ik_F 39 [.ref 54, fI 1, .ref 7, .ref 15] h (fun rv h' => rv = [fI (mj_fw (mj_ok W pl kb pb fb lr 40) n1.toNat 0)] ∧ hfr [] h h') := by
  refine ik_Wk 3 (pc' := 3) (loc' := [some (.ref 54), some (fI 1), some (.ref 7), some (.ref 15), none, none, none, none, none]) (st' := [fI 3, fI 1, .ref 15]) (h' := h) (cl' := 0) (sl' := 0) rfl ?_
  refine fw_mul rfl ?_
  refine ik_Wk 1 (pc' := 5) (loc' := [some (.ref 54), some (fI 1), some (.ref 7), some (.ref 15), none, none, none, none, none]) (st' := [fI 0, fI 3, .ref 15]) (h' := h) (cl' := 0) (sl' := 0) rfl ?_
  refine fw_add rfl ?_
  refine fw_ial (z := 3) rfl h15 (by decide) (Nat.le_of_ble_eq_true rfl) (by decide) ?_
  refine ik_Wk 0 (pc' := 7) (loc' := [some (.ref 54), some (fI 1), some (.ref 7), some (.ref 15), none, none, none, none, none]) (st' := [fI kb]) (h' := h) (cl' := 0) (sl' := 0) rfl ?_
  refine ik_Wk 4 (pc' := 12) (loc' := [some (.ref 54), some (fI 1), some (.ref 7), some (.ref 15), some (fI kb), none, none, none, none]) (st' := [fI 3, fI 1, .ref 15]) (h' := h) (cl' := 0) (sl' := 0) rfl ?_
  refine fw_mul rfl ?_
  refine ik_Wk 1 (pc' := 14) (loc' := [some (.ref 54), some (fI 1), some (.ref 7), some (.ref 15), some (fI kb), none, none, none, none]) (st' := [fI 2, fI 3, .ref 15]) (h' := h) (cl' := 0) (sl' := 0) rfl ?_
  refine fw_add rfl ?_
  refine fw_ial (z := 5) rfl h15 (by decide) (Nat.le_of_ble_eq_true rfl) (by decide) ?_
  refine ik_Wk 0 (pc' := 16) (loc' := [some (.ref 54), some (fI 1), some (.ref 7), some (.ref 15), some (fI kb), none, none, none, none]) (st' := [fI fb]) (h' := h) (cl' := 0) (sl' := 0) rfl ?_
  refine ik_Wk 3 (pc' := 21) (loc' := [some (.ref 54), some (fI 1), some (.ref 7), some (.ref 15), some (fI kb), some (fI fb), some (fI 0), none, none]) (st' := []) (h' := h) (cl' := 0) (sl' := 0) rfl ?_
  exact cs_wrong1L (pl := pl) (lo := lo) (s := s) (n0 := n0) (n1 := n1) (ka := ka) (pa := pa) (fa := fa) (kb := kb) (pb := pb) (fb := fb) (lr := lr) (wg := wg) (wc := wc) (we := we) (W := W) q0 q1 q2 q3 q4 q5 q6 q7  (n1.toNat + 1) 0 none none h h7 h11 n11 h12 n12 h13 n13 h15 h54 h55 n55 h56 hl (hfr_refl [] h) (by omega) (by rw [Int.sub_zero]) rfl rfl (by omega)

end