noncomputable section
/-! what is lost: findLost (class), lost (reference); what is kept (written by wip/fx/u18.py) -/
def mj_lg (pl : Int) (G : Nat → Nat) : Nat := if pl = 0 then 0 else (1 <<< pl.toNat - 1) ^^^ ((1 <<< pl.toNat - 1) &&& mj_rn G (pl - 1).toNat 12 (1 <<< (pl - 1).toNat))
theorem mj_lost_lg (pl : Int) (cn go : List Int) : mj_lost pl cn go = mj_lg pl (mj_GG cn go) := rfl
theorem mj_rn_12 {G : Nat → Nat} {pl : Int} {x : Nat} (h : 1 ≤ pl ∧ pl ≤ 12) : mj_rn G (pl - 1).toNat pl.toNat x = mj_rn G (pl - 1).toNat 12 x := by
  have a := mj_rn_ge (G := G) (br := (pl - 1).toNat) (x := x) (12 - pl.toNat)
  rw [show (pl - 1).toNat + 1 + (12 - pl.toNat) = 12 by omega, show (pl - 1).toNat + 1 = pl.toNat by omega] at a
  exact a.symm
theorem mj_rd_lt {G : Nat → Nat} {x N : Nat} (hx : x < 2 ^ N) : ∀ p, p ≤ N → mj_rd G p x < 2 ^ N := by
  intro p
  induction p with
  | zero => intro _; exact hx
  | succ p ih =>
    intro h
    show (if G p &&& mj_rd G p x = 0 then mj_rd G p x else mj_rd G p x ||| 1 <<< p) < _
    split
    · exact ih (by omega)
    · exact Nat.or_lt_two_pow (ih (by omega)) (mj_shl_lt (by omega))
theorem mj_rn_lt {G : Nat → Nat} {x br N : Nat} (hb : br ≤ N) (hx : x < 2 ^ N) : ∀ n, mj_rn G br n x < 2 ^ N := by
  intro n
  induction n with
  | zero => exact hx
  | succ n ih => exact mj_rd_lt ih br hb
theorem mj_and_le (a b : Nat) : a &&& b ≤ b := by
  rw [Nat.and_comm]
  exact Nat.and_le_left
theorem mj_lg_lt {pl : Int} {G : Nat → Nat} (h : pl ≤ 12) : mj_lg pl G < 4096 := by
  unfold mj_lg
  split
  · decide
  · have e : 1 <<< pl.toNat - 1 < 2 ^ 12 := by
      have : 1 <<< pl.toNat ≤ 2 ^ 12 := by rw [Nat.shiftLeft_eq, Nat.one_mul]; exact Nat.pow_le_pow_right (by decide) (by omega)
      omega
    exact Nat.xor_lt_two_pow (n := 12) e (Nat.lt_of_le_of_lt Nat.and_le_left e)
theorem mj_pos (n : Nat) : 1 ≤ 1 <<< n := by
  rw [Nat.shiftLeft_eq, Nat.one_mul]
  exact Nat.one_le_two_pow
/-- a place of a round, by its moves one by one -/
theorem mj_sp_s {a x g p y : Nat} (hy : y = if a &&& x = 0 then x else x ||| 1 <<< p) : (y ||| if y.testBit g then 1 <<< p else 0) = (if (a ||| 1 <<< g) &&& x = 0 then x else x ||| 1 <<< p) ∨ (¬ a &&& x = 0 ∧ (y ||| if y.testBit g then 1 <<< p else 0) = x ||| 1 <<< p) := by
  by_cases h : a &&& x = 0
  · rw [if_pos h] at hy
    subst hy
    left
    cases q : y.testBit g with
    | true => rw [if_pos rfl, if_neg (fun w => by rw [(mj_and_or.mp w).2] at q; cases q)]
    | false => rw [if_neg (by decide), if_pos (mj_and_or.mpr ⟨h, q⟩), Nat.or_zero]
  · right
    rw [if_neg h] at hy
    refine ⟨h, ?_⟩
    subst hy
    split
    · rw [mj_or_idem]
    · rw [Nat.or_zero]
theorem mj_sp_t {a x g p y : Nat} (hy : y = if a &&& x = 0 then x else x ||| 1 <<< p) : (y ||| if y.testBit g then 1 <<< p else 0) = if (a ||| 1 <<< g) &&& x = 0 then x else x ||| 1 <<< p := by
  rcases mj_sp_s (g := g) hy with h | ⟨h, e⟩
  · exact h
  · rw [e, if_neg (fun w => h (mj_and_or.mp w).1)]
theorem cs_lostP {h : List ik_E} {pl : Int} {lo : Int} {s : Nat} {wg : List Int} {wc : List Int} {we : List Int} {W : Int → List (Int × Int)} (q0 : 0 ≤ pl ∧ pl ≤ 12) (q1 : ∀ x : Int, 0 ≤ x → x < pl - 1 → mx_wy wg wc we x (W x)) (q2 : ∀ x : Int, 0 ≤ x → x < pl - 1 → mx_ok pl (W x)) (k0 : Int) (hpl : 1 ≤ pl) (x0 : Nat) (hx0 : x0 < 2 ^ 12) {R : List Value → List ik_E → Prop} (K : ∀ (w : List ik_E) (p2 : Int) (sv : Nat) (w7 : cE w 7 (.inr (0, [fI pl, fI ((s : Nat) : Int), fI lo, .ref 8, .ref 9, .ref 10, .ref 11, .ref 12, .ref 13]))) (w11 : cE w 11 (.inl (.int, fA wg))) (nw_11 : wg.length = 60) (w12 : cE w 12 (.inl (.int, fA wc))) (nw_12 : wc.length = 60) (w13 : cE w 13 (.inl (.int, fA we))) (nw_13 : we.length = 12) (wl : w.length = 94) (F : hfr [] h w) (hs : sv = mj_rd (fun p => mj_gs (W (p : Nat))) (pl - 1).toNat x0), ik_G 9 58 [some (.ref 7), some (fI ((sv : Nat) : Int)), some (fI k0), some (fI p2)] [] w R) : ∀ (k : Nat) (p : Int) (sv : Nat) (u : List ik_E) (u7 : cE u 7 (.inr (0, [fI pl, fI ((s : Nat) : Int), fI lo, .ref 8, .ref 9, .ref 10, .ref 11, .ref 12, .ref 13]))) (u11 : cE u 11 (.inl (.int, fA wg))) (n11 : wg.length = 60) (u12 : cE u 12 (.inl (.int, fA wc))) (n12 : wc.length = 60) (u13 : cE u 13 (.inl (.int, fA we))) (n13 : we.length = 12) (ul : u.length = 94) (F : hfr [] h u) (hp : 0 ≤ p ∧ p ≤ pl - 1) (hs : sv = mj_rd (fun p => mj_gs (W (p : Nat))) p.toNat x0) (hk : pl - p < (k : Int)), ik_G 9 28 [some (.ref 7), some (fI ((sv : Nat) : Int)), some (fI k0), some (fI p)] [] u R := by
  intro k
  induction k with
  | zero => intro p sv u u7 u11 n11 u12 n12 u13 n13 ul F hp hs hk; omega
  | succ k ih =>
    intro p sv u u7 u11 n11 u12 n12 u13 n13 ul F hp hs hk
    have hsl : sv < 2 ^ 12 := by rw [hs]; exact mj_rd_lt hx0 _ (by omega)
    have hal : mj_gs (W p) &&& sv ≤ sv := mj_and_le _ _
    refine ik_Wk 2 (pc' := 30) (loc' := [some (.ref 7), some (fI ((sv : Nat) : Int)), some (fI k0), some (fI p)]) (st' := [.ref 7, fI p]) (h' := u) (cl' := 0) (sl' := 0) rfl ?_
    refine ik_Wc 2 1 0 [.ref 7] [fI p] rfl rfl rfl (by decide) rfl rfl (fw_rec ul rfl u7 rfl (by decide)) ?_
    refine ik_Wk 0 (pc' := 0) (loc' := [some (.ref 7)]) (st' := []) (h' := u) (cl' := 0) (sl' := 0) rfl ?_
    refine ik_Wk 1 (pc' := 1) (loc' := [some (.ref 7)]) (st' := [.ref 7]) (h' := u) (cl' := 0) (sl' := 0) rfl ?_
    refine fw_gf rfl rfl u7 rfl ?_
    refine ik_Wk 1 (pc' := 5) (loc' := [some (.ref 7)]) (st' := [fI 1, fI pl]) (h' := u) (cl' := 0) (sl' := 0) rfl ?_
    refine fw_sub rfl ?_
    refine ik_Wret rfl rfl ⟨_, _, rfl, rfl, ?_⟩
    refine ik_Wk 0 (pc' := 33) (loc' := [some (.ref 7), some (fI ((sv : Nat) : Int)), some (fI k0), some (fI p)]) (st' := [fI (pl - 1), fI p]) (h' := u) (cl' := 0) (sl' := 0) rfl ?_
    refine fw_ic_ge rfl rfl (by omega) (by omega) (by omega) (by omega) (fun hc1 => ?_) (fun hc1 => ?_)
    · have ep : p = pl - 1 := by omega
      rw [ep] at hs
      exact K u p sv u7 u11 n11 u12 n12 u13 n13 ul F hs
    · refine ik_Wk 2 (pc' := 38) (loc' := [some (.ref 7), some (fI ((sv : Nat) : Int)), some (fI k0), some (fI p)]) (st' := [fI p, .ref 7]) (h' := u) (cl' := 0) (sl' := 0) rfl ?_
      refine fw_call 10 2 0 [.ref 7, fI p] [] rfl rfl rfl (by decide) rfl rfl (fw_rec ul rfl u7 rfl (by decide)) (cs_goals (p := p) (pl := pl) (lo := lo) (s := s) (wg := wg) (wc := wc) (we := we) (L := (W p)) (by omega) (q1 p (by omega) (by omega)) (q2 p (by omega) (by omega)) (by omega) u7 u11 n11 u12 n12 u13 n13 ul) ?_
      rintro _ h_356 ⟨rfl, F_356⟩
      have k_356 := F_356.1.trans ul
      have fr_356 := hfr_c F F_356 (by decide)
      have g_356_7 := (F_356.2 7 (by decide +kernel)).trans u7
      have g_356_11 := (F_356.2 11 (by decide +kernel)).trans u11
      have g_356_12 := (F_356.2 12 (by decide +kernel)).trans u12
      have g_356_13 := (F_356.2 13 (by decide +kernel)).trans u13
      refine ik_Wk 0 (pc' := 41) (loc' := [some (.ref 7), some (fI ((sv : Nat) : Int)), some (fI k0), some (fI p)]) (st' := [fI ((mj_gs (W p) : Nat) : Int)]) (h' := h_356) (cl' := 0) (sl' := 0) rfl ?_
      refine ik_Wk 1 (pc' := 42) (loc' := [some (.ref 7), some (fI ((sv : Nat) : Int)), some (fI k0), some (fI p)]) (st' := [fI ((sv : Nat) : Int), fI ((mj_gs (W p) : Nat) : Int)]) (h' := h_356) (cl' := 0) (sl' := 0) rfl ?_
      refine fx_and (m := mj_gs (W p)) (n := sv) rfl ?_
      refine fw_if_eq rfl rfl (by omega) (by omega) (fun hc2 => ?_) (fun hc2 => ?_)
      · refine fw_inc (a := p) (loc' := [some (.ref 7), some (fI ((sv : Nat) : Int)), some (fI k0), some (fI (p + 1))]) rfl rfl (Nat.le_of_ble_eq_true rfl) rfl ?_
        refine ik_Wk 1 (pc' := 28) (loc' := [some (.ref 7), some (fI ((sv : Nat) : Int)), some (fI k0), some (fI (p + 1))]) (st' := []) (h' := h_356) (cl' := 0) (sl' := 0) rfl ?_
        have e1 : mj_rd (fun p => mj_gs (W (p : Nat))) (p + 1).toNat x0 = mj_sp (fun p => mj_gs (W (p : Nat))) (mj_rd (fun p => mj_gs (W (p : Nat))) p.toNat x0) p.toNat := by rw [show (p + 1).toNat = p.toNat + 1 by omega]; rfl
        have e2 : mj_gs (W ((p.toNat : Nat) : Int)) = mj_gs (W p) := by rw [Int.toNat_of_nonneg (by omega)]
        have hs2 : sv = mj_rd (fun p => mj_gs (W (p : Nat))) (p + 1).toNat x0 := by
          rw [e1, ← hs]
          show _ = if mj_gs (W ((p.toNat : Nat) : Int)) &&& sv = 0 then sv else sv ||| 1 <<< p.toNat
          rw [e2, if_pos (by omega)]
        exact ih (p + 1) sv h_356 g_356_7 g_356_11 n11 g_356_12 n12 g_356_13 n13 k_356 fr_356 (by omega) hs2 (by omega)
      · refine ik_Wk 3 (pc' := 49) (loc' := [some (.ref 7), some (fI ((sv : Nat) : Int)), some (fI k0), some (fI p)]) (st' := [fI p, fI 1, fI ((sv : Nat) : Int)]) (h' := h_356) (cl' := 0) (sl' := 0) rfl ?_
        refine fx_shl rfl (by omega) (by omega) ?_
        refine fx_or (m := sv) (n := 1 <<< p.toNat) rfl ?_
        refine ik_Wk 1 (pc' := 52) (loc' := [some (.ref 7), some (fI ((sv ||| (1 <<< p.toNat) : Nat) : Int)), some (fI k0), some (fI p)]) (st' := []) (h' := h_356) (cl' := 0) (sl' := 0) rfl ?_
        refine fw_inc (a := p) (loc' := [some (.ref 7), some (fI ((sv ||| (1 <<< p.toNat) : Nat) : Int)), some (fI k0), some (fI (p + 1))]) rfl rfl (Nat.le_of_ble_eq_true rfl) rfl ?_
        refine ik_Wk 1 (pc' := 28) (loc' := [some (.ref 7), some (fI ((sv ||| (1 <<< p.toNat) : Nat) : Int)), some (fI k0), some (fI (p + 1))]) (st' := []) (h' := h_356) (cl' := 0) (sl' := 0) rfl ?_
        have e1 : mj_rd (fun p => mj_gs (W (p : Nat))) (p + 1).toNat x0 = mj_sp (fun p => mj_gs (W (p : Nat))) (mj_rd (fun p => mj_gs (W (p : Nat))) p.toNat x0) p.toNat := by rw [show (p + 1).toNat = p.toNat + 1 by omega]; rfl
        have e2 : mj_gs (W ((p.toNat : Nat) : Int)) = mj_gs (W p) := by rw [Int.toNat_of_nonneg (by omega)]
        have hs2 : sv ||| (1 <<< p.toNat) = mj_rd (fun p => mj_gs (W (p : Nat))) (p + 1).toNat x0 := by
          rw [e1, ← hs]
          show _ = if mj_gs (W ((p.toNat : Nat) : Int)) &&& sv = 0 then sv else sv ||| 1 <<< p.toNat
          rw [e2, if_neg (by omega)]
        exact ih (p + 1) (sv ||| (1 <<< p.toNat)) h_356 g_356_7 g_356_11 n11 g_356_12 n12 g_356_13 n13 k_356 fr_356 (by omega) hs2 (by omega)

theorem cs_lostN {h : List ik_E} {pl : Int} {lo : Int} {s : Nat} {wg : List Int} {wc : List Int} {we : List Int} {W : Int → List (Int × Int)} (q0 : 0 ≤ pl ∧ pl ≤ 12) (q1 : ∀ x : Int, 0 ≤ x → x < pl - 1 → mx_wy wg wc we x (W x)) (q2 : ∀ x : Int, 0 ≤ x → x < pl - 1 → mx_ok pl (W x)) (hpl : 1 ≤ pl) : ∀ (k : Nat) (i : Int) (sv : Nat) (x3 : Option Value) (u : List ik_E) (u7 : cE u 7 (.inr (0, [fI pl, fI ((s : Nat) : Int), fI lo, .ref 8, .ref 9, .ref 10, .ref 11, .ref 12, .ref 13]))) (u11 : cE u 11 (.inl (.int, fA wg))) (n11 : wg.length = 60) (u12 : cE u 12 (.inl (.int, fA wc))) (n12 : wc.length = 60) (u13 : cE u 13 (.inl (.int, fA we))) (n13 : we.length = 12) (ul : u.length = 94) (F : hfr [] h u) (hi : 0 ≤ i ∧ i ≤ pl) (hs : sv = mj_rn (fun p => mj_gs (W (p : Nat))) (pl - 1).toNat i.toNat (1 <<< (pl - 1).toNat)) (w3 : ik_wl 94 x3 = true) (hk : pl - i < (k : Int)), ik_G 9 18 [some (.ref 7), some (fI ((sv : Nat) : Int)), some (fI i), x3] [] u (fun rv h' => rv = [fI ((mj_lg pl (fun p => mj_gs (W (p : Nat))) : Nat) : Int)] ∧ hfr [] h h') := by
  intro k
  induction k with
  | zero => intro i sv x3 u u7 u11 n11 u12 n12 u13 n13 ul F hi hs w3 hk; omega
  | succ k ih =>
    intro i sv x3 u u7 u11 n11 u12 n12 u13 n13 ul F hi hs w3 hk
    have hsl : sv < 2 ^ 12 := by rw [hs]; exact mj_rn_lt (by omega) (mj_shl_lt (by omega)) _
    refine ik_Wk 2 (pc' := 20) (loc' := [some (.ref 7), some (fI ((sv : Nat) : Int)), some (fI i), x3]) (st' := [.ref 7, fI i]) (h' := u) (cl' := 0) (sl' := 0) rfl ?_
    refine fw_gf rfl rfl u7 rfl ?_
    refine fw_ic_ge rfl rfl (by omega) (by omega) (by omega) (by omega) (fun hc1 => ?_) (fun hc1 => ?_)
    · refine ik_Wk 2 (pc' := 66) (loc' := [some (.ref 7), some (fI ((sv : Nat) : Int)), some (fI i), x3]) (st' := [.ref 7, fI 1]) (h' := u) (cl' := 0) (sl' := 0) rfl ?_
      refine fw_gf rfl rfl u7 rfl ?_
      refine fx_shl rfl (by omega) (by omega) ?_
      refine ik_Wk 1 (pc' := 71) (loc' := [some (.ref 7), some (fI ((sv : Nat) : Int)), some (fI i), x3]) (st' := [fI 1, fI ((1 <<< pl.toNat : Nat) : Int)]) (h' := u) (cl' := 0) (sl' := 0) rfl ?_
      refine fw_sub rfl ?_
      rw [show ((1 <<< pl.toNat : Nat) : Int) - (1 : Int) = ((1 <<< pl.toNat - 1 : Nat) : Int) from by have := mj_pos pl.toNat; omega]
      refine ik_Wk 2 (pc' := 74) (loc' := [some (.ref 7), some (fI ((sv : Nat) : Int)), some (fI i), x3]) (st' := [fI (-1), fI ((sv : Nat) : Int), fI ((1 <<< pl.toNat - 1 : Nat) : Int)]) (h' := u) (cl' := 0) (sl' := 0) rfl ?_
      refine fx_not (n := sv) rfl ?_
      refine fx_nand (m := 1 <<< pl.toNat - 1) (n := sv) rfl ?_
      have ei : i = pl := by omega
      rw [ei, mj_rn_12 (by omega)] at hs
      exact ik_Wret rfl rfl ⟨_, _, rfl, rfl, rfl, rfl, ⟨(congrArg (fun z => [fI ((z : Nat) : Int)]) (by unfold mj_lg; rw [if_neg (by omega), hs])), F⟩⟩
    · refine ik_Wk 2 (pc' := 28) (loc' := [some (.ref 7), some (fI ((sv : Nat) : Int)), some (fI i), some (fI 0)]) (st' := []) (h' := u) (cl' := 0) (sl' := 0) rfl ?_
      refine cs_lostP (pl := pl) (lo := lo) (s := s) (wg := wg) (wc := wc) (we := we) (W := W) q0 q1 q2 i hpl sv hsl (R := (fun rv h' => rv = [fI ((mj_lg pl (fun p => mj_gs (W (p : Nat))) : Nat) : Int)] ∧ hfr [] h h')) (fun h_357 p2_357 sv_357 g_357_7 g_357_11 m_357_11 g_357_12 m_357_12 g_357_13 m_357_13 k_357 fr_357 hs_357 => ?_) (pl.toNat + 1) 0 sv u u7 u11 n11 u12 n12 u13 n13 ul F (by omega) rfl (by omega)
      refine fw_inc (a := i) (loc' := [some (.ref 7), some (fI ((sv_357 : Nat) : Int)), some (fI (i + 1)), some (fI p2_357)]) rfl rfl (Nat.le_of_ble_eq_true rfl) rfl ?_
      refine ik_Wk 1 (pc' := 18) (loc' := [some (.ref 7), some (fI ((sv_357 : Nat) : Int)), some (fI (i + 1)), some (fI p2_357)]) (st' := []) (h' := h_357) (cl' := 0) (sl' := 0) rfl ?_
      exact ih  (i + 1) sv_357 (some (fI p2_357)) h_357 g_357_7 g_357_11 m_357_11 g_357_12 m_357_12 g_357_13 m_357_13 k_357 fr_357 (by omega) (by rw [hs_357, show (i + 1).toNat = i.toNat + 1 by omega]; show _ = mj_rd (fun p => mj_gs (W (p : Nat))) (pl - 1).toNat (mj_rn (fun p => mj_gs (W (p : Nat))) (pl - 1).toNat i.toNat (1 <<< (pl - 1).toNat)); rw [← hs]) rfl (by omega)

theorem cs_findLost {h : List ik_E} {pl : Int} {lo : Int} {s : Nat} {wg : List Int} {wc : List Int} {we : List Int} {W : Int → List (Int × Int)} (q0 : 0 ≤ pl ∧ pl ≤ 12) (q1 : ∀ x : Int, 0 ≤ x → x < pl - 1 → mx_wy wg wc we x (W x)) (q2 : ∀ x : Int, 0 ≤ x → x < pl - 1 → mx_ok pl (W x)) (h7 : cE h 7 (.inr (0, [fI pl, fI ((s : Nat) : Int), fI lo, .ref 8, .ref 9, .ref 10, .ref 11, .ref 12, .ref 13]))) (h11 : cE h 11 (.inl (.int, fA wg))) (n11 : wg.length = 60) (h12 : cE h 12 (.inl (.int, fA wc))) (n12 : wc.length = 60) (h13 : cE h 13 (.inl (.int, fA we))) (n13 : we.length = 12) (hl : h.length = 94) : ik_F 9 [.ref 7] h (fun rv h' => rv = [fI ((mj_lg pl (fun p => mj_gs (W (p : Nat))) : Nat) : Int)] ∧ hfr [] h h') := by
  refine ik_Wk 1 (pc' := 1) (loc' := [some (.ref 7), none, none, none]) (st' := [.ref 7]) (h' := h) (cl' := 0) (sl' := 0) rfl ?_
  refine fw_gf rfl rfl h7 rfl ?_
  refine fw_if_ne rfl rfl (by omega) (by omega) (fun hc1 => ?_) (fun hc1 => ?_)
  · refine ik_Wk 1 (pc' := 8) (loc' := [some (.ref 7), none, none, none]) (st' := [fI 0]) (h' := h) (cl' := 0) (sl' := 0) rfl ?_
    exact ik_Wret rfl rfl ⟨_, _, rfl, rfl, rfl, rfl, ⟨(congrArg (fun z => [fI ((z : Nat) : Int)]) (show 0 = mj_lg pl (fun p => mj_gs (W (p : Nat))) by unfold mj_lg; rw [if_pos (by omega)])), (hfr_refl [] h)⟩⟩
  · refine ik_Wk 2 (pc' := 11) (loc' := [some (.ref 7), none, none, none]) (st' := [.ref 7, fI 1]) (h' := h) (cl' := 0) (sl' := 0) rfl ?_
    refine ik_Wc 2 1 0 [.ref 7] [fI 1] rfl rfl rfl (by decide) rfl rfl (fw_rec hl rfl h7 rfl (by decide)) ?_
    refine ik_Wk 0 (pc' := 0) (loc' := [some (.ref 7)]) (st' := []) (h' := h) (cl' := 0) (sl' := 0) rfl ?_
    refine ik_Wk 1 (pc' := 1) (loc' := [some (.ref 7)]) (st' := [.ref 7]) (h' := h) (cl' := 0) (sl' := 0) rfl ?_
    refine fw_gf rfl rfl h7 rfl ?_
    refine ik_Wk 1 (pc' := 5) (loc' := [some (.ref 7)]) (st' := [fI 1, fI pl]) (h' := h) (cl' := 0) (sl' := 0) rfl ?_
    refine fw_sub rfl ?_
    refine ik_Wret rfl rfl ⟨_, _, rfl, rfl, ?_⟩
    refine ik_Wk 0 (pc' := 14) (loc' := [some (.ref 7), none, none, none]) (st' := [fI (pl - 1), fI 1]) (h' := h) (cl' := 0) (sl' := 0) rfl ?_
    refine fx_shl rfl (by omega) (by omega) ?_
    refine ik_Wk 3 (pc' := 18) (loc' := [some (.ref 7), some (fI ((1 <<< (pl - 1).toNat : Nat) : Int)), some (fI 0), none]) (st' := []) (h' := h) (cl' := 0) (sl' := 0) rfl ?_
    exact cs_lostN (pl := pl) (lo := lo) (s := s) (wg := wg) (wc := wc) (we := we) (W := W) q0 q1 q2 (by omega) (pl.toNat + 1) 0 (1 <<< (pl - 1).toNat) none h h7 h11 n11 h12 n12 h13 n13 hl (hfr_refl [] h) (by omega) rfl rfl (by omega)

theorem cr_lostI {h : List ik_E} {pl : Int} {f : Nat → Int} {cn : List Int} {go : List Int} (q0 : 0 ≤ pl ∧ pl ≤ 12) (q1 : ∀ x : Int, 0 ≤ x → x < pl - 1 → (0 ≤ cn.getD x.toNat 0 ∧ cn.getD x.toNat 0 ≤ 4) ∧ ∀ i : Int, 0 ≤ i → i < cn.getD x.toNat 0 → 0 ≤ go.getD (4 * x + i).toNat 0 ∧ go.getD (4 * x + i).toNat 0 < pl) (k0 : Int) (p : Int) (hp : 0 ≤ p ∧ p < pl - 1) (x0 : Nat) (hx0 : x0 < 2 ^ 12) {R : List Value → List ik_E → Prop} (K : ∀ (w : List ik_E) (i2 : Int) (sv : Nat) (w66 : cE w 66 (.inr (10, [fI pl, .ref 67, .ref 68, .ref 69, fI (f 4), .ref 70, .ref 71, fI (f 7), fI (f 8), .ref 72, fI (f 10), fI (f 11), fI (f 12), fJ (f 13), fI (f 14), fI (f 15), fI (f 16), fI (f 17), .ref 73, .ref 74, .ref 75, .ref 76, .ref 77, .ref 78, fI (f 24), .ref 79, .ref 80, .ref 81, .ref 82, .ref 83, .ref 84, .ref 85, fJ (f 32), fJ (f 33), .ref 86, .ref 87, fI (f 36), .ref 88, .ref 89, .ref 90, .ref 91, .ref 92, .ref 93]))) (w67 : cE w 67 (.inl (.int, fA cn))) (nw_67 : cn.length = 12) (w68 : cE w 68 (.inl (.int, fA go))) (nw_68 : go.length = 48) (wl : w.length = 94) (F : hfr [] h w) (hs : sv = mj_sp (mj_GG cn go) x0 p.toNat), ik_G 149 86 [some (.ref 66), some (fI ((sv : Nat) : Int)), some (fI k0), some (fI p), some (fI i2)] [] w R) : ∀ (k : Nat) (i : Int) (sv : Nat) (u : List ik_E) (u66 : cE u 66 (.inr (10, [fI pl, .ref 67, .ref 68, .ref 69, fI (f 4), .ref 70, .ref 71, fI (f 7), fI (f 8), .ref 72, fI (f 10), fI (f 11), fI (f 12), fJ (f 13), fI (f 14), fI (f 15), fI (f 16), fI (f 17), .ref 73, .ref 74, .ref 75, .ref 76, .ref 77, .ref 78, fI (f 24), .ref 79, .ref 80, .ref 81, .ref 82, .ref 83, .ref 84, .ref 85, fJ (f 32), fJ (f 33), .ref 86, .ref 87, fI (f 36), .ref 88, .ref 89, .ref 90, .ref 91, .ref 92, .ref 93]))) (u67 : cE u 67 (.inl (.int, fA cn))) (n67 : cn.length = 12) (u68 : cE u 68 (.inl (.int, fA go))) (n68 : go.length = 48) (ul : u.length = 94) (F : hfr [] h u) (hi : 0 ≤ i ∧ i ≤ cn.getD p.toNat 0) (hs : sv = if mj_G cn go p.toNat i.toNat &&& x0 = 0 then x0 else x0 ||| 1 <<< p.toNat) (hk : cn.getD p.toNat 0 - i < (k : Int)), ik_G 149 41 [some (.ref 66), some (fI ((sv : Nat) : Int)), some (fI k0), some (fI p), some (fI i)] [] u R := by
  intro k
  induction k with
  | zero => intro i sv u u66 u67 n67 u68 n68 ul F hi hs hk; omega
  | succ k ih =>
    intro i sv u u66 u67 n67 u68 n68 ul F hi hs hk
    have hr := q1 p hp.1 hp.2
    have hsl : sv < 2 ^ 12 := by rw [hs]; split; exact hx0; exact Nat.or_lt_two_pow hx0 (mj_shl_lt (by omega))
    refine ik_Wk 2 (pc' := 44) (loc' := [some (.ref 66), some (fI ((sv : Nat) : Int)), some (fI k0), some (fI p), some (fI i)]) (st' := [.ref 66, fI i]) (h' := u) (cl' := 0) (sl' := 0) rfl ?_
    refine fw_gf rfl rfl u66 rfl ?_
    refine ik_Wk 1 (pc' := 48) (loc' := [some (.ref 66), some (fI ((sv : Nat) : Int)), some (fI k0), some (fI p), some (fI i)]) (st' := [fI p, .ref 67, fI i]) (h' := u) (cl' := 0) (sl' := 0) rfl ?_
    refine fw_ial rfl u67 (by omega) (by omega) (by omega) ?_
    refine fw_ic_ge rfl rfl (by omega) (by omega) (by omega) (by omega) (fun hc1 => ?_) (fun hc1 => ?_)
    · have ei : i = cn.getD p.toNat 0 := by omega
      rw [ei] at hs
      exact K u i sv u66 u67 n67 u68 n68 ul F hs
    · refine ik_Wk 3 (pc' := 55) (loc' := [some (.ref 66), some (fI ((sv : Nat) : Int)), some (fI k0), some (fI p), some (fI i)]) (st' := [.ref 66, fI ((sv : Nat) : Int), fI ((sv : Nat) : Int)]) (h' := u) (cl' := 0) (sl' := 0) rfl ?_
      refine fw_gf rfl rfl u66 rfl ?_
      refine ik_Wk 2 (pc' := 60) (loc' := [some (.ref 66), some (fI ((sv : Nat) : Int)), some (fI k0), some (fI p), some (fI i)]) (st' := [fI p, fI 4, .ref 68, fI ((sv : Nat) : Int), fI ((sv : Nat) : Int)]) (h' := u) (cl' := 0) (sl' := 0) rfl ?_
      refine fw_mul rfl ?_
      refine ik_Wk 1 (pc' := 63) (loc' := [some (.ref 66), some (fI ((sv : Nat) : Int)), some (fI k0), some (fI p), some (fI i)]) (st' := [fI i, fI (4 * p), .ref 68, fI ((sv : Nat) : Int), fI ((sv : Nat) : Int)]) (h' := u) (cl' := 0) (sl' := 0) rfl ?_
      refine fw_add rfl ?_
      refine fw_ial rfl u68 (by omega) (by omega) (by omega) ?_
      have hg := hr.2 i (by omega) (by omega)
      refine ik_Wc 128 2 3 [fI ((sv : Nat) : Int), fI (go.getD ((4 * p) + i).toNat 0)] [fI ((sv : Nat) : Int)] rfl rfl rfl (by decide) rfl rfl (fw_sta ul rfl (by decide)) ?_
      refine ik_Wk 0 (pc' := 0) (loc' := [some (fI ((sv : Nat) : Int)), some (fI (go.getD ((4 * p) + i).toNat 0))]) (st' := []) (h' := u) (cl' := 0) (sl' := 0) rfl ?_
      refine ik_Wk 2 (pc' := 2) (loc' := [some (fI ((sv : Nat) : Int)), some (fI (go.getD ((4 * p) + i).toNat 0))]) (st' := [fI (go.getD ((4 * p) + i).toNat 0), fI ((sv : Nat) : Int)]) (h' := u) (cl' := 0) (sl' := 0) rfl ?_
      refine fx_shr (n := sv) rfl (by omega) (by omega) (by omega) ?_
      refine ik_Wk 1 (pc' := 4) (loc' := [some (fI ((sv : Nat) : Int)), some (fI (go.getD ((4 * p) + i).toNat 0))]) (st' := [fI 1, fI ((sv >>> (go.getD ((4 * p) + i).toNat 0).toNat : Nat) : Int)]) (h' := u) (cl' := 0) (sl' := 0) rfl ?_
      refine fx_bit (n := sv) (k := (go.getD ((4 * p) + i).toNat 0).toNat) rfl (fun hb2 => ?_) (fun hb2 => ?_)
      · refine ik_Wk 0 (pc' := 5) (loc' := [some (fI ((sv : Nat) : Int)), some (fI (go.getD ((4 * p) + i).toNat 0))]) (st' := [fI 1]) (h' := u) (cl' := 0) (sl' := 0) rfl ?_
        refine ik_Wk 1 (pc' := 6) (loc' := [some (fI ((sv : Nat) : Int)), some (fI (go.getD ((4 * p) + i).toNat 0))]) (st' := [fI 1, fI 1]) (h' := u) (cl' := 0) (sl' := 0) rfl ?_
        refine fw_ic_ne rfl rfl (by omega) (by omega) (by omega) (by omega) (fun hc3 => ?_) (fun hc3 => absurd hc3 (by omega))
        refine ik_Wk 2 (pc' := 14) (loc' := [some (fI ((sv : Nat) : Int)), some (fI (go.getD ((4 * p) + i).toNat 0))]) (st' := [fI 1]) (h' := u) (cl' := 0) (sl' := 0) rfl ?_
        refine ik_Wret rfl rfl ⟨_, _, rfl, rfl, ?_⟩
        refine ik_Wk 0 (pc' := 68) (loc' := [some (.ref 66), some (fI ((sv : Nat) : Int)), some (fI k0), some (fI p), some (fI i)]) (st' := [fI 1, fI ((sv : Nat) : Int)]) (h' := u) (cl' := 0) (sl' := 0) rfl ?_
        refine fw_if_eq rfl rfl (by omega) (by omega) (fun hc4 => absurd hc4 (by omega)) (fun hc4 => ?_)
        refine ik_Wk 2 (pc' := 73) (loc' := [some (.ref 66), some (fI ((sv : Nat) : Int)), some (fI k0), some (fI p), some (fI i)]) (st' := [fI p, fI 1, fI ((sv : Nat) : Int)]) (h' := u) (cl' := 0) (sl' := 0) rfl ?_
        refine fx_shl rfl (by omega) (by omega) ?_
        refine ik_Wk 1 (pc' := 78) (loc' := [some (.ref 66), some (fI ((sv : Nat) : Int)), some (fI k0), some (fI p), some (fI i)]) (st' := [fI ((1 <<< p.toNat : Nat) : Int), fI ((sv : Nat) : Int)]) (h' := u) (cl' := 0) (sl' := 0) rfl ?_
        refine fx_or (m := sv) (n := 1 <<< p.toNat) rfl ?_
        refine ik_Wk 1 (pc' := 80) (loc' := [some (.ref 66), some (fI ((sv ||| (1 <<< p.toNat) : Nat) : Int)), some (fI k0), some (fI p), some (fI i)]) (st' := []) (h' := u) (cl' := 0) (sl' := 0) rfl ?_
        refine fw_inc (a := i) (loc' := [some (.ref 66), some (fI ((sv ||| (1 <<< p.toNat) : Nat) : Int)), some (fI k0), some (fI p), some (fI (i + 1))]) rfl rfl (Nat.le_of_ble_eq_true rfl) rfl ?_
        refine ik_Wk 1 (pc' := 41) (loc' := [some (.ref 66), some (fI ((sv ||| (1 <<< p.toNat) : Nat) : Int)), some (fI k0), some (fI p), some (fI (i + 1))]) (st' := []) (h' := u) (cl' := 0) (sl' := 0) rfl ?_
        have et := mj_sp_t (g := (go.getD (4 * p + i).toNat 0).toNat) hs
        have eg : mj_G cn go p.toNat (i + 1).toNat = mj_G cn go p.toNat i.toNat ||| 1 <<< (go.getD (4 * p + i).toNat 0).toNat := by
          rw [show (i + 1).toNat = i.toNat + 1 by omega]
          show _ ||| 1 <<< (go.getD (4 * p.toNat + i.toNat) 0).toNat = _
          rw [show 4 * p.toNat + i.toNat = (4 * p + i).toNat by omega]
        rw [if_pos hb2] at et
        exact ih (i + 1) (sv ||| (1 <<< p.toNat)) u u66 u67 n67 u68 n68 ul F (by omega) (by rw [eg]; exact et) (by omega)
      · refine ik_Wk 0 (pc' := 5) (loc' := [some (fI ((sv : Nat) : Int)), some (fI (go.getD ((4 * p) + i).toNat 0))]) (st' := [fI 0]) (h' := u) (cl' := 0) (sl' := 0) rfl ?_
        refine ik_Wk 1 (pc' := 6) (loc' := [some (fI ((sv : Nat) : Int)), some (fI (go.getD ((4 * p) + i).toNat 0))]) (st' := [fI 1, fI 0]) (h' := u) (cl' := 0) (sl' := 0) rfl ?_
        refine fw_ic_ne rfl rfl (by omega) (by omega) (by omega) (by omega) (fun hc5 => absurd hc5 (by omega)) (fun hc5 => ?_)
        refine ik_Wk 1 (pc' := 14) (loc' := [some (fI ((sv : Nat) : Int)), some (fI (go.getD ((4 * p) + i).toNat 0))]) (st' := [fI 0]) (h' := u) (cl' := 0) (sl' := 0) rfl ?_
        refine ik_Wret rfl rfl ⟨_, _, rfl, rfl, ?_⟩
        refine ik_Wk 0 (pc' := 68) (loc' := [some (.ref 66), some (fI ((sv : Nat) : Int)), some (fI k0), some (fI p), some (fI i)]) (st' := [fI 0, fI ((sv : Nat) : Int)]) (h' := u) (cl' := 0) (sl' := 0) rfl ?_
        refine fw_if_eq rfl rfl (by omega) (by omega) (fun hc6 => ?_) (fun hc6 => absurd hc6 (by omega))
        refine ik_Wk 1 (pc' := 78) (loc' := [some (.ref 66), some (fI ((sv : Nat) : Int)), some (fI k0), some (fI p), some (fI i)]) (st' := [fI 0, fI ((sv : Nat) : Int)]) (h' := u) (cl' := 0) (sl' := 0) rfl ?_
        refine fx_or (m := sv) (n := 0) rfl ?_
        refine ik_Wk 1 (pc' := 80) (loc' := [some (.ref 66), some (fI ((sv ||| 0 : Nat) : Int)), some (fI k0), some (fI p), some (fI i)]) (st' := []) (h' := u) (cl' := 0) (sl' := 0) rfl ?_
        refine fw_inc (a := i) (loc' := [some (.ref 66), some (fI ((sv ||| 0 : Nat) : Int)), some (fI k0), some (fI p), some (fI (i + 1))]) rfl rfl (Nat.le_of_ble_eq_true rfl) rfl ?_
        refine ik_Wk 1 (pc' := 41) (loc' := [some (.ref 66), some (fI ((sv ||| 0 : Nat) : Int)), some (fI k0), some (fI p), some (fI (i + 1))]) (st' := []) (h' := u) (cl' := 0) (sl' := 0) rfl ?_
        have et := mj_sp_t (g := (go.getD (4 * p + i).toNat 0).toNat) hs
        have eg : mj_G cn go p.toNat (i + 1).toNat = mj_G cn go p.toNat i.toNat ||| 1 <<< (go.getD (4 * p + i).toNat 0).toNat := by
          rw [show (i + 1).toNat = i.toNat + 1 by omega]
          show _ ||| 1 <<< (go.getD (4 * p.toNat + i.toNat) 0).toNat = _
          rw [show 4 * p.toNat + i.toNat = (4 * p + i).toNat by omega]
        rw [if_neg (by rw [hb2]; decide)] at et
        exact ih (i + 1) (sv ||| 0) u u66 u67 n67 u68 n68 ul F (by omega) (by rw [eg]; exact et) (by omega)

theorem cr_lostP {h : List ik_E} {pl : Int} {f : Nat → Int} {cn : List Int} {go : List Int} (q0 : 0 ≤ pl ∧ pl ≤ 12) (q1 : ∀ x : Int, 0 ≤ x → x < pl - 1 → (0 ≤ cn.getD x.toNat 0 ∧ cn.getD x.toNat 0 ≤ 4) ∧ ∀ i : Int, 0 ≤ i → i < cn.getD x.toNat 0 → 0 ≤ go.getD (4 * x + i).toNat 0 ∧ go.getD (4 * x + i).toNat 0 < pl) (k0 : Int) (hpl : 1 ≤ pl) (x0 : Nat) (hx0 : x0 < 2 ^ 12) {R : List Value → List ik_E → Prop} (K : ∀ (w : List ik_E) (p2 : Int) (sv : Nat) (x4 : Option Value) (w66 : cE w 66 (.inr (10, [fI pl, .ref 67, .ref 68, .ref 69, fI (f 4), .ref 70, .ref 71, fI (f 7), fI (f 8), .ref 72, fI (f 10), fI (f 11), fI (f 12), fJ (f 13), fI (f 14), fI (f 15), fI (f 16), fI (f 17), .ref 73, .ref 74, .ref 75, .ref 76, .ref 77, .ref 78, fI (f 24), .ref 79, .ref 80, .ref 81, .ref 82, .ref 83, .ref 84, .ref 85, fJ (f 32), fJ (f 33), .ref 86, .ref 87, fI (f 36), .ref 88, .ref 89, .ref 90, .ref 91, .ref 92, .ref 93]))) (w67 : cE w 67 (.inl (.int, fA cn))) (nw_67 : cn.length = 12) (w68 : cE w 68 (.inl (.int, fA go))) (nw_68 : go.length = 48) (wl : w.length = 94) (F : hfr [] h w) (hs : sv = mj_rd (mj_GG cn go) (pl - 1).toNat x0) (w4 : ik_wl 94 x4 = true), ik_G 149 92 [some (.ref 66), some (fI ((sv : Nat) : Int)), some (fI k0), some (fI p2), x4] [] w R) : ∀ (k : Nat) (p : Int) (sv : Nat) (x4 : Option Value) (u : List ik_E) (u66 : cE u 66 (.inr (10, [fI pl, .ref 67, .ref 68, .ref 69, fI (f 4), .ref 70, .ref 71, fI (f 7), fI (f 8), .ref 72, fI (f 10), fI (f 11), fI (f 12), fJ (f 13), fI (f 14), fI (f 15), fI (f 16), fI (f 17), .ref 73, .ref 74, .ref 75, .ref 76, .ref 77, .ref 78, fI (f 24), .ref 79, .ref 80, .ref 81, .ref 82, .ref 83, .ref 84, .ref 85, fJ (f 32), fJ (f 33), .ref 86, .ref 87, fI (f 36), .ref 88, .ref 89, .ref 90, .ref 91, .ref 92, .ref 93]))) (u67 : cE u 67 (.inl (.int, fA cn))) (n67 : cn.length = 12) (u68 : cE u 68 (.inl (.int, fA go))) (n68 : go.length = 48) (ul : u.length = 94) (F : hfr [] h u) (hp : 0 ≤ p ∧ p ≤ pl - 1) (hs : sv = mj_rd (mj_GG cn go) p.toNat x0) (w4 : ik_wl 94 x4 = true) (hk : pl - p < (k : Int)), ik_G 149 28 [some (.ref 66), some (fI ((sv : Nat) : Int)), some (fI k0), some (fI p), x4] [] u R := by
  intro k
  induction k with
  | zero => intro p sv x4 u u66 u67 n67 u68 n68 ul F hp hs w4 hk; omega
  | succ k ih =>
    intro p sv x4 u u66 u67 n67 u68 n68 ul F hp hs w4 hk
    have hsl : sv < 2 ^ 12 := by rw [hs]; exact mj_rd_lt hx0 _ (by omega)
    refine ik_Wk 2 (pc' := 30) (loc' := [some (.ref 66), some (fI ((sv : Nat) : Int)), some (fI k0), some (fI p), x4]) (st' := [.ref 66, fI p]) (h' := u) (cl' := 0) (sl' := 0) rfl ?_
    refine fw_gf rfl rfl u66 rfl ?_
    refine ik_Wk 1 (pc' := 34) (loc' := [some (.ref 66), some (fI ((sv : Nat) : Int)), some (fI k0), some (fI p), x4]) (st' := [fI 1, fI pl, fI p]) (h' := u) (cl' := 0) (sl' := 0) rfl ?_
    refine fw_sub rfl ?_
    refine fw_ic_ge rfl rfl (by omega) (by omega) (by omega) (by omega) (fun hc1 => ?_) (fun hc1 => ?_)
    · have ep : p = pl - 1 := by omega
      rw [ep] at hs
      exact K u p sv x4 u66 u67 n67 u68 n68 ul F hs w4
    · refine ik_Wk 2 (pc' := 41) (loc' := [some (.ref 66), some (fI ((sv : Nat) : Int)), some (fI k0), some (fI p), some (fI 0)]) (st' := []) (h' := u) (cl' := 0) (sl' := 0) rfl ?_
      have hr := q1 p (by omega) (by omega)
      refine cr_lostI (pl := pl) (f := f) (cn := cn) (go := go) q0 q1 k0 p (by omega) sv hsl (R := R) (fun h_358 i2_358 sv_358 g_358_66 g_358_67 m_358_67 g_358_68 m_358_68 k_358 fr_358 hs_358 => ?_) ((cn.getD p.toNat 0).toNat + 1) 0 sv u u66 u67 n67 u68 n68 ul F (by omega) (by show sv = if 0 &&& sv = 0 then sv else _; rw [Nat.zero_and, if_pos rfl]) (by omega)
      refine fw_inc (a := p) (loc' := [some (.ref 66), some (fI ((sv_358 : Nat) : Int)), some (fI k0), some (fI (p + 1)), some (fI i2_358)]) rfl rfl (Nat.le_of_ble_eq_true rfl) rfl ?_
      refine ik_Wk 1 (pc' := 28) (loc' := [some (.ref 66), some (fI ((sv_358 : Nat) : Int)), some (fI k0), some (fI (p + 1)), some (fI i2_358)]) (st' := []) (h' := h_358) (cl' := 0) (sl' := 0) rfl ?_
      exact ih (p + 1) sv_358 (some (fI i2_358)) h_358 g_358_66 g_358_67 m_358_67 g_358_68 m_358_68 k_358 fr_358 (by omega) (by rw [hs_358, hs, show (p + 1).toNat = p.toNat + 1 by omega]; rfl) rfl (by omega)

theorem cr_lostN {h : List ik_E} {pl : Int} {f : Nat → Int} {cn : List Int} {go : List Int} (q0 : 0 ≤ pl ∧ pl ≤ 12) (q1 : ∀ x : Int, 0 ≤ x → x < pl - 1 → (0 ≤ cn.getD x.toNat 0 ∧ cn.getD x.toNat 0 ≤ 4) ∧ ∀ i : Int, 0 ≤ i → i < cn.getD x.toNat 0 → 0 ≤ go.getD (4 * x + i).toNat 0 ∧ go.getD (4 * x + i).toNat 0 < pl) (hpl : 1 ≤ pl) : ∀ (k : Nat) (i : Int) (sv : Nat) (x3 : Option Value) (x4 : Option Value) (u : List ik_E) (u66 : cE u 66 (.inr (10, [fI pl, .ref 67, .ref 68, .ref 69, fI (f 4), .ref 70, .ref 71, fI (f 7), fI (f 8), .ref 72, fI (f 10), fI (f 11), fI (f 12), fJ (f 13), fI (f 14), fI (f 15), fI (f 16), fI (f 17), .ref 73, .ref 74, .ref 75, .ref 76, .ref 77, .ref 78, fI (f 24), .ref 79, .ref 80, .ref 81, .ref 82, .ref 83, .ref 84, .ref 85, fJ (f 32), fJ (f 33), .ref 86, .ref 87, fI (f 36), .ref 88, .ref 89, .ref 90, .ref 91, .ref 92, .ref 93]))) (u67 : cE u 67 (.inl (.int, fA cn))) (n67 : cn.length = 12) (u68 : cE u 68 (.inl (.int, fA go))) (n68 : go.length = 48) (ul : u.length = 94) (F : hfr [] h u) (hi : 0 ≤ i ∧ i ≤ 12) (hs : sv = mj_rn (mj_GG cn go) (pl - 1).toNat i.toNat (1 <<< (pl - 1).toNat)) (w3 : ik_wl 94 x3 = true) (w4 : ik_wl 94 x4 = true) (hk : 12 - i < (k : Int)), ik_G 149 20 [some (.ref 66), some (fI ((sv : Nat) : Int)), some (fI i), x3, x4] [] u (fun rv h' => rv = [fI ((mj_lost pl cn go : Nat) : Int)] ∧ hfr [] h h') := by
  intro k
  induction k with
  | zero => intro i sv x3 x4 u u66 u67 n67 u68 n68 ul F hi hs w3 w4 hk; omega
  | succ k ih =>
    intro i sv x3 x4 u u66 u67 n67 u68 n68 ul F hi hs w3 w4 hk
    have hsl : sv < 2 ^ 12 := by rw [hs]; exact mj_rn_lt (by omega) (mj_shl_lt (by omega)) _
    refine ik_Wk 1 (pc' := 21) (loc' := [some (.ref 66), some (fI ((sv : Nat) : Int)), some (fI i), x3, x4]) (st' := [fI i]) (h' := u) (cl' := 0) (sl' := 0) rfl ?_
    refine fw_bi rfl (by decide) ?_
    refine fw_ic_ge rfl rfl (by omega) (by omega) (by omega) (by omega) (fun hc1 => ?_) (fun hc1 => ?_)
    · refine ik_Wk 2 (pc' := 100) (loc' := [some (.ref 66), some (fI ((sv : Nat) : Int)), some (fI i), x3, x4]) (st' := [.ref 66, fI 1]) (h' := u) (cl' := 0) (sl' := 0) rfl ?_
      refine fw_gf rfl rfl u66 rfl ?_
      refine fx_shl rfl (by omega) (by omega) ?_
      refine ik_Wk 1 (pc' := 105) (loc' := [some (.ref 66), some (fI ((sv : Nat) : Int)), some (fI i), x3, x4]) (st' := [fI 1, fI ((1 <<< pl.toNat : Nat) : Int)]) (h' := u) (cl' := 0) (sl' := 0) rfl ?_
      refine fw_sub rfl ?_
      rw [show ((1 <<< pl.toNat : Nat) : Int) - (1 : Int) = ((1 <<< pl.toNat - 1 : Nat) : Int) from by have := mj_pos pl.toNat; omega]
      refine ik_Wk 2 (pc' := 108) (loc' := [some (.ref 66), some (fI ((sv : Nat) : Int)), some (fI i), x3, x4]) (st' := [fI (-1), fI ((sv : Nat) : Int), fI ((1 <<< pl.toNat - 1 : Nat) : Int)]) (h' := u) (cl' := 0) (sl' := 0) rfl ?_
      refine fx_not (n := sv) rfl ?_
      refine fx_nand (m := 1 <<< pl.toNat - 1) (n := sv) rfl ?_
      have ei : i.toNat = 12 := by omega
      rw [ei] at hs
      exact ik_Wret rfl rfl ⟨_, _, rfl, rfl, rfl, rfl, ⟨(congrArg (fun z => [fI ((z : Nat) : Int)]) (by unfold mj_lost; rw [if_neg (by omega), hs])), F⟩⟩
    · refine ik_Wk 2 (pc' := 28) (loc' := [some (.ref 66), some (fI ((sv : Nat) : Int)), some (fI i), some (fI 0), x4]) (st' := []) (h' := u) (cl' := 0) (sl' := 0) rfl ?_
      refine cr_lostP (pl := pl) (f := f) (cn := cn) (go := go) q0 q1 i hpl sv hsl (R := (fun rv h' => rv = [fI ((mj_lost pl cn go : Nat) : Int)] ∧ hfr [] h h')) (fun h_359 p2_359 sv_359 x4_359 g_359_66 g_359_67 m_359_67 g_359_68 m_359_68 k_359 fr_359 hs_359 w4_359 => ?_) (pl.toNat + 1) 0 sv x4 u u66 u67 n67 u68 n68 ul F (by omega) rfl w4 (by omega)
      refine fw_inc (a := i) (loc' := [some (.ref 66), some (fI ((sv_359 : Nat) : Int)), some (fI (i + 1)), some (fI p2_359), x4_359]) rfl rfl (Nat.le_of_ble_eq_true rfl) rfl ?_
      refine ik_Wk 1 (pc' := 20) (loc' := [some (.ref 66), some (fI ((sv_359 : Nat) : Int)), some (fI (i + 1)), some (fI p2_359), x4_359]) (st' := []) (h' := h_359) (cl' := 0) (sl' := 0) rfl ?_
      exact ih  (i + 1) sv_359 (some (fI p2_359)) x4_359 h_359 g_359_66 g_359_67 m_359_67 g_359_68 m_359_68 k_359 fr_359 (by omega) (by rw [hs_359, show (i + 1).toNat = i.toNat + 1 by omega]; show _ = mj_rd (mj_GG cn go) (pl - 1).toNat (mj_rn (mj_GG cn go) (pl - 1).toNat i.toNat (1 <<< (pl - 1).toNat)); rw [← hs]) rfl w4_359 (by omega)

theorem cr_lost0 {h : List ik_E} {pl : Int} {f : Nat → Int} {cn : List Int} {go : List Int} (q0 : 0 ≤ pl ∧ pl ≤ 12) (q1 : ∀ x : Int, 0 ≤ x → x < pl - 1 → (0 ≤ cn.getD x.toNat 0 ∧ cn.getD x.toNat 0 ≤ 4) ∧ ∀ i : Int, 0 ≤ i → i < cn.getD x.toNat 0 → 0 ≤ go.getD (4 * x + i).toNat 0 ∧ go.getD (4 * x + i).toNat 0 < pl) (hpl : pl = 0) : ∀ (k : Nat) (i : Int) (x3 : Option Value) (u : List ik_E) (u66 : cE u 66 (.inr (10, [fI pl, .ref 67, .ref 68, .ref 69, fI (f 4), .ref 70, .ref 71, fI (f 7), fI (f 8), .ref 72, fI (f 10), fI (f 11), fI (f 12), fJ (f 13), fI (f 14), fI (f 15), fI (f 16), fI (f 17), .ref 73, .ref 74, .ref 75, .ref 76, .ref 77, .ref 78, fI (f 24), .ref 79, .ref 80, .ref 81, .ref 82, .ref 83, .ref 84, .ref 85, fJ (f 32), fJ (f 33), .ref 86, .ref 87, fI (f 36), .ref 88, .ref 89, .ref 90, .ref 91, .ref 92, .ref 93]))) (u67 : cE u 67 (.inl (.int, fA cn))) (n67 : cn.length = 12) (u68 : cE u 68 (.inl (.int, fA go))) (n68 : go.length = 48) (ul : u.length = 94) (F : hfr [] h u) (hi : 0 ≤ i ∧ i ≤ 12) (w3 : ik_wl 94 x3 = true) (hk : 12 - i < (k : Int)), ik_G 149 20 [some (.ref 66), some (fI 0), some (fI i), x3, none] [] u (fun rv h' => rv = [fI ((mj_lost pl cn go : Nat) : Int)] ∧ hfr [] h h') := by
  intro k
  induction k with
  | zero => intro i x3 u u66 u67 n67 u68 n68 ul F hi w3 hk; omega
  | succ k ih =>
    intro i x3 u u66 u67 n67 u68 n68 ul F hi w3 hk
    refine ik_Wk 1 (pc' := 21) (loc' := [some (.ref 66), some (fI 0), some (fI i), x3, none]) (st' := [fI i]) (h' := u) (cl' := 0) (sl' := 0) rfl ?_
    refine fw_bi rfl (by decide) ?_
    refine fw_ic_ge rfl rfl (by omega) (by omega) (by omega) (by omega) (fun hc1 => ?_) (fun hc1 => ?_)
    · refine ik_Wk 2 (pc' := 100) (loc' := [some (.ref 66), some (fI 0), some (fI i), x3, none]) (st' := [.ref 66, fI 1]) (h' := u) (cl' := 0) (sl' := 0) rfl ?_
      refine fw_gf rfl rfl u66 rfl ?_
      refine fx_shl rfl (by omega) (by omega) ?_
      refine ik_Wk 1 (pc' := 105) (loc' := [some (.ref 66), some (fI 0), some (fI i), x3, none]) (st' := [fI 1, fI ((1 <<< pl.toNat : Nat) : Int)]) (h' := u) (cl' := 0) (sl' := 0) rfl ?_
      refine fw_sub rfl ?_
      rw [show ((1 <<< pl.toNat : Nat) : Int) - (1 : Int) = ((1 <<< pl.toNat - 1 : Nat) : Int) from by have := mj_pos pl.toNat; omega]
      refine ik_Wk 2 (pc' := 108) (loc' := [some (.ref 66), some (fI 0), some (fI i), x3, none]) (st' := [fI (-1), fI 0, fI ((1 <<< pl.toNat - 1 : Nat) : Int)]) (h' := u) (cl' := 0) (sl' := 0) rfl ?_
      refine fx_not (n := 0) rfl ?_
      refine fx_nand (m := 1 <<< pl.toNat - 1) (n := 0) rfl ?_
      exact ik_Wret rfl rfl ⟨_, _, rfl, rfl, rfl, rfl, ⟨(congrArg (fun z => [fI ((z : Nat) : Int)]) (by unfold mj_lost; rw [if_pos hpl, hpl]; rfl)), F⟩⟩
    · refine ik_Wk 4 (pc' := 30) (loc' := [some (.ref 66), some (fI 0), some (fI i), some (fI 0), none]) (st' := [.ref 66, fI 0]) (h' := u) (cl' := 0) (sl' := 0) rfl ?_
      refine fw_gf rfl rfl u66 rfl ?_
      refine ik_Wk 1 (pc' := 34) (loc' := [some (.ref 66), some (fI 0), some (fI i), some (fI 0), none]) (st' := [fI 1, fI pl, fI 0]) (h' := u) (cl' := 0) (sl' := 0) rfl ?_
      refine fw_sub rfl ?_
      refine fw_ic_ge rfl rfl (by omega) (by omega) (by omega) (by omega) (fun hc2 => ?_) (fun hc2 => absurd hc2 (by omega))
      refine fw_inc (a := i) (loc' := [some (.ref 66), some (fI 0), some (fI (i + 1)), some (fI 0), none]) rfl rfl (Nat.le_of_ble_eq_true rfl) rfl ?_
      refine ik_Wk 1 (pc' := 20) (loc' := [some (.ref 66), some (fI 0), some (fI (i + 1)), some (fI 0), none]) (st' := []) (h' := u) (cl' := 0) (sl' := 0) rfl ?_
      exact ih  (i + 1) (some (fI 0)) u u66 u67 n67 u68 n68 ul F (by omega) rfl (by omega)

theorem cr_lost {h : List ik_E} {pl : Int} {f : Nat → Int} {cn : List Int} {go : List Int} (q0 : 0 ≤ pl ∧ pl ≤ 12) (q1 : ∀ x : Int, 0 ≤ x → x < pl - 1 → (0 ≤ cn.getD x.toNat 0 ∧ cn.getD x.toNat 0 ≤ 4) ∧ ∀ i : Int, 0 ≤ i → i < cn.getD x.toNat 0 → 0 ≤ go.getD (4 * x + i).toNat 0 ∧ go.getD (4 * x + i).toNat 0 < pl) (h66 : cE h 66 (.inr (10, [fI pl, .ref 67, .ref 68, .ref 69, fI (f 4), .ref 70, .ref 71, fI (f 7), fI (f 8), .ref 72, fI (f 10), fI (f 11), fI (f 12), fJ (f 13), fI (f 14), fI (f 15), fI (f 16), fI (f 17), .ref 73, .ref 74, .ref 75, .ref 76, .ref 77, .ref 78, fI (f 24), .ref 79, .ref 80, .ref 81, .ref 82, .ref 83, .ref 84, .ref 85, fJ (f 32), fJ (f 33), .ref 86, .ref 87, fI (f 36), .ref 88, .ref 89, .ref 90, .ref 91, .ref 92, .ref 93]))) (h67 : cE h 67 (.inl (.int, fA cn))) (n67 : cn.length = 12) (h68 : cE h 68 (.inl (.int, fA go))) (n68 : go.length = 48) (hl : h.length = 94) : ik_F 149 [.ref 66] h (fun rv h' => rv = [fI ((mj_lost pl cn go : Nat) : Int)] ∧ hfr [] h h') := by
  refine ik_Wk 1 (pc' := 1) (loc' := [some (.ref 66), none, none, none, none]) (st' := [.ref 66]) (h' := h) (cl' := 0) (sl' := 0) rfl ?_
  refine fw_gf rfl rfl h66 rfl ?_
  refine fw_if_le rfl rfl (by omega) (by omega) (fun hc1 => ?_) (fun hc1 => ?_)
  · refine ik_Wk 4 (pc' := 20) (loc' := [some (.ref 66), some (fI 0), some (fI 0), none, none]) (st' := []) (h' := h) (cl' := 0) (sl' := 0) rfl ?_
    exact cr_lost0 (pl := pl) (f := f) (cn := cn) (go := go) q0 q1 (by omega) 13 0 none h h66 h67 n67 h68 n68 hl (hfr_refl [] h) (by omega) rfl (by omega)
  · refine ik_Wk 2 (pc' := 9) (loc' := [some (.ref 66), none, none, none, none]) (st' := [.ref 66, fI 1]) (h' := h) (cl' := 0) (sl' := 0) rfl ?_
    refine ik_Wc 130 1 0 [.ref 66] [fI 1] rfl rfl rfl (by decide) rfl rfl (fw_rec hl rfl h66 rfl (by decide)) ?_
    refine ik_Wk 0 (pc' := 0) (loc' := [some (.ref 66)]) (st' := []) (h' := h) (cl' := 0) (sl' := 0) rfl ?_
    refine ik_Wk 1 (pc' := 1) (loc' := [some (.ref 66)]) (st' := [.ref 66]) (h' := h) (cl' := 0) (sl' := 0) rfl ?_
    refine fw_gf rfl rfl h66 rfl ?_
    refine ik_Wk 1 (pc' := 5) (loc' := [some (.ref 66)]) (st' := [fI 1, fI pl]) (h' := h) (cl' := 0) (sl' := 0) rfl ?_
    refine fw_sub rfl ?_
    refine ik_Wret rfl rfl ⟨_, _, rfl, rfl, ?_⟩
    refine ik_Wk 0 (pc' := 12) (loc' := [some (.ref 66), none, none, none, none]) (st' := [fI (pl - 1), fI 1]) (h' := h) (cl' := 0) (sl' := 0) rfl ?_
    refine fx_shl rfl (by omega) (by omega) ?_
    refine ik_Wk 4 (pc' := 20) (loc' := [some (.ref 66), some (fI ((1 <<< (pl - 1).toNat : Nat) : Int)), some (fI 0), none, none]) (st' := []) (h' := h) (cl' := 0) (sl' := 0) rfl ?_
    exact cr_lostN (pl := pl) (f := f) (cn := cn) (go := go) q0 q1 (by omega) 13 0 (1 <<< (pl - 1).toNat) none none h h66 h67 n67 h68 n68 hl (hfr_refl [] h) (by omega) rfl rfl rfl (by omega)

theorem rp_keptL {h : List ik_E} {pl : Int} {f : Nat → Int} {s : Nat} {cn : List Int} {go : List Int} {ch : List Int} {gt : List Int} {gd : List Int} {xs : List Int} {ys : List Int} {kd : Int} {p : Int} {t : Int} (q0 : 0 ≤ pl ∧ pl ≤ 12) (q1 : s < 4096) (q2 : ∀ x : Int, 0 ≤ x → x < pl - 1 → 0 ≤ cn.getD x.toNat 0 ∧ cn.getD x.toNat 0 ≤ 4) (q3 : ∀ x : Int, 0 ≤ x → x < pl - 1 → 1 ≤ cn.getD x.toNat 0 ∧ ∀ j : Int, 4 * x ≤ j → j < 4 * x + cn.getD x.toNat 0 → 0 ≤ ch.getD j.toNat 0 ∧ ch.getD j.toNat 0 ≤ 100) (q4 : ∀ x : Int, 0 ≤ x → x < pl - 1 → mx_ok pl (mx_w cn go ch s x)) (q5 : mx_rw pl cn go ch) (q6 : -2147483648 ≤ kd ∧ kd < 2147483648) (q7 : -2147483648 ≤ p ∧ p < 2147483648) (q8 : -2147483648 ≤ t ∧ t < 2147483648) {w1 : Int} {g1 d1 x1 y1 : List Int} (hkp : ((0 ≤ kd ∧ kd ≤ 2) ∧ (0 ≤ p ∧ p < pl)) ∧ 0 ≤ t ∧ t ≤ 200) (his : mf_is pl x1 (mf_od (fun x => mx_w cn go ch s x) (pl - 1) kd p t.toNat)) : ∀ (k : Nat) (i : Int) (sm : Int) (u : List ik_E) (u66 : cE u 66 (.inr (10, [fI pl, .ref 67, .ref 68, .ref 69, fI ((s : Nat) : Int), .ref 70, .ref 71, fI (f 7), fI (f 8), .ref 72, fI (f 10), fI (f 11), fI (f 12), fJ (f 13), fI (f 14), fI (f 15), fI (f 16), fI (f 17), .ref 73, .ref 74, .ref 75, .ref 76, .ref 77, .ref 78, fI w1, .ref 79, .ref 80, .ref 81, .ref 82, .ref 83, .ref 84, .ref 85, fJ (f 32), fJ (f 33), .ref 86, .ref 87, fI (f 36), .ref 88, .ref 89, .ref 90, .ref 91, .ref 92, .ref 93]))) (u67 : cE u 67 (.inl (.int, fA cn))) (n67 : cn.length = 12) (u68 : cE u 68 (.inl (.int, fA go))) (n68 : go.length = 48) (u69 : cE u 69 (.inl (.int, fA ch))) (n69 : ch.length = 48) (u77 : cE u 77 (.inl (.int, fA g1))) (n77 : g1.length = 5) (u78 : cE u 78 (.inl (.int, fA d1))) (n78 : d1.length = 5) (u79 : cE u 79 (.inl (.long, fL x1))) (n79 : x1.length = 12) (u80 : cE u 80 (.inl (.long, fL y1))) (n80 : y1.length = 12) (ul : u.length = 94) (F : hfr [66, 77, 78, 79, 80] h u) (hi : 0 ≤ i ∧ i ≤ pl) (hs : sm = mf_ss (mj_lost pl cn go) (mf_od (fun x => mx_w cn go ch s x) (pl - 1) kd p t.toNat) i.toNat) (hk : pl - i < (k : Int)), ik_G 162 47 [some (.ref 66), some (fI kd), some (fI p), some (fI t), some (fJ sm), none, some (fI (((mj_lost pl cn go) : Nat) : Int)), some (fI i)] [] u (fun rv h' => ∃ (w' : Int) (gt' : List Int) (gd' : List Int) (xs' : List Int) (ys' : List Int), rv = [fI (an_kp kd p pl t (mf_ss (mj_lost pl cn go) (mf_od (fun x => mx_w cn go ch s x) (pl - 1) kd p t.toNat) pl.toNat))] ∧ cE h' 66 (.inr (10, [fI pl, .ref 67, .ref 68, .ref 69, fI ((s : Nat) : Int), .ref 70, .ref 71, fI (f 7), fI (f 8), .ref 72, fI (f 10), fI (f 11), fI (f 12), fJ (f 13), fI (f 14), fI (f 15), fI (f 16), fI (f 17), .ref 73, .ref 74, .ref 75, .ref 76, .ref 77, .ref 78, fI w', .ref 79, .ref 80, .ref 81, .ref 82, .ref 83, .ref 84, .ref 85, fJ (f 32), fJ (f 33), .ref 86, .ref 87, fI (f 36), .ref 88, .ref 89, .ref 90, .ref 91, .ref 92, .ref 93])) ∧ cE h' 77 (.inl (.int, fA gt')) ∧ gt'.length = 5 ∧ cE h' 78 (.inl (.int, fA gd')) ∧ gd'.length = 5 ∧ cE h' 79 (.inl (.long, fL xs')) ∧ xs'.length = 12 ∧ cE h' 80 (.inl (.long, fL ys')) ∧ ys'.length = 12 ∧ hfr [66, 77, 78, 79, 80] h h') := by
  intro k
  induction k with
  | zero => intro i sm u u66 u67 n67 u68 n68 u69 n69 u77 n77 u78 n78 u79 n79 u80 n80 ul F hi hs hk; omega
  | succ k ih =>
    intro i sm u u66 u67 n67 u68 n68 u69 n69 u77 n77 u78 n78 u79 n79 u80 n80 ul F hi hs hk
    have hll : (mj_lost pl cn go) < 4096 := mj_lg_lt (by omega)
    refine ik_Wk 2 (pc' := 50) (loc' := [some (.ref 66), some (fI kd), some (fI p), some (fI t), some (fJ sm), none, some (fI (((mj_lost pl cn go) : Nat) : Int)), some (fI i)]) (st' := [.ref 66, fI i]) (h' := u) (cl' := 0) (sl' := 0) rfl ?_
    refine fw_gf rfl rfl u66 rfl ?_
    refine fw_ic_ge rfl rfl (by omega) (by omega) (by omega) (by omega) (fun hc1 => ?_) (fun hc1 => ?_)
    · refine ik_Wk 1 (pc' := 90) (loc' := [some (.ref 66), some (fI kd), some (fI p), some (fI t), some (fJ sm), none, some (fI (((mj_lost pl cn go) : Nat) : Int)), some (fI i)]) (st' := [fJ sm]) (h' := u) (cl' := 0) (sl' := 0) rfl ?_
      refine fx_l2i rfl ?_
      have ei : i = pl := by omega
      rw [ei] at hs
      exact ik_Wret rfl rfl ⟨_, _, rfl, rfl, rfl, rfl, ⟨w1, g1, d1, x1, y1, (congrArg (fun z => [fI z]) (by rw [an_kp, if_pos hkp.1, if_pos hkp.2, hs])), u66, u77, n77, u78, n78, u79, n79, u80, n80, F⟩⟩
    · refine ik_Wk 3 (pc' := 62) (loc' := [some (.ref 66), some (fI kd), some (fI p), some (fI t), some (fJ sm), none, some (fI (((mj_lost pl cn go) : Nat) : Int)), some (fI i)]) (st' := [fI i, fI (((mj_lost pl cn go) : Nat) : Int), fJ sm]) (h' := u) (cl' := 0) (sl' := 0) rfl ?_
      refine ik_Wc 128 2 3 [fI (((mj_lost pl cn go) : Nat) : Int), fI i] [fJ sm] rfl rfl rfl (by decide) rfl rfl (fw_sta ul rfl (by decide)) ?_
      refine ik_Wk 0 (pc' := 0) (loc' := [some (fI (((mj_lost pl cn go) : Nat) : Int)), some (fI i)]) (st' := []) (h' := u) (cl' := 0) (sl' := 0) rfl ?_
      refine ik_Wk 2 (pc' := 2) (loc' := [some (fI (((mj_lost pl cn go) : Nat) : Int)), some (fI i)]) (st' := [fI i, fI (((mj_lost pl cn go) : Nat) : Int)]) (h' := u) (cl' := 0) (sl' := 0) rfl ?_
      refine fx_shr (n := (mj_lost pl cn go)) rfl (by omega) (by omega) (by omega) ?_
      refine ik_Wk 1 (pc' := 4) (loc' := [some (fI (((mj_lost pl cn go) : Nat) : Int)), some (fI i)]) (st' := [fI 1, fI (((mj_lost pl cn go) >>> i.toNat : Nat) : Int)]) (h' := u) (cl' := 0) (sl' := 0) rfl ?_
      refine fx_bit (n := (mj_lost pl cn go)) (k := i.toNat) rfl (fun hb2 => ?_) (fun hb2 => ?_)
      · refine ik_Wk 0 (pc' := 5) (loc' := [some (fI (((mj_lost pl cn go) : Nat) : Int)), some (fI i)]) (st' := [fI 1]) (h' := u) (cl' := 0) (sl' := 0) rfl ?_
        refine ik_Wk 1 (pc' := 6) (loc' := [some (fI (((mj_lost pl cn go) : Nat) : Int)), some (fI i)]) (st' := [fI 1, fI 1]) (h' := u) (cl' := 0) (sl' := 0) rfl ?_
        refine fw_ic_ne rfl rfl (by omega) (by omega) (by omega) (by omega) (fun hc3 => ?_) (fun hc3 => absurd hc3 (by omega))
        refine ik_Wk 2 (pc' := 14) (loc' := [some (fI (((mj_lost pl cn go) : Nat) : Int)), some (fI i)]) (st' := [fI 1]) (h' := u) (cl' := 0) (sl' := 0) rfl ?_
        refine ik_Wret rfl rfl ⟨_, _, rfl, rfl, ?_⟩
        refine ik_Wk 0 (pc' := 65) (loc' := [some (.ref 66), some (fI kd), some (fI p), some (fI t), some (fJ sm), none, some (fI (((mj_lost pl cn go) : Nat) : Int)), some (fI i)]) (st' := [fI 1, fJ sm]) (h' := u) (cl' := 0) (sl' := 0) rfl ?_
        refine fw_if_eq rfl rfl (by omega) (by omega) (fun hc4 => absurd hc4 (by omega)) (fun hc4 => ?_)
        refine ik_Wk 1 (pc' := 69) (loc' := [some (.ref 66), some (fI kd), some (fI p), some (fI t), some (fJ sm), none, some (fI (((mj_lost pl cn go) : Nat) : Int)), some (fI i)]) (st' := [.ref 66, fJ sm]) (h' := u) (cl' := 0) (sl' := 0) rfl ?_
        refine fw_gf rfl rfl u66 rfl ?_
        refine ik_Wk 1 (pc' := 74) (loc' := [some (.ref 66), some (fI kd), some (fI p), some (fI t), some (fJ sm), none, some (fI (((mj_lost pl cn go) : Nat) : Int)), some (fI i)]) (st' := [fI i, .ref 79, fJ sm]) (h' := u) (cl' := 0) (sl' := 0) rfl ?_
        refine fx_lal rfl u79 (by omega) (by omega) (by omega) ?_
        refine ik_Wk 1 (pc' := 79) (loc' := [some (.ref 66), some (fI kd), some (fI p), some (fI t), some (fJ sm), none, some (fI (((mj_lost pl cn go) : Nat) : Int)), some (fI i)]) (st' := [fJ (x1.getD i.toNat 0), fJ sm]) (h' := u) (cl' := 0) (sl' := 0) rfl ?_
        refine fw_ladd rfl ?_
        refine ik_Wk 1 (pc' := 82) (loc' := [some (.ref 66), some (fI kd), some (fI p), some (fI t), some (fJ (sm + (x1.getD i.toNat 0))), none, some (fI (((mj_lost pl cn go) : Nat) : Int)), some (fI i)]) (st' := []) (h' := u) (cl' := 0) (sl' := 0) rfl ?_
        refine fw_inc (a := i) (loc' := [some (.ref 66), some (fI kd), some (fI p), some (fI t), some (fJ (sm + (x1.getD i.toNat 0))), none, some (fI (((mj_lost pl cn go) : Nat) : Int)), some (fI (i + 1))]) rfl rfl (Nat.le_of_ble_eq_true rfl) rfl ?_
        refine ik_Wk 1 (pc' := 47) (loc' := [some (.ref 66), some (fI kd), some (fI p), some (fI t), some (fJ (sm + (x1.getD i.toNat 0))), none, some (fI (((mj_lost pl cn go) : Nat) : Int)), some (fI (i + 1))]) (st' := []) (h' := u) (cl' := 0) (sl' := 0) rfl ?_
        exact ih  (i + 1) (sm + (x1.getD i.toNat 0)) u u66 u67 n67 u68 n68 u69 n69 u77 n77 u78 n78 u79 n79 u80 n80 ul F (by omega) (by rw [mf_ss_s (by omega), if_pos hb2, ← hs, his _ (by omega)]) (by omega)
      · refine ik_Wk 0 (pc' := 5) (loc' := [some (fI (((mj_lost pl cn go) : Nat) : Int)), some (fI i)]) (st' := [fI 0]) (h' := u) (cl' := 0) (sl' := 0) rfl ?_
        refine ik_Wk 1 (pc' := 6) (loc' := [some (fI (((mj_lost pl cn go) : Nat) : Int)), some (fI i)]) (st' := [fI 1, fI 0]) (h' := u) (cl' := 0) (sl' := 0) rfl ?_
        refine fw_ic_ne rfl rfl (by omega) (by omega) (by omega) (by omega) (fun hc5 => absurd hc5 (by omega)) (fun hc5 => ?_)
        refine ik_Wk 1 (pc' := 14) (loc' := [some (fI (((mj_lost pl cn go) : Nat) : Int)), some (fI i)]) (st' := [fI 0]) (h' := u) (cl' := 0) (sl' := 0) rfl ?_
        refine ik_Wret rfl rfl ⟨_, _, rfl, rfl, ?_⟩
        refine ik_Wk 0 (pc' := 65) (loc' := [some (.ref 66), some (fI kd), some (fI p), some (fI t), some (fJ sm), none, some (fI (((mj_lost pl cn go) : Nat) : Int)), some (fI i)]) (st' := [fI 0, fJ sm]) (h' := u) (cl' := 0) (sl' := 0) rfl ?_
        refine fw_if_eq rfl rfl (by omega) (by omega) (fun hc6 => ?_) (fun hc6 => absurd hc6 (by omega))
        refine fw_lc (z := 0) rfl (by decide) ?_
        refine fw_ladd rfl ?_
        refine ik_Wk 1 (pc' := 82) (loc' := [some (.ref 66), some (fI kd), some (fI p), some (fI t), some (fJ (sm + 0)), none, some (fI (((mj_lost pl cn go) : Nat) : Int)), some (fI i)]) (st' := []) (h' := u) (cl' := 0) (sl' := 0) rfl ?_
        refine fw_inc (a := i) (loc' := [some (.ref 66), some (fI kd), some (fI p), some (fI t), some (fJ (sm + 0)), none, some (fI (((mj_lost pl cn go) : Nat) : Int)), some (fI (i + 1))]) rfl rfl (Nat.le_of_ble_eq_true rfl) rfl ?_
        refine ik_Wk 1 (pc' := 47) (loc' := [some (.ref 66), some (fI kd), some (fI p), some (fI t), some (fJ (sm + 0)), none, some (fI (((mj_lost pl cn go) : Nat) : Int)), some (fI (i + 1))]) (st' := []) (h' := u) (cl' := 0) (sl' := 0) rfl ?_
        exact ih  (i + 1) (sm + 0) u u66 u67 n67 u68 n68 u69 n69 u77 n77 u78 n78 u79 n79 u80 n80 ul F (by omega) (by rw [mf_ss_s (by omega), if_neg (by rw [hb2]; decide), ← hs]) (by omega)

theorem rp_kept {h : List ik_E} {pl : Int} {f : Nat → Int} {s : Nat} {cn : List Int} {go : List Int} {ch : List Int} {gt : List Int} {gd : List Int} {xs : List Int} {ys : List Int} {kd : Int} {p : Int} {t : Int} (q0 : 0 ≤ pl ∧ pl ≤ 12) (q1 : s < 4096) (q2 : ∀ x : Int, 0 ≤ x → x < pl - 1 → 0 ≤ cn.getD x.toNat 0 ∧ cn.getD x.toNat 0 ≤ 4) (q3 : ∀ x : Int, 0 ≤ x → x < pl - 1 → 1 ≤ cn.getD x.toNat 0 ∧ ∀ j : Int, 4 * x ≤ j → j < 4 * x + cn.getD x.toNat 0 → 0 ≤ ch.getD j.toNat 0 ∧ ch.getD j.toNat 0 ≤ 100) (q4 : ∀ x : Int, 0 ≤ x → x < pl - 1 → mx_ok pl (mx_w cn go ch s x)) (q5 : mx_rw pl cn go ch) (q6 : -2147483648 ≤ kd ∧ kd < 2147483648) (q7 : -2147483648 ≤ p ∧ p < 2147483648) (q8 : -2147483648 ≤ t ∧ t < 2147483648) (h66 : cE h 66 (.inr (10, [fI pl, .ref 67, .ref 68, .ref 69, fI ((s : Nat) : Int), .ref 70, .ref 71, fI (f 7), fI (f 8), .ref 72, fI (f 10), fI (f 11), fI (f 12), fJ (f 13), fI (f 14), fI (f 15), fI (f 16), fI (f 17), .ref 73, .ref 74, .ref 75, .ref 76, .ref 77, .ref 78, fI (f 24), .ref 79, .ref 80, .ref 81, .ref 82, .ref 83, .ref 84, .ref 85, fJ (f 32), fJ (f 33), .ref 86, .ref 87, fI (f 36), .ref 88, .ref 89, .ref 90, .ref 91, .ref 92, .ref 93]))) (h67 : cE h 67 (.inl (.int, fA cn))) (n67 : cn.length = 12) (h68 : cE h 68 (.inl (.int, fA go))) (n68 : go.length = 48) (h69 : cE h 69 (.inl (.int, fA ch))) (n69 : ch.length = 48) (h77 : cE h 77 (.inl (.int, fA gt))) (n77 : gt.length = 5) (h78 : cE h 78 (.inl (.int, fA gd))) (n78 : gd.length = 5) (h79 : cE h 79 (.inl (.long, fL xs))) (n79 : xs.length = 12) (h80 : cE h 80 (.inl (.long, fL ys))) (n80 : ys.length = 12) (hl : h.length = 94) : ik_F 162 [.ref 66, fI kd, fI p, fI t] h (fun rv h' => ∃ (w' : Int) (gt' : List Int) (gd' : List Int) (xs' : List Int) (ys' : List Int), rv = [fI (an_kp kd p pl t (mf_ss (mj_lost pl cn go) (mf_od (fun x => mx_w cn go ch s x) (pl - 1) kd p t.toNat) pl.toNat))] ∧ cE h' 66 (.inr (10, [fI pl, .ref 67, .ref 68, .ref 69, fI ((s : Nat) : Int), .ref 70, .ref 71, fI (f 7), fI (f 8), .ref 72, fI (f 10), fI (f 11), fI (f 12), fJ (f 13), fI (f 14), fI (f 15), fI (f 16), fI (f 17), .ref 73, .ref 74, .ref 75, .ref 76, .ref 77, .ref 78, fI w', .ref 79, .ref 80, .ref 81, .ref 82, .ref 83, .ref 84, .ref 85, fJ (f 32), fJ (f 33), .ref 86, .ref 87, fI (f 36), .ref 88, .ref 89, .ref 90, .ref 91, .ref 92, .ref 93])) ∧ cE h' 77 (.inl (.int, fA gt')) ∧ gt'.length = 5 ∧ cE h' 78 (.inl (.int, fA gd')) ∧ gd'.length = 5 ∧ cE h' 79 (.inl (.long, fL xs')) ∧ xs'.length = 12 ∧ cE h' 80 (.inl (.long, fL ys')) ∧ ys'.length = 12 ∧ hfr [66, 77, 78, 79, 80] h h') := by
  refine ik_Wk 1 (pc' := 1) (loc' := [some (.ref 66), some (fI kd), some (fI p), some (fI t), none, none, none, none]) (st' := [fI kd]) (h' := h) (cl' := 0) (sl' := 0) rfl ?_
  refine ik_Wc 133 1 3 [fI kd] [] rfl rfl rfl (by decide) rfl rfl (fw_sta hl rfl (by decide)) ?_
  refine ik_Wk 0 (pc' := 0) (loc' := [some (fI kd)]) (st' := []) (h' := h) (cl' := 0) (sl' := 0) rfl ?_
  refine ik_Wk 1 (pc' := 1) (loc' := [some (fI kd)]) (st' := [fI kd]) (h' := h) (cl' := 0) (sl' := 0) rfl ?_
  refine fw_i2l rfl (by omega) (by omega) ?_
  refine fw_lc (z := 0) rfl (by decide) ?_
  refine fw_l2 2 rfl rfl (by decide) ?_
  refine fw_call 127 3 3 [fJ kd, fJ 0, fJ 2] [] rfl rfl rfl (by decide) rfl rfl (fw_sta hl rfl (by decide)) (cr_in (v := kd) (a := 0) (b := 2) (by omega) (by omega) (by omega)  hl) ?_
  rintro _ h_360 (⟨rfl, p_360_0, F_360⟩ | ⟨rfl, p_360_0, F_360⟩)
  · have k_360 := F_360.1.trans hl
    have fr_360 := hfr_c (hfr_refl [66, 77, 78, 79, 80] h) F_360 (by decide)
    have g_360_66 := (F_360.2 66 (by decide +kernel)).trans h66
    have g_360_67 := (F_360.2 67 (by decide +kernel)).trans h67
    have g_360_68 := (F_360.2 68 (by decide +kernel)).trans h68
    have g_360_69 := (F_360.2 69 (by decide +kernel)).trans h69
    have g_360_77 := (F_360.2 77 (by decide +kernel)).trans h77
    have g_360_78 := (F_360.2 78 (by decide +kernel)).trans h78
    have g_360_79 := (F_360.2 79 (by decide +kernel)).trans h79
    have g_360_80 := (F_360.2 80 (by decide +kernel)).trans h80
    refine ik_Wk 0 (pc' := 9) (loc' := [some (fI kd)]) (st' := [fI 1]) (h' := h_360) (cl' := 0) (sl' := 0) rfl ?_
    refine ik_Wret rfl rfl ⟨_, _, rfl, rfl, ?_⟩
    refine ik_Wk 0 (pc' := 4) (loc' := [some (.ref 66), some (fI kd), some (fI p), some (fI t), none, none, none, none]) (st' := [fI 1]) (h' := h_360) (cl' := 0) (sl' := 0) rfl ?_
    refine fw_if_eq rfl rfl (by omega) (by omega) (fun hc1 => absurd hc1 (by omega)) (fun hc1 => ?_)
    refine ik_Wk 2 (pc' := 9) (loc' := [some (.ref 66), some (fI kd), some (fI p), some (fI t), none, none, none, none]) (st' := [fI p, .ref 66]) (h' := h_360) (cl' := 0) (sl' := 0) rfl ?_
    refine ik_Wc 129 2 0 [.ref 66, fI p] [] rfl rfl rfl (by decide) rfl rfl (fw_rec k_360 rfl g_360_66 rfl (by decide)) ?_
    refine ik_Wk 0 (pc' := 0) (loc' := [some (.ref 66), some (fI p)]) (st' := []) (h' := h_360) (cl' := 0) (sl' := 0) rfl ?_
    refine ik_Wk 1 (pc' := 1) (loc' := [some (.ref 66), some (fI p)]) (st' := [fI p]) (h' := h_360) (cl' := 0) (sl' := 0) rfl ?_
    refine fw_i2l rfl (by omega) (by omega) ?_
    refine fw_lc (z := 0) rfl (by decide) ?_
    refine ik_Wk 1 (pc' := 4) (loc' := [some (.ref 66), some (fI p)]) (st' := [.ref 66, fJ 0, fJ p]) (h' := h_360) (cl' := 0) (sl' := 0) rfl ?_
    refine fw_gf rfl rfl g_360_66 rfl ?_
    refine ik_Wk 1 (pc' := 8) (loc' := [some (.ref 66), some (fI p)]) (st' := [fI 1, fI pl, fJ 0, fJ p]) (h' := h_360) (cl' := 0) (sl' := 0) rfl ?_
    refine fw_sub rfl ?_
    refine fw_i2l rfl (by omega) (by omega) ?_
    refine fw_call 127 3 3 [fJ p, fJ 0, fJ (pl - 1)] [] rfl rfl rfl (by decide) rfl rfl (fw_sta k_360 rfl (by decide)) (cr_in (v := p) (a := 0) (b := pl - 1) (by omega) (by omega) (by omega)  k_360) ?_
    rintro _ h_361 (⟨rfl, p_361_0, F_361⟩ | ⟨rfl, p_361_0, F_361⟩)
    · have k_361 := F_361.1.trans k_360
      have fr_361 := hfr_c fr_360 F_361 (by decide)
      have g_361_66 := (F_361.2 66 (by decide +kernel)).trans g_360_66
      have g_361_67 := (F_361.2 67 (by decide +kernel)).trans g_360_67
      have g_361_68 := (F_361.2 68 (by decide +kernel)).trans g_360_68
      have g_361_69 := (F_361.2 69 (by decide +kernel)).trans g_360_69
      have g_361_77 := (F_361.2 77 (by decide +kernel)).trans g_360_77
      have g_361_78 := (F_361.2 78 (by decide +kernel)).trans g_360_78
      have g_361_79 := (F_361.2 79 (by decide +kernel)).trans g_360_79
      have g_361_80 := (F_361.2 80 (by decide +kernel)).trans g_360_80
      refine ik_Wk 0 (pc' := 13) (loc' := [some (.ref 66), some (fI p)]) (st' := [fI 1]) (h' := h_361) (cl' := 0) (sl' := 0) rfl ?_
      refine ik_Wret rfl rfl ⟨_, _, rfl, rfl, ?_⟩
      refine ik_Wk 0 (pc' := 12) (loc' := [some (.ref 66), some (fI kd), some (fI p), some (fI t), none, none, none, none]) (st' := [fI 1]) (h' := h_361) (cl' := 0) (sl' := 0) rfl ?_
      refine fw_if_ne rfl rfl (by omega) (by omega) (fun hc2 => absurd hc2 (by omega)) (fun hc2 => ?_)
      refine ik_Wk 1 (pc' := 19) (loc' := [some (.ref 66), some (fI kd), some (fI p), some (fI t), none, none, none, none]) (st' := [fI t]) (h' := h_361) (cl' := 0) (sl' := 0) rfl ?_
      refine ik_Wc 159 1 3 [fI t] [] rfl rfl rfl (by decide) rfl rfl (fw_sta k_361 rfl (by decide)) ?_
      refine ik_Wk 0 (pc' := 0) (loc' := [some (fI t)]) (st' := []) (h' := h_361) (cl' := 0) (sl' := 0) rfl ?_
      refine ik_Wk 1 (pc' := 1) (loc' := [some (fI t)]) (st' := [fI t]) (h' := h_361) (cl' := 0) (sl' := 0) rfl ?_
      refine fw_i2l rfl (by omega) (by omega) ?_
      refine fw_lc (z := 0) rfl (by decide) ?_
      refine fw_l2 200 rfl rfl (by decide) ?_
      refine fw_call 127 3 3 [fJ t, fJ 0, fJ 200] [] rfl rfl rfl (by decide) rfl rfl (fw_sta k_361 rfl (by decide)) (cr_in (v := t) (a := 0) (b := 200) (by omega) (by omega) (by omega)  k_361) ?_
      rintro _ h_362 (⟨rfl, p_362_0, F_362⟩ | ⟨rfl, p_362_0, F_362⟩)
      · have k_362 := F_362.1.trans k_361
        have fr_362 := hfr_c fr_361 F_362 (by decide)
        have g_362_66 := (F_362.2 66 (by decide +kernel)).trans g_361_66
        have g_362_67 := (F_362.2 67 (by decide +kernel)).trans g_361_67
        have g_362_68 := (F_362.2 68 (by decide +kernel)).trans g_361_68
        have g_362_69 := (F_362.2 69 (by decide +kernel)).trans g_361_69
        have g_362_77 := (F_362.2 77 (by decide +kernel)).trans g_361_77
        have g_362_78 := (F_362.2 78 (by decide +kernel)).trans g_361_78
        have g_362_79 := (F_362.2 79 (by decide +kernel)).trans g_361_79
        have g_362_80 := (F_362.2 80 (by decide +kernel)).trans g_361_80
        refine ik_Wk 0 (pc' := 9) (loc' := [some (fI t)]) (st' := [fI 1]) (h' := h_362) (cl' := 0) (sl' := 0) rfl ?_
        refine ik_Wret rfl rfl ⟨_, _, rfl, rfl, ?_⟩
        refine ik_Wk 0 (pc' := 22) (loc' := [some (.ref 66), some (fI kd), some (fI p), some (fI t), none, none, none, none]) (st' := [fI 1]) (h' := h_362) (cl' := 0) (sl' := 0) rfl ?_
        refine fw_if_ne rfl rfl (by omega) (by omega) (fun hc3 => absurd hc3 (by omega)) (fun hc3 => ?_)
        refine ik_Wk 4 (pc' := 32) (loc' := [some (.ref 66), some (fI kd), some (fI p), some (fI t), none, none, none, none]) (st' := [fI t, fI p, fI kd, .ref 66]) (h' := h_362) (cl' := 0) (sl' := 0) rfl ?_
        refine fw_call 156 4 0 [.ref 66, fI kd, fI p, fI t] [] rfl rfl rfl (by decide) rfl rfl (fw_rec k_362 rfl g_362_66 rfl (by decide)) (cr_oddsAt (pl := pl) (f := fun j => ([0, 0, 0, 0, 0, 0, 0, f 7, f 8, 0, f 10, f 11, f 12, f 13, f 14, f 15, f 16, f 17, 0, 0, 0, 0, 0, 0, f 24, 0, 0, 0, 0, 0, 0, 0, f 32, f 33, 0, 0, f 36, 0, 0, 0, 0, 0, 0] : List Int).getD j 0) (s := s) (cn := cn) (go := go) (ch := ch) (gt := gt) (gd := gd) (xs := xs) (ys := ys) (kd := kd) (qp := p) (t := t) (by omega) (by omega) q2 q3 q4 (by omega) (by omega) (by omega) g_362_66 g_362_67 n67 g_362_68 n68 g_362_69 n69 g_362_77 n77 g_362_78 n78 g_362_79 n79 g_362_80 n80 k_362) ?_
        rintro _ h_363 ⟨w'_363, gt'_363, gd'_363, xs'_363, ys'_363, rfl, e_363_66, e_363_77, m_363_77, e_363_78, m_363_78, e_363_79, m_363_79, e_363_80, m_363_80, p_363_0, F_363⟩
        have k_363 := F_363.1.trans k_362
        have fr_363 := hfr_c fr_362 F_363 (by decide)
        have g_363_67 := (F_363.2 67 (by decide +kernel)).trans g_362_67
        have g_363_68 := (F_363.2 68 (by decide +kernel)).trans g_362_68
        have g_363_69 := (F_363.2 69 (by decide +kernel)).trans g_362_69
        have g_363_66 : cE h_363 66 (.inr (10, [fI pl, .ref 67, .ref 68, .ref 69, fI ((s : Nat) : Int), .ref 70, .ref 71, fI (f 7), fI (f 8), .ref 72, fI (f 10), fI (f 11), fI (f 12), fJ (f 13), fI (f 14), fI (f 15), fI (f 16), fI (f 17), .ref 73, .ref 74, .ref 75, .ref 76, .ref 77, .ref 78, fI w'_363, .ref 79, .ref 80, .ref 81, .ref 82, .ref 83, .ref 84, .ref 85, fJ (f 32), fJ (f 33), .ref 86, .ref 87, fI (f 36), .ref 88, .ref 89, .ref 90, .ref 91, .ref 92, .ref 93])) := e_363_66
        have g_363_77 : cE h_363 77 (.inl (.int, fA gt'_363)) := e_363_77
        have g_363_78 : cE h_363 78 (.inl (.int, fA gd'_363)) := e_363_78
        have g_363_79 : cE h_363 79 (.inl (.long, fL xs'_363)) := e_363_79
        have g_363_80 : cE h_363 80 (.inl (.long, fL ys'_363)) := e_363_80
        refine ik_Wk 0 (pc' := 35) (loc' := [some (.ref 66), some (fI kd), some (fI p), some (fI t), none, none, none, none]) (st' := []) (h' := h_363) (cl' := 0) (sl' := 0) rfl ?_
        refine fw_lc (z := 0) rfl (by decide) ?_
        refine ik_Wk 2 (pc' := 39) (loc' := [some (.ref 66), some (fI kd), some (fI p), some (fI t), some (fJ 0), none, none, none]) (st' := [.ref 66]) (h' := h_363) (cl' := 0) (sl' := 0) rfl ?_
        refine fw_call 149 1 0 [.ref 66] [] rfl rfl rfl (by decide) rfl rfl (fw_rec k_363 rfl g_363_66 rfl (by decide)) (cr_lost (pl := pl) (f := fun j => ([0, 0, 0, 0, ((s : Nat) : Int), 0, 0, (f 7), (f 8), 0, (f 10), (f 11), (f 12), (f 13), (f 14), (f 15), (f 16), (f 17), 0, 0, 0, 0, 0, 0, w'_363, 0, 0, 0, 0, 0, 0, 0, (f 32), (f 33), 0, 0, (f 36), 0, 0, 0, 0, 0, 0] : List Int).getD j 0) (cn := cn) (go := go) (by omega) (fun x h0 h1 => ⟨q2 x h0 h1, fun i i0 i1 => by have z := (q5 x h0 h1).2.1 i i0 i1; omega⟩) g_363_66 g_363_67 n67 g_363_68 n68 k_363) ?_
        rintro _ h_364 ⟨rfl, F_364⟩
        have k_364 := F_364.1.trans k_363
        have fr_364 := hfr_c fr_363 F_364 (by decide)
        have g_364_66 := (F_364.2 66 (by decide +kernel)).trans g_363_66
        have g_364_67 := (F_364.2 67 (by decide +kernel)).trans g_363_67
        have g_364_68 := (F_364.2 68 (by decide +kernel)).trans g_363_68
        have g_364_69 := (F_364.2 69 (by decide +kernel)).trans g_363_69
        have g_364_77 := (F_364.2 77 (by decide +kernel)).trans g_363_77
        have g_364_78 := (F_364.2 78 (by decide +kernel)).trans g_363_78
        have g_364_79 := (F_364.2 79 (by decide +kernel)).trans g_363_79
        have g_364_80 := (F_364.2 80 (by decide +kernel)).trans g_363_80
        refine ik_Wk 0 (pc' := 42) (loc' := [some (.ref 66), some (fI kd), some (fI p), some (fI t), some (fJ 0), none, none, none]) (st' := [fI ((mj_lost pl cn go : Nat) : Int)]) (h' := h_364) (cl' := 0) (sl' := 0) rfl ?_
        refine ik_Wk 3 (pc' := 47) (loc' := [some (.ref 66), some (fI kd), some (fI p), some (fI t), some (fJ 0), none, some (fI ((mj_lost pl cn go : Nat) : Int)), some (fI 0)]) (st' := []) (h' := h_364) (cl' := 0) (sl' := 0) rfl ?_
        exact rp_keptL (pl := pl) (f := f) (s := s) (cn := cn) (go := go) (ch := ch) (gt := gt) (gd := gd) (xs := xs) (ys := ys) (kd := kd) (p := p) (t := t) q0 q1 q2 q3 q4 q5 q6 q7 q8 ⟨⟨by omega, by omega⟩, by omega⟩ p_363_0 (pl.toNat + 1) 0 0 h_364 g_364_66 g_364_67 n67 g_364_68 n68 g_364_69 n69 g_364_77 m_363_77 g_364_78 m_363_78 g_364_79 m_363_79 g_364_80 m_363_80 k_364 fr_364 (by omega) rfl (by omega)
      · have k_362 := F_362.1.trans k_361
        have fr_362 := hfr_c fr_361 F_362 (by decide)
        have g_362_66 := (F_362.2 66 (by decide +kernel)).trans g_361_66
        have g_362_67 := (F_362.2 67 (by decide +kernel)).trans g_361_67
        have g_362_68 := (F_362.2 68 (by decide +kernel)).trans g_361_68
        have g_362_69 := (F_362.2 69 (by decide +kernel)).trans g_361_69
        have g_362_77 := (F_362.2 77 (by decide +kernel)).trans g_361_77
        have g_362_78 := (F_362.2 78 (by decide +kernel)).trans g_361_78
        have g_362_79 := (F_362.2 79 (by decide +kernel)).trans g_361_79
        have g_362_80 := (F_362.2 80 (by decide +kernel)).trans g_361_80
        refine ik_Wk 0 (pc' := 9) (loc' := [some (fI t)]) (st' := [fI 0]) (h' := h_362) (cl' := 0) (sl' := 0) rfl ?_
        refine ik_Wret rfl rfl ⟨_, _, rfl, rfl, ?_⟩
        refine ik_Wk 0 (pc' := 22) (loc' := [some (.ref 66), some (fI kd), some (fI p), some (fI t), none, none, none, none]) (st' := [fI 0]) (h' := h_362) (cl' := 0) (sl' := 0) rfl ?_
        refine fw_if_ne rfl rfl (by omega) (by omega) (fun hc4 => ?_) (fun hc4 => absurd hc4 (by omega))
        refine fw_ld (-1000000002) rfl rfl (by decide) ?_
        exact ik_Wret rfl rfl ⟨_, _, rfl, rfl, rfl, rfl, ⟨(f 24), gt, gd, xs, ys, (congrArg (fun z => [fI z]) (by unfold an_kp; (repeat' split) <;> first | rfl | omega)), g_362_66, g_362_77, n77, g_362_78, n78, g_362_79, n79, g_362_80, n80, fr_362⟩⟩
    · have k_361 := F_361.1.trans k_360
      have fr_361 := hfr_c fr_360 F_361 (by decide)
      have g_361_66 := (F_361.2 66 (by decide +kernel)).trans g_360_66
      have g_361_67 := (F_361.2 67 (by decide +kernel)).trans g_360_67
      have g_361_68 := (F_361.2 68 (by decide +kernel)).trans g_360_68
      have g_361_69 := (F_361.2 69 (by decide +kernel)).trans g_360_69
      have g_361_77 := (F_361.2 77 (by decide +kernel)).trans g_360_77
      have g_361_78 := (F_361.2 78 (by decide +kernel)).trans g_360_78
      have g_361_79 := (F_361.2 79 (by decide +kernel)).trans g_360_79
      have g_361_80 := (F_361.2 80 (by decide +kernel)).trans g_360_80
      refine ik_Wk 0 (pc' := 13) (loc' := [some (.ref 66), some (fI p)]) (st' := [fI 0]) (h' := h_361) (cl' := 0) (sl' := 0) rfl ?_
      refine ik_Wret rfl rfl ⟨_, _, rfl, rfl, ?_⟩
      refine ik_Wk 0 (pc' := 12) (loc' := [some (.ref 66), some (fI kd), some (fI p), some (fI t), none, none, none, none]) (st' := [fI 0]) (h' := h_361) (cl' := 0) (sl' := 0) rfl ?_
      refine fw_if_ne rfl rfl (by omega) (by omega) (fun hc5 => ?_) (fun hc5 => absurd hc5 (by omega))
      refine fw_ld (-1000000001) rfl rfl (by decide) ?_
      exact ik_Wret rfl rfl ⟨_, _, rfl, rfl, rfl, rfl, ⟨(f 24), gt, gd, xs, ys, (congrArg (fun z => [fI z]) (by unfold an_kp; (repeat' split) <;> first | rfl | omega)), g_361_66, g_361_77, n77, g_361_78, n78, g_361_79, n79, g_361_80, n80, fr_361⟩⟩
  · have k_360 := F_360.1.trans hl
    have fr_360 := hfr_c (hfr_refl [66, 77, 78, 79, 80] h) F_360 (by decide)
    have g_360_66 := (F_360.2 66 (by decide +kernel)).trans h66
    have g_360_67 := (F_360.2 67 (by decide +kernel)).trans h67
    have g_360_68 := (F_360.2 68 (by decide +kernel)).trans h68
    have g_360_69 := (F_360.2 69 (by decide +kernel)).trans h69
    have g_360_77 := (F_360.2 77 (by decide +kernel)).trans h77
    have g_360_78 := (F_360.2 78 (by decide +kernel)).trans h78
    have g_360_79 := (F_360.2 79 (by decide +kernel)).trans h79
    have g_360_80 := (F_360.2 80 (by decide +kernel)).trans h80
    refine ik_Wk 0 (pc' := 9) (loc' := [some (fI kd)]) (st' := [fI 0]) (h' := h_360) (cl' := 0) (sl' := 0) rfl ?_
    refine ik_Wret rfl rfl ⟨_, _, rfl, rfl, ?_⟩
    refine ik_Wk 0 (pc' := 4) (loc' := [some (.ref 66), some (fI kd), some (fI p), some (fI t), none, none, none, none]) (st' := [fI 0]) (h' := h_360) (cl' := 0) (sl' := 0) rfl ?_
    refine fw_if_eq rfl rfl (by omega) (by omega) (fun hc6 => ?_) (fun hc6 => absurd hc6 (by omega))
    refine fw_ld (-1000000001) rfl rfl (by decide) ?_
    exact ik_Wret rfl rfl ⟨_, _, rfl, rfl, rfl, rfl, ⟨(f 24), gt, gd, xs, ys, (congrArg (fun z => [fI z]) (by unfold an_kp; (repeat' split) <;> first | rfl | omega)), g_360_66, g_360_77, n77, g_360_78, n78, g_360_79, n79, g_360_80, n80, fr_360⟩⟩

end