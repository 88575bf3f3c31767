noncomputable section
theorem mk_dg {n p a b : Int} (hn : 1 ≤ n ∧ n ≤ 20) (hp : 0 ≤ p ∧ p < 12) (ha : 0 ≤ a ∧ a ≤ 3) (hb : 0 ≤ b ∧ b ≤ 3) : 0 < 10000 * n + 100 * p + 10 * a + b ∧ n = (10000 * n + 100 * p + 10 * a + b) / 10000 ∧ p = (10000 * n + 100 * p + 10 * a + b) / 100 % 100 ∧ a = (10000 * n + 100 * p + 10 * a + b) / 10 % 10 ∧ b = (10000 * n + 100 * p + 10 * a + b) % 10 := by
  have h1 : (10000 * n + 100 * p + 10 * a + b) / 100 = 100 * n + p := by omega
  have h2 : (10000 * n + 100 * p + 10 * a + b) / 10 = 1000 * n + 10 * p + a := by omega
  rw [h1, h2]
  omega
/-- what findFair gives back -/
abbrev cs_fairQ (h : List ik_E) (pl : Int) (lo : Int) (s : Nat) (ka : Int) (pa : Int) (fa : Int) (kb : Int) (pb : Int) (fb : Int) (bo : Int) (la : Int) (lb : Int) (t0 : Int) (t1 : Int) (t2 : Int) (t3 : Int) (wg : List Int) (wc : List Int) (we : List Int) (cn : List Int) (go : List Int) (ch : List Int) (e : Int) (Z : Int) : List Value → List ik_E → Prop := (fun rv h' => ∃ (l0 : Int) (l1 : Int) (l2 : Int) (wg' : List Int) (wc' : List Int) (we' : List Int) (z0 : Int) (z1 : Int) (z2 : Int) (z3 : Int), rv = [] ∧ cE h' 10 (.inl (.int, fA ch)) ∧ ch.length = 48 ∧ cE h' 11 (.inl (.int, fA wg')) ∧ wg'.length = 60 ∧ cE h' 12 (.inl (.int, fA wc')) ∧ wc'.length = 60 ∧ cE h' 13 (.inl (.int, fA we')) ∧ we'.length = 12 ∧ cE h' 17 (.inr (8, [.ref 7, .ref 15, .ref 18, .ref 19, fJ l2, .ref 20])) ∧ cE h' 19 (.inl (.long, fL [l0, l1])) ∧ mf_cr h' 21  ∧ mf_cr h' 33  ∧ cE h' 20 (.inl (.int, fA [z0, z1, z2, z3])) ∧ (∀ x : Int, 0 ≤ x → x < pl - 1 → mx_wy wg' wc' we' x (mx_w cn go ch s x)) ∧ (mk_fo Z z0 z1 z2 z3) ∧ hfr [10, 11, 12, 13, 17, 19, 20, 21, 22, 23, 24, 33, 34, 35, 36] h h')
theorem cs_fairK {h : List ik_E} {pl : Int} {lo : Int} {s : Nat} {ka : Int} {pa : Int} {fa : Int} {kb : Int} {pb : Int} {fb : Int} {bo : Int} {la : Int} {lb : Int} {t0 : Int} {t1 : Int} {t2 : Int} {t3 : Int} {wg : List Int} {wc : List Int} {we : List Int} {cn : List Int} {go : List Int} {ch : List Int} {e : Int} (q0 : 2 ≤ pl ∧ pl ≤ 12) (q1 : 0 ≤ ka ∧ ka ≤ 2 ∧ 0 ≤ kb ∧ kb ≤ 2) (q2 : 0 ≤ pa ∧ pa < pl - 1) (q3 : 0 ≤ pb ∧ pb < pl - 1) (q4 : 0 ≤ fa ∧ fa ≤ 30 ∧ 0 ≤ fb ∧ fb ≤ 30) (q5 : ∀ x : Int, 0 ≤ x → x < pl - 1 → mx_wy wg wc we x (mx_w cn go ch s x)) (q6 : mx_rw pl cn go ch) (q7 : True) (q8 : s < 4096) (q9 : 0 ≤ e ∧ e ≤ 1000000) (Z : Int) (n : Int) (hn : 1 ≤ n ∧ n ≤ 20) (p : Int) (hp : 0 ≤ p ∧ p < pl - 1) (z : Int)  (K : ∀ (w : List ik_E) (i2 : Int) (l0 : Int) (l1 : Int) (l2 : Int) (wg1 : List Int) (wc1 : List Int) (we1 : List Int) (x5 : Option Value) (x6 : Option Value) (w7 : cE w 7 (.inr (0, [fI pl, fI ((s : Nat) : Int), fI lo, .ref 8, .ref 9, .ref 10, .ref 11, .ref 12, .ref 13]))) (w8 : cE w 8 (.inl (.int, fA cn))) (nw_8 : cn.length = 12) (w9 : cE w 9 (.inl (.int, fA go))) (nw_9 : go.length = 48) (w10 : cE w 10 (.inl (.int, fA ch))) (nw_10 : ch.length = 48) (w11 : cE w 11 (.inl (.int, fA wg1))) (nw_11 : wg1.length = 60) (w12 : cE w 12 (.inl (.int, fA wc1))) (nw_12 : wc1.length = 60) (w13 : cE w 13 (.inl (.int, fA we1))) (nw_13 : we1.length = 12) (w15 : cE w 15 (.inl (.int, fA [ka, pa, fa, kb, pb, fb]))) (w17 : cE w 17 (.inr (8, [.ref 7, .ref 15, .ref 18, .ref 19, fJ l2, .ref 20]))) (w18 : cE w 18 (.inl (.object "SlowerCork$Course", [.ref 21, .ref 25, .ref 29, .ref 33, .ref 37, .ref 41]))) (w19 : cE w 19 (.inl (.long, fL [l0, l1]))) (w20 : cE w 20 (.inl (.int, fA [t0, t1, t2, t3]))) (w21 : mf_cr w 21 ) (w33 : mf_cr w 33 ) (wl : w.length = 94) (F : hfr [10, 11, 12, 13, 17, 19, 20, 21, 22, 23, 24, 33, 34, 35, 36] h w) (hy : ∀ x : Int, 0 ≤ x → x < pl - 1 → mx_wy wg1 wc1 we1 x (mx_w cn go ch s x)) (he : Z = z) (w5 : ik_wl 94 x5 = true) (w6 : ik_wl 94 x6 = true), ik_G 86 125 [some (.ref 17), some (fI e), some (fI n), some (fI p), some (fI i2), x5, x6] [] w (cs_fairQ h pl lo s ka pa fa kb pb fb bo la lb t0 t1 t2 t3 wg wc we cn go ch e Z)) : ∀ (k : Nat) (i : Int) (l0 : Int) (l1 : Int) (l2 : Int) (wg1 : List Int) (wc1 : List Int) (we1 : List Int) (x5 : Option Value) (x6 : Option Value) (u : List ik_E) (u7 : cE u 7 (.inr (0, [fI pl, fI ((s : Nat) : Int), fI lo, .ref 8, .ref 9, .ref 10, .ref 11, .ref 12, .ref 13]))) (u8 : cE u 8 (.inl (.int, fA cn))) (n8 : cn.length = 12) (u9 : cE u 9 (.inl (.int, fA go))) (n9 : go.length = 48) (u10 : cE u 10 (.inl (.int, fA ch))) (n10 : ch.length = 48) (u11 : cE u 11 (.inl (.int, fA wg1))) (n11 : wg1.length = 60) (u12 : cE u 12 (.inl (.int, fA wc1))) (n12 : wc1.length = 60) (u13 : cE u 13 (.inl (.int, fA we1))) (n13 : we1.length = 12) (u15 : cE u 15 (.inl (.int, fA [ka, pa, fa, kb, pb, fb]))) (u17 : cE u 17 (.inr (8, [.ref 7, .ref 15, .ref 18, .ref 19, fJ l2, .ref 20]))) (u18 : cE u 18 (.inl (.object "SlowerCork$Course", [.ref 21, .ref 25, .ref 29, .ref 33, .ref 37, .ref 41]))) (u19 : cE u 19 (.inl (.long, fL [l0, l1]))) (u20 : cE u 20 (.inl (.int, fA [t0, t1, t2, t3]))) (u21 : mf_cr u 21 ) (u33 : mf_cr u 33 ) (ul : u.length = 94) (F : hfr [10, 11, 12, 13, 17, 19, 20, 21, 22, 23, 24, 33, 34, 35, 36] h u) (hi : 0 ≤ i ∧ i ≤ 16) (hy : ∀ x : Int, 0 ≤ x → x < pl - 1 → mx_wy wg1 wc1 we1 x (mx_w cn go ch s x)) (he : Z = mk_c1 (mk_gg cn go ch s pl ka pa fa kb pb fb e) n p (16 - i).toNat i z) (w5 : ik_wl 94 x5 = true) (w6 : ik_wl 94 x6 = true) (hk : 16 - i < (k : Int)), ik_G 86 46 [some (.ref 17), some (fI e), some (fI n), some (fI p), some (fI i), x5, x6] [] u (cs_fairQ h pl lo s ka pa fa kb pb fb bo la lb t0 t1 t2 t3 wg wc we cn go ch e Z) := by
  intro k
  induction k with
  | zero => intro i l0 l1 l2 wg1 wc1 we1 x5 x6 u u7 u8 n8 u9 n9 u10 n10 u11 n11 u12 n12 u13 n13 u15 u17 u18 u19 u20 u21 u33 ul F hi hy he w5 w6 hk; omega
  | succ k ih =>
    intro i l0 l1 l2 wg1 wc1 we1 x5 x6 u u7 u8 n8 u9 n9 u10 n10 u11 n11 u12 n12 u13 n13 u15 u17 u18 u19 u20 u21 u33 ul F hi hy he w5 w6 hk
    have hr := (q6 p hp.1 hp.2).1
    have hr2 := (q6 p hp.1 hp.2).2.1
    refine ik_Wk 1 (pc' := 48) (loc' := [some (.ref 17), some (fI e), some (fI n), some (fI p), some (fI i), x5, x6]) (st' := [fI i]) (h' := u) (cl' := 0) (sl' := 0) rfl ?_
    refine fw_bi rfl (by decide) ?_
    refine fw_ic_ge rfl rfl (by omega) (by omega) (by omega) (by omega) (fun hc1 => ?_) (fun hc1 => ?_)
    · rw [show (16 - i).toNat = 0 by omega, mk_c1_0] at he
      exact K u i l0 l1 l2 wg1 wc1 we1 x5 x6 u7 u8 n8 u9 n9 u10 n10 u11 n11 u12 n12 u13 n13 u15 u17 u18 u19 u20 u21 u33 ul F hy he w5 w6
    · refine ik_Wk 2 (pc' := 56) (loc' := [some (.ref 17), some (fI e), some (fI n), some (fI p), some (fI i), x5, x6]) (st' := [fI 4, fI i]) (h' := u) (cl' := 0) (sl' := 0) rfl ?_
      refine fx_idiv rfl (by omega) (by omega) (by omega) (by omega) ?_
      refine ik_Wk 3 (pc' := 62) (loc' := [some (.ref 17), some (fI e), some (fI n), some (fI p), some (fI i), some (fI (i / 4)), x6]) (st' := [fI 4, fI i]) (h' := u) (cl' := 0) (sl' := 0) rfl ?_
      refine fx_irem rfl (by omega) (by omega) (by omega) (by omega) ?_
      refine ik_Wk 2 (pc' := 66) (loc' := [some (.ref 17), some (fI e), some (fI n), some (fI p), some (fI i), some (fI (i / 4)), some (fI (i % 4))]) (st' := [.ref 17]) (h' := u) (cl' := 0) (sl' := 0) rfl ?_
      refine fw_gf rfl rfl u17 rfl ?_
      refine ik_Wk 3 (pc' := 74) (loc' := [some (.ref 17), some (fI e), some (fI n), some (fI p), some (fI i), some (fI (i / 4)), some (fI (i % 4))]) (st' := [fI (i % 4), fI (i / 4), fI p, .ref 7]) (h' := u) (cl' := 0) (sl' := 0) rfl ?_
      refine ik_Wc 6 4 0 [.ref 7, fI p, fI (i / 4), fI (i % 4)] [] rfl rfl rfl (by decide) rfl rfl (fw_rec ul rfl u7 rfl (by decide)) ?_
      refine ik_Wk 0 (pc' := 0) (loc' := [some (.ref 7), some (fI p), some (fI (i / 4)), some (fI (i % 4))]) (st' := []) (h' := u) (cl' := 0) (sl' := 0) rfl ?_
      refine ik_Wk 3 (pc' := 3) (loc' := [some (.ref 7), some (fI p), some (fI (i / 4)), some (fI (i % 4))]) (st' := [fI (i / 4), fI p, .ref 7]) (h' := u) (cl' := 0) (sl' := 0) rfl ?_
      refine ik_Wc 5 3 0 [.ref 7, fI p, fI (i / 4)] [] rfl rfl rfl (by decide) rfl rfl (fw_rec ul rfl u7 rfl (by decide)) ?_
      refine ik_Wk 0 (pc' := 0) (loc' := [some (.ref 7), some (fI p), some (fI (i / 4))]) (st' := []) (h' := u) (cl' := 0) (sl' := 0) rfl ?_
      refine ik_Wk 1 (pc' := 1) (loc' := [some (.ref 7), some (fI p), some (fI (i / 4))]) (st' := [fI (i / 4)]) (h' := u) (cl' := 0) (sl' := 0) rfl ?_
      refine fw_if_lt rfl rfl (by omega) (by omega) (fun hc2 => ?_) (fun hc2 => ?_)
      · refine ik_Wk 1 (pc' := 19) (loc' := [some (.ref 7), some (fI p), some (fI (i / 4))]) (st' := [fI 0]) (h' := u) (cl' := 0) (sl' := 0) rfl ?_
        refine ik_Wret rfl rfl ⟨_, _, rfl, rfl, ?_⟩
        refine ik_Wk 0 (pc' := 6) (loc' := [some (.ref 7), some (fI p), some (fI (i / 4)), some (fI (i % 4))]) (st' := [fI 0]) (h' := u) (cl' := 0) (sl' := 0) rfl ?_
        refine fw_if_eq rfl rfl (by omega) (by omega) (fun hc3 => ?_) (fun hc3 => absurd hc3 (by omega))
        refine ik_Wk 1 (pc' := 28) (loc' := [some (.ref 7), some (fI p), some (fI (i / 4)), some (fI (i % 4))]) (st' := [fI 0]) (h' := u) (cl' := 0) (sl' := 0) rfl ?_
        refine ik_Wret rfl rfl ⟨_, _, rfl, rfl, ?_⟩
        refine ik_Wk 0 (pc' := 77) (loc' := [some (.ref 17), some (fI e), some (fI n), some (fI p), some (fI i), some (fI (i / 4)), some (fI (i % 4))]) (st' := [fI 0]) (h' := u) (cl' := 0) (sl' := 0) rfl ?_
        refine fw_if_eq rfl rfl (by omega) (by omega) (fun hc4 => ?_) (fun hc4 => absurd hc4 (by omega))
        refine fw_inc (a := i) (loc' := [some (.ref 17), some (fI e), some (fI n), some (fI p), some (fI (i + 1)), some (fI (i / 4)), some (fI (i % 4))]) rfl rfl (Nat.le_of_ble_eq_true rfl) rfl ?_
        refine ik_Wk 1 (pc' := 46) (loc' := [some (.ref 17), some (fI e), some (fI n), some (fI p), some (fI (i + 1)), some (fI (i / 4)), some (fI (i % 4))]) (st' := []) (h' := u) (cl' := 0) (sl' := 0) rfl ?_
        have hG : (mk_gg cn go ch s pl ka pa fa kb pb fb e) n p i = false := decide_eq_false (by omega)
        have he2 : Z = mk_c1 (mk_gg cn go ch s pl ka pa fa kb pb fb e) n p (16 - (i + 1)).toNat (i + 1) z := by
          rw [he, show (16 - i).toNat = (16 - (i + 1)).toNat + 1 by omega, mk_c1_s, hG, if_neg (by decide)]
        exact ih (i + 1) l0 l1 l2 wg1 wc1 we1 (some (fI (i / 4))) (some (fI (i % 4))) u u7 u8 n8 u9 n9 u10 n10 u11 n11 u12 n12 u13 n13 u15 u17 u18 u19 u20 u21 u33 ul F (by omega) hy he2 rfl rfl (by omega)
      · refine ik_Wk 2 (pc' := 6) (loc' := [some (.ref 7), some (fI p), some (fI (i / 4))]) (st' := [.ref 7, fI (i / 4)]) (h' := u) (cl' := 0) (sl' := 0) rfl ?_
        refine fw_gf rfl rfl u7 rfl ?_
        refine ik_Wk 1 (pc' := 10) (loc' := [some (.ref 7), some (fI p), some (fI (i / 4))]) (st' := [fI p, .ref 8, fI (i / 4)]) (h' := u) (cl' := 0) (sl' := 0) rfl ?_
        refine fw_ial rfl u8 (by omega) (by omega) (by omega) ?_
        refine fw_ic_ge rfl rfl (by omega) (by omega) (by omega) (by omega) (fun hc5 => ?_) (fun hc5 => ?_)
        · refine ik_Wk 1 (pc' := 19) (loc' := [some (.ref 7), some (fI p), some (fI (i / 4))]) (st' := [fI 0]) (h' := u) (cl' := 0) (sl' := 0) rfl ?_
          refine ik_Wret rfl rfl ⟨_, _, rfl, rfl, ?_⟩
          refine ik_Wk 0 (pc' := 6) (loc' := [some (.ref 7), some (fI p), some (fI (i / 4)), some (fI (i % 4))]) (st' := [fI 0]) (h' := u) (cl' := 0) (sl' := 0) rfl ?_
          refine fw_if_eq rfl rfl (by omega) (by omega) (fun hc6 => ?_) (fun hc6 => absurd hc6 (by omega))
          refine ik_Wk 1 (pc' := 28) (loc' := [some (.ref 7), some (fI p), some (fI (i / 4)), some (fI (i % 4))]) (st' := [fI 0]) (h' := u) (cl' := 0) (sl' := 0) rfl ?_
          refine ik_Wret rfl rfl ⟨_, _, rfl, rfl, ?_⟩
          refine ik_Wk 0 (pc' := 77) (loc' := [some (.ref 17), some (fI e), some (fI n), some (fI p), some (fI i), some (fI (i / 4)), some (fI (i % 4))]) (st' := [fI 0]) (h' := u) (cl' := 0) (sl' := 0) rfl ?_
          refine fw_if_eq rfl rfl (by omega) (by omega) (fun hc7 => ?_) (fun hc7 => absurd hc7 (by omega))
          refine fw_inc (a := i) (loc' := [some (.ref 17), some (fI e), some (fI n), some (fI p), some (fI (i + 1)), some (fI (i / 4)), some (fI (i % 4))]) rfl rfl (Nat.le_of_ble_eq_true rfl) rfl ?_
          refine ik_Wk 1 (pc' := 46) (loc' := [some (.ref 17), some (fI e), some (fI n), some (fI p), some (fI (i + 1)), some (fI (i / 4)), some (fI (i % 4))]) (st' := []) (h' := u) (cl' := 0) (sl' := 0) rfl ?_
          have hG : (mk_gg cn go ch s pl ka pa fa kb pb fb e) n p i = false := decide_eq_false (by omega)
          have he2 : Z = mk_c1 (mk_gg cn go ch s pl ka pa fa kb pb fb e) n p (16 - (i + 1)).toNat (i + 1) z := by
            rw [he, show (16 - i).toNat = (16 - (i + 1)).toNat + 1 by omega, mk_c1_s, hG, if_neg (by decide)]
          exact ih (i + 1) l0 l1 l2 wg1 wc1 we1 (some (fI (i / 4))) (some (fI (i % 4))) u u7 u8 n8 u9 n9 u10 n10 u11 n11 u12 n12 u13 n13 u15 u17 u18 u19 u20 u21 u33 ul F (by omega) hy he2 rfl rfl (by omega)
        · refine ik_Wk 2 (pc' := 19) (loc' := [some (.ref 7), some (fI p), some (fI (i / 4))]) (st' := [fI 1]) (h' := u) (cl' := 0) (sl' := 0) rfl ?_
          refine ik_Wret rfl rfl ⟨_, _, rfl, rfl, ?_⟩
          refine ik_Wk 0 (pc' := 6) (loc' := [some (.ref 7), some (fI p), some (fI (i / 4)), some (fI (i % 4))]) (st' := [fI 1]) (h' := u) (cl' := 0) (sl' := 0) rfl ?_
          refine fw_if_eq rfl rfl (by omega) (by omega) (fun hc8 => absurd hc8 (by omega)) (fun hc8 => ?_)
          refine ik_Wk 3 (pc' := 12) (loc' := [some (.ref 7), some (fI p), some (fI (i / 4)), some (fI (i % 4))]) (st' := [fI (i % 4), fI p, .ref 7]) (h' := u) (cl' := 0) (sl' := 0) rfl ?_
          refine ik_Wc 5 3 0 [.ref 7, fI p, fI (i % 4)] [] rfl rfl rfl (by decide) rfl rfl (fw_rec ul rfl u7 rfl (by decide)) ?_
          refine ik_Wk 0 (pc' := 0) (loc' := [some (.ref 7), some (fI p), some (fI (i % 4))]) (st' := []) (h' := u) (cl' := 0) (sl' := 0) rfl ?_
          refine ik_Wk 1 (pc' := 1) (loc' := [some (.ref 7), some (fI p), some (fI (i % 4))]) (st' := [fI (i % 4)]) (h' := u) (cl' := 0) (sl' := 0) rfl ?_
          refine fw_if_lt rfl rfl (by omega) (by omega) (fun hc9 => ?_) (fun hc9 => ?_)
          · refine ik_Wk 1 (pc' := 19) (loc' := [some (.ref 7), some (fI p), some (fI (i % 4))]) (st' := [fI 0]) (h' := u) (cl' := 0) (sl' := 0) rfl ?_
            refine ik_Wret rfl rfl ⟨_, _, rfl, rfl, ?_⟩
            refine ik_Wk 0 (pc' := 15) (loc' := [some (.ref 7), some (fI p), some (fI (i / 4)), some (fI (i % 4))]) (st' := [fI 0]) (h' := u) (cl' := 0) (sl' := 0) rfl ?_
            refine fw_if_eq rfl rfl (by omega) (by omega) (fun hc10 => ?_) (fun hc10 => absurd hc10 (by omega))
            refine ik_Wk 1 (pc' := 28) (loc' := [some (.ref 7), some (fI p), some (fI (i / 4)), some (fI (i % 4))]) (st' := [fI 0]) (h' := u) (cl' := 0) (sl' := 0) rfl ?_
            refine ik_Wret rfl rfl ⟨_, _, rfl, rfl, ?_⟩
            refine ik_Wk 0 (pc' := 77) (loc' := [some (.ref 17), some (fI e), some (fI n), some (fI p), some (fI i), some (fI (i / 4)), some (fI (i % 4))]) (st' := [fI 0]) (h' := u) (cl' := 0) (sl' := 0) rfl ?_
            refine fw_if_eq rfl rfl (by omega) (by omega) (fun hc11 => ?_) (fun hc11 => absurd hc11 (by omega))
            refine fw_inc (a := i) (loc' := [some (.ref 17), some (fI e), some (fI n), some (fI p), some (fI (i + 1)), some (fI (i / 4)), some (fI (i % 4))]) rfl rfl (Nat.le_of_ble_eq_true rfl) rfl ?_
            refine ik_Wk 1 (pc' := 46) (loc' := [some (.ref 17), some (fI e), some (fI n), some (fI p), some (fI (i + 1)), some (fI (i / 4)), some (fI (i % 4))]) (st' := []) (h' := u) (cl' := 0) (sl' := 0) rfl ?_
            have hG : (mk_gg cn go ch s pl ka pa fa kb pb fb e) n p i = false := decide_eq_false (by omega)
            have he2 : Z = mk_c1 (mk_gg cn go ch s pl ka pa fa kb pb fb e) n p (16 - (i + 1)).toNat (i + 1) z := by
              rw [he, show (16 - i).toNat = (16 - (i + 1)).toNat + 1 by omega, mk_c1_s, hG, if_neg (by decide)]
            exact ih (i + 1) l0 l1 l2 wg1 wc1 we1 (some (fI (i / 4))) (some (fI (i % 4))) u u7 u8 n8 u9 n9 u10 n10 u11 n11 u12 n12 u13 n13 u15 u17 u18 u19 u20 u21 u33 ul F (by omega) hy he2 rfl rfl (by omega)
          · refine ik_Wk 2 (pc' := 6) (loc' := [some (.ref 7), some (fI p), some (fI (i % 4))]) (st' := [.ref 7, fI (i % 4)]) (h' := u) (cl' := 0) (sl' := 0) rfl ?_
            refine fw_gf rfl rfl u7 rfl ?_
            refine ik_Wk 1 (pc' := 10) (loc' := [some (.ref 7), some (fI p), some (fI (i % 4))]) (st' := [fI p, .ref 8, fI (i % 4)]) (h' := u) (cl' := 0) (sl' := 0) rfl ?_
            refine fw_ial rfl u8 (by omega) (by omega) (by omega) ?_
            refine fw_ic_ge rfl rfl (by omega) (by omega) (by omega) (by omega) (fun hc12 => ?_) (fun hc12 => ?_)
            · refine ik_Wk 1 (pc' := 19) (loc' := [some (.ref 7), some (fI p), some (fI (i % 4))]) (st' := [fI 0]) (h' := u) (cl' := 0) (sl' := 0) rfl ?_
              refine ik_Wret rfl rfl ⟨_, _, rfl, rfl, ?_⟩
              refine ik_Wk 0 (pc' := 15) (loc' := [some (.ref 7), some (fI p), some (fI (i / 4)), some (fI (i % 4))]) (st' := [fI 0]) (h' := u) (cl' := 0) (sl' := 0) rfl ?_
              refine fw_if_eq rfl rfl (by omega) (by omega) (fun hc13 => ?_) (fun hc13 => absurd hc13 (by omega))
              refine ik_Wk 1 (pc' := 28) (loc' := [some (.ref 7), some (fI p), some (fI (i / 4)), some (fI (i % 4))]) (st' := [fI 0]) (h' := u) (cl' := 0) (sl' := 0) rfl ?_
              refine ik_Wret rfl rfl ⟨_, _, rfl, rfl, ?_⟩
              refine ik_Wk 0 (pc' := 77) (loc' := [some (.ref 17), some (fI e), some (fI n), some (fI p), some (fI i), some (fI (i / 4)), some (fI (i % 4))]) (st' := [fI 0]) (h' := u) (cl' := 0) (sl' := 0) rfl ?_
              refine fw_if_eq rfl rfl (by omega) (by omega) (fun hc14 => ?_) (fun hc14 => absurd hc14 (by omega))
              refine fw_inc (a := i) (loc' := [some (.ref 17), some (fI e), some (fI n), some (fI p), some (fI (i + 1)), some (fI (i / 4)), some (fI (i % 4))]) rfl rfl (Nat.le_of_ble_eq_true rfl) rfl ?_
              refine ik_Wk 1 (pc' := 46) (loc' := [some (.ref 17), some (fI e), some (fI n), some (fI p), some (fI (i + 1)), some (fI (i / 4)), some (fI (i % 4))]) (st' := []) (h' := u) (cl' := 0) (sl' := 0) rfl ?_
              have hG : (mk_gg cn go ch s pl ka pa fa kb pb fb e) n p i = false := decide_eq_false (by omega)
              have he2 : Z = mk_c1 (mk_gg cn go ch s pl ka pa fa kb pb fb e) n p (16 - (i + 1)).toNat (i + 1) z := by
                rw [he, show (16 - i).toNat = (16 - (i + 1)).toNat + 1 by omega, mk_c1_s, hG, if_neg (by decide)]
              exact ih (i + 1) l0 l1 l2 wg1 wc1 we1 (some (fI (i / 4))) (some (fI (i % 4))) u u7 u8 n8 u9 n9 u10 n10 u11 n11 u12 n12 u13 n13 u15 u17 u18 u19 u20 u21 u33 ul F (by omega) hy he2 rfl rfl (by omega)
            · refine ik_Wk 2 (pc' := 19) (loc' := [some (.ref 7), some (fI p), some (fI (i % 4))]) (st' := [fI 1]) (h' := u) (cl' := 0) (sl' := 0) rfl ?_
              refine ik_Wret rfl rfl ⟨_, _, rfl, rfl, ?_⟩
              refine ik_Wk 0 (pc' := 15) (loc' := [some (.ref 7), some (fI p), some (fI (i / 4)), some (fI (i % 4))]) (st' := [fI 1]) (h' := u) (cl' := 0) (sl' := 0) rfl ?_
              refine fw_if_eq rfl rfl (by omega) (by omega) (fun hc15 => absurd hc15 (by omega)) (fun hc15 => ?_)
              refine ik_Wk 2 (pc' := 20) (loc' := [some (.ref 7), some (fI p), some (fI (i / 4)), some (fI (i % 4))]) (st' := [fI (i % 4), fI (i / 4)]) (h' := u) (cl' := 0) (sl' := 0) rfl ?_
              refine fw_ic_eq rfl rfl (by omega) (by omega) (by omega) (by omega) (fun hc16 => ?_) (fun hc16 => ?_)
              · refine ik_Wk 1 (pc' := 28) (loc' := [some (.ref 7), some (fI p), some (fI (i / 4)), some (fI (i % 4))]) (st' := [fI 0]) (h' := u) (cl' := 0) (sl' := 0) rfl ?_
                refine ik_Wret rfl rfl ⟨_, _, rfl, rfl, ?_⟩
                refine ik_Wk 0 (pc' := 77) (loc' := [some (.ref 17), some (fI e), some (fI n), some (fI p), some (fI i), some (fI (i / 4)), some (fI (i % 4))]) (st' := [fI 0]) (h' := u) (cl' := 0) (sl' := 0) rfl ?_
                refine fw_if_eq rfl rfl (by omega) (by omega) (fun hc17 => ?_) (fun hc17 => absurd hc17 (by omega))
                refine fw_inc (a := i) (loc' := [some (.ref 17), some (fI e), some (fI n), some (fI p), some (fI (i + 1)), some (fI (i / 4)), some (fI (i % 4))]) rfl rfl (Nat.le_of_ble_eq_true rfl) rfl ?_
                refine ik_Wk 1 (pc' := 46) (loc' := [some (.ref 17), some (fI e), some (fI n), some (fI p), some (fI (i + 1)), some (fI (i / 4)), some (fI (i % 4))]) (st' := []) (h' := u) (cl' := 0) (sl' := 0) rfl ?_
                have hG : (mk_gg cn go ch s pl ka pa fa kb pb fb e) n p i = false := decide_eq_false (by omega)
                have he2 : Z = mk_c1 (mk_gg cn go ch s pl ka pa fa kb pb fb e) n p (16 - (i + 1)).toNat (i + 1) z := by
                  rw [he, show (16 - i).toNat = (16 - (i + 1)).toNat + 1 by omega, mk_c1_s, hG, if_neg (by decide)]
                exact ih (i + 1) l0 l1 l2 wg1 wc1 we1 (some (fI (i / 4))) (some (fI (i % 4))) u u7 u8 n8 u9 n9 u10 n10 u11 n11 u12 n12 u13 n13 u15 u17 u18 u19 u20 u21 u33 ul F (by omega) hy he2 rfl rfl (by omega)
              · refine ik_Wk 2 (pc' := 28) (loc' := [some (.ref 7), some (fI p), some (fI (i / 4)), some (fI (i % 4))]) (st' := [fI 1]) (h' := u) (cl' := 0) (sl' := 0) rfl ?_
                refine ik_Wret rfl rfl ⟨_, _, rfl, rfl, ?_⟩
                refine ik_Wk 0 (pc' := 77) (loc' := [some (.ref 17), some (fI e), some (fI n), some (fI p), some (fI i), some (fI (i / 4)), some (fI (i % 4))]) (st' := [fI 1]) (h' := u) (cl' := 0) (sl' := 0) rfl ?_
                refine fw_if_eq rfl rfl (by omega) (by omega) (fun hc18 => absurd hc18 (by omega)) (fun hc18 => ?_)
                refine ik_Wk 1 (pc' := 81) (loc' := [some (.ref 17), some (fI e), some (fI n), some (fI p), some (fI i), some (fI (i / 4)), some (fI (i % 4))]) (st' := [.ref 17]) (h' := u) (cl' := 0) (sl' := 0) rfl ?_
                refine fw_gf rfl rfl u17 rfl ?_
                refine ik_Wk 3 (pc' := 88) (loc' := [some (.ref 17), some (fI e), some (fI n), some (fI p), some (fI i), some (fI (i / 4)), some (fI (i % 4))]) (st' := [fI n, fI (i / 4), fI p, .ref 7]) (h' := u) (cl' := 0) (sl' := 0) rfl ?_
                refine ik_Wc 15 4 0 [.ref 7, fI p, fI (i / 4), fI n] [] rfl rfl rfl (by decide) rfl rfl (fw_rec ul rfl u7 rfl (by decide)) ?_
                refine ik_Wk 0 (pc' := 0) (loc' := [some (.ref 7), some (fI p), some (fI (i / 4)), some (fI n)]) (st' := []) (h' := u) (cl' := 0) (sl' := 0) rfl ?_
                refine ik_Wk 1 (pc' := 1) (loc' := [some (.ref 7), some (fI p), some (fI (i / 4)), some (fI n)]) (st' := [.ref 7]) (h' := u) (cl' := 0) (sl' := 0) rfl ?_
                refine fw_gf rfl rfl u7 rfl ?_
                refine ik_Wk 2 (pc' := 6) (loc' := [some (.ref 7), some (fI p), some (fI (i / 4)), some (fI n)]) (st' := [fI 4, fI p, .ref 10]) (h' := u) (cl' := 0) (sl' := 0) rfl ?_
                refine fx_mulc rfl ?_
                refine ik_Wk 1 (pc' := 8) (loc' := [some (.ref 7), some (fI p), some (fI (i / 4)), some (fI n)]) (st' := [fI (i / 4), fI (4 * p), .ref 10]) (h' := u) (cl' := 0) (sl' := 0) rfl ?_
                refine fw_add rfl ?_
                refine fw_ial rfl u10 (by omega) (by omega) (by omega) ?_
                have hd19 := hr2 (i / 4) (by omega) (by omega)
                refine ik_Wk 1 (pc' := 11) (loc' := [some (.ref 7), some (fI p), some (fI (i / 4)), some (fI n)]) (st' := [fI n, fI (ch.getD ((4 * p) + (i / 4)).toNat 0)]) (h' := u) (cl' := 0) (sl' := 0) rfl ?_
                refine fw_sub rfl ?_
                refine ik_Wk 1 (pc' := 13) (loc' := [some (.ref 7), some (fI p), some (fI (i / 4)), some (fI n)]) (st' := [fI 1, fI ((ch.getD ((4 * p) + (i / 4)).toNat 0) - n)]) (h' := u) (cl' := 0) (sl' := 0) rfl ?_
                refine fw_ic_lt rfl rfl (by omega) (by omega) (by omega) (by omega) (fun hc20 => ?_) (fun hc20 => ?_)
                · refine ik_Wk 1 (pc' := 21) (loc' := [some (.ref 7), some (fI p), some (fI (i / 4)), some (fI n)]) (st' := [fI 0]) (h' := u) (cl' := 0) (sl' := 0) rfl ?_
                  refine ik_Wret rfl rfl ⟨_, _, rfl, rfl, ?_⟩
                  refine ik_Wk 0 (pc' := 91) (loc' := [some (.ref 17), some (fI e), some (fI n), some (fI p), some (fI i), some (fI (i / 4)), some (fI (i % 4))]) (st' := [fI 0]) (h' := u) (cl' := 0) (sl' := 0) rfl ?_
                  refine fw_if_eq rfl rfl (by omega) (by omega) (fun hc21 => ?_) (fun hc21 => absurd hc21 (by omega))
                  refine fw_inc (a := i) (loc' := [some (.ref 17), some (fI e), some (fI n), some (fI p), some (fI (i + 1)), some (fI (i / 4)), some (fI (i % 4))]) rfl rfl (Nat.le_of_ble_eq_true rfl) rfl ?_
                  refine ik_Wk 1 (pc' := 46) (loc' := [some (.ref 17), some (fI e), some (fI n), some (fI p), some (fI (i + 1)), some (fI (i / 4)), some (fI (i % 4))]) (st' := []) (h' := u) (cl' := 0) (sl' := 0) rfl ?_
                  have hG : (mk_gg cn go ch s pl ka pa fa kb pb fb e) n p i = false := decide_eq_false (by omega)
                  have he2 : Z = mk_c1 (mk_gg cn go ch s pl ka pa fa kb pb fb e) n p (16 - (i + 1)).toNat (i + 1) z := by
                    rw [he, show (16 - i).toNat = (16 - (i + 1)).toNat + 1 by omega, mk_c1_s, hG, if_neg (by decide)]
                  exact ih (i + 1) l0 l1 l2 wg1 wc1 we1 (some (fI (i / 4))) (some (fI (i % 4))) u u7 u8 n8 u9 n9 u10 n10 u11 n11 u12 n12 u13 n13 u15 u17 u18 u19 u20 u21 u33 ul F (by omega) hy he2 rfl rfl (by omega)
                · refine ik_Wk 2 (pc' := 21) (loc' := [some (.ref 7), some (fI p), some (fI (i / 4)), some (fI n)]) (st' := [fI 1]) (h' := u) (cl' := 0) (sl' := 0) rfl ?_
                  refine ik_Wret rfl rfl ⟨_, _, rfl, rfl, ?_⟩
                  refine ik_Wk 0 (pc' := 91) (loc' := [some (.ref 17), some (fI e), some (fI n), some (fI p), some (fI i), some (fI (i / 4)), some (fI (i % 4))]) (st' := [fI 1]) (h' := u) (cl' := 0) (sl' := 0) rfl ?_
                  refine fw_if_eq rfl rfl (by omega) (by omega) (fun hc22 => absurd hc22 (by omega)) (fun hc22 => ?_)
                  refine ik_Wk 6 (pc' := 102) (loc' := [some (.ref 17), some (fI e), some (fI n), some (fI p), some (fI i), some (fI (i / 4)), some (fI (i % 4))]) (st' := [fI e, fI n, fI (i % 4), fI (i / 4), fI p, .ref 17]) (h' := u) (cl' := 0) (sl' := 0) rfl ?_
                  refine fw_call 87 6 0 [.ref 17, fI p, fI (i / 4), fI (i % 4), fI n, fI e] [] rfl rfl rfl (by decide) rfl rfl (fw_rec ul rfl u17 rfl (by decide)) (cs_fairDug (pl := pl) (lo := lo) (s := s) (ka := ka) (pa := pa) (fa := fa) (kb := kb) (pb := pb) (fb := fb) (bo := l2) (la := l0) (lb := l1) (t0 := t0) (t1 := t1) (t2 := t2) (t3 := t3) (wg := wg1) (wc := wc1) (we := we1) (cn := cn) (go := go) (ch := ch) (p := p) (a := i / 4) (b := i % 4) (n := n) (e := e) (by omega) (by omega) (by omega) (by omega) (by omega) hy q6 q7 q8 hp (by omega) (by omega) (by omega) (by omega) (by omega) (by omega) u7 u8 n8 u9 n9 u10 n10 u11 n11 u12 n12 u13 n13 u15 u17 u18 u19 u20 u21 u33 ul) ?_
                  rintro _ h_237 (⟨l0_237, l1_237, l2_237, wg'_237, wc'_237, we'_237, rfl, e_237_10, m_237_10, e_237_11, m_237_11, e_237_12, m_237_12, e_237_13, m_237_13, e_237_17, e_237_19, e_237_21, e_237_33, p_237_0, p_237_1, F_237⟩ | ⟨l0_237, l1_237, l2_237, wg'_237, wc'_237, we'_237, rfl, e_237_10, m_237_10, e_237_11, m_237_11, e_237_12, m_237_12, e_237_13, m_237_13, e_237_17, e_237_19, e_237_21, e_237_33, p_237_0, p_237_1, F_237⟩)
                  · have k_237 := F_237.1.trans ul
                    have fr_237 := hfr_c F F_237 (by decide)
                    have g_237_7 := (F_237.2 7 (by decide +kernel)).trans u7
                    have g_237_8 := (F_237.2 8 (by decide +kernel)).trans u8
                    have g_237_9 := (F_237.2 9 (by decide +kernel)).trans u9
                    have g_237_15 := (F_237.2 15 (by decide +kernel)).trans u15
                    have g_237_18 := (F_237.2 18 (by decide +kernel)).trans u18
                    have g_237_20 := (F_237.2 20 (by decide +kernel)).trans u20
                    have g_237_10 : cE h_237 10 (.inl (.int, fA ch)) := e_237_10
                    have g_237_11 : cE h_237 11 (.inl (.int, fA wg'_237)) := e_237_11
                    have g_237_12 : cE h_237 12 (.inl (.int, fA wc'_237)) := e_237_12
                    have g_237_13 : cE h_237 13 (.inl (.int, fA we'_237)) := e_237_13
                    have g_237_17 : cE h_237 17 (.inr (8, [.ref 7, .ref 15, .ref 18, .ref 19, fJ l2_237, .ref 20])) := e_237_17
                    have g_237_19 : cE h_237 19 (.inl (.long, fL [l0_237, l1_237])) := e_237_19
                    have g_237_21 : mf_cr h_237 21  := e_237_21
                    have g_237_33 : mf_cr h_237 33  := e_237_33
                    refine ik_Wk 0 (pc' := 105) (loc' := [some (.ref 17), some (fI e), some (fI n), some (fI p), some (fI i), some (fI (i / 4)), some (fI (i % 4))]) (st' := [fI 1]) (h' := h_237) (cl' := 0) (sl' := 0) rfl ?_
                    refine fw_if_eq rfl rfl (by omega) (by omega) (fun hc23 => absurd hc23 (by omega)) (fun hc23 => ?_)
                    refine ik_Wk 5 (pc' := 115) (loc' := [some (.ref 17), some (fI e), some (fI n), some (fI p), some (fI i), some (fI (i / 4)), some (fI (i % 4))]) (st' := [fI (i % 4), fI (i / 4), fI p, fI n, .ref 17]) (h' := h_237) (cl' := 0) (sl' := 0) rfl ?_
                    refine ik_Wc 88 5 0 [.ref 17, fI n, fI p, fI (i / 4), fI (i % 4)] [] rfl rfl rfl (by decide) rfl rfl (fw_rec k_237 rfl g_237_17 rfl (by decide)) ?_
                    refine ik_Wk 0 (pc' := 0) (loc' := [some (.ref 17), some (fI n), some (fI p), some (fI (i / 4)), some (fI (i % 4))]) (st' := []) (h' := h_237) (cl' := 0) (sl' := 0) rfl ?_
                    refine ik_Wk 1 (pc' := 1) (loc' := [some (.ref 17), some (fI n), some (fI p), some (fI (i / 4)), some (fI (i % 4))]) (st' := [.ref 17]) (h' := h_237) (cl' := 0) (sl' := 0) rfl ?_
                    refine fw_gf rfl rfl g_237_17 rfl ?_
                    refine ik_Wk 2 (pc' := 6) (loc' := [some (.ref 17), some (fI n), some (fI p), some (fI (i / 4)), some (fI (i % 4))]) (st' := [fI n, fI 0, .ref 20]) (h' := h_237) (cl' := 0) (sl' := 0) rfl ?_
                    refine fx_ias (z := 0) rfl g_237_20 (by decide) (Nat.le_of_ble_eq_true rfl) (by decide) ?_
                    intro h_238 e_238 f_238 l_238
                    have k_238 := l_238.trans k_237
                    have fr_238 := hfr_w fr_237 f_238 l_238 (by decide)
                    have g_238_7 := (f_238 7 (by decide)).trans g_237_7
                    have g_238_8 := (f_238 8 (by decide)).trans g_237_8
                    have g_238_9 := (f_238 9 (by decide)).trans g_237_9
                    have g_238_10 := (f_238 10 (by decide)).trans g_237_10
                    have g_238_11 := (f_238 11 (by decide)).trans g_237_11
                    have g_238_12 := (f_238 12 (by decide)).trans g_237_12
                    have g_238_13 := (f_238 13 (by decide)).trans g_237_13
                    have g_238_15 := (f_238 15 (by decide)).trans g_237_15
                    have g_238_17 := (f_238 17 (by decide)).trans g_237_17
                    have g_238_18 := (f_238 18 (by decide)).trans g_237_18
                    have g_238_19 := (f_238 19 (by decide)).trans g_237_19
                    have g_238_21 := mf_cr_f g_237_21 (f_238 21 (by decide)) (f_238 22 (by decide)) (f_238 23 (by decide)) (f_238 24 (by decide))
                    have g_238_33 := mf_cr_f g_237_33 (f_238 33 (by decide)) (f_238 34 (by decide)) (f_238 35 (by decide)) (f_238 36 (by decide))
                    have g_238_20 : cE h_238 20 (.inl (.int, fA [n, t1, t2, t3])) := e_238
                    refine ik_Wk 1 (pc' := 8) (loc' := [some (.ref 17), some (fI n), some (fI p), some (fI (i / 4)), some (fI (i % 4))]) (st' := [.ref 17]) (h' := h_238) (cl' := 0) (sl' := 0) rfl ?_
                    refine fw_gf rfl rfl g_238_17 rfl ?_
                    refine ik_Wk 2 (pc' := 13) (loc' := [some (.ref 17), some (fI n), some (fI p), some (fI (i / 4)), some (fI (i % 4))]) (st' := [fI p, fI 1, .ref 20]) (h' := h_238) (cl' := 0) (sl' := 0) rfl ?_
                    refine fx_ias (z := 1) rfl g_238_20 (by decide) (Nat.le_of_ble_eq_true rfl) (by decide) ?_
                    intro h_239 e_239 f_239 l_239
                    have k_239 := l_239.trans k_238
                    have fr_239 := hfr_w fr_238 f_239 l_239 (by decide)
                    have g_239_7 := (f_239 7 (by decide)).trans g_238_7
                    have g_239_8 := (f_239 8 (by decide)).trans g_238_8
                    have g_239_9 := (f_239 9 (by decide)).trans g_238_9
                    have g_239_10 := (f_239 10 (by decide)).trans g_238_10
                    have g_239_11 := (f_239 11 (by decide)).trans g_238_11
                    have g_239_12 := (f_239 12 (by decide)).trans g_238_12
                    have g_239_13 := (f_239 13 (by decide)).trans g_238_13
                    have g_239_15 := (f_239 15 (by decide)).trans g_238_15
                    have g_239_17 := (f_239 17 (by decide)).trans g_238_17
                    have g_239_18 := (f_239 18 (by decide)).trans g_238_18
                    have g_239_19 := (f_239 19 (by decide)).trans g_238_19
                    have g_239_21 := mf_cr_f g_238_21 (f_239 21 (by decide)) (f_239 22 (by decide)) (f_239 23 (by decide)) (f_239 24 (by decide))
                    have g_239_33 := mf_cr_f g_238_33 (f_239 33 (by decide)) (f_239 34 (by decide)) (f_239 35 (by decide)) (f_239 36 (by decide))
                    have g_239_20 : cE h_239 20 (.inl (.int, fA [n, p, t2, t3])) := e_239
                    refine ik_Wk 1 (pc' := 15) (loc' := [some (.ref 17), some (fI n), some (fI p), some (fI (i / 4)), some (fI (i % 4))]) (st' := [.ref 17]) (h' := h_239) (cl' := 0) (sl' := 0) rfl ?_
                    refine fw_gf rfl rfl g_239_17 rfl ?_
                    refine ik_Wk 2 (pc' := 20) (loc' := [some (.ref 17), some (fI n), some (fI p), some (fI (i / 4)), some (fI (i % 4))]) (st' := [fI (i / 4), fI 2, .ref 20]) (h' := h_239) (cl' := 0) (sl' := 0) rfl ?_
                    refine fx_ias (z := 2) rfl g_239_20 (by decide) (Nat.le_of_ble_eq_true rfl) (by decide) ?_
                    intro h_240 e_240 f_240 l_240
                    have k_240 := l_240.trans k_239
                    have fr_240 := hfr_w fr_239 f_240 l_240 (by decide)
                    have g_240_7 := (f_240 7 (by decide)).trans g_239_7
                    have g_240_8 := (f_240 8 (by decide)).trans g_239_8
                    have g_240_9 := (f_240 9 (by decide)).trans g_239_9
                    have g_240_10 := (f_240 10 (by decide)).trans g_239_10
                    have g_240_11 := (f_240 11 (by decide)).trans g_239_11
                    have g_240_12 := (f_240 12 (by decide)).trans g_239_12
                    have g_240_13 := (f_240 13 (by decide)).trans g_239_13
                    have g_240_15 := (f_240 15 (by decide)).trans g_239_15
                    have g_240_17 := (f_240 17 (by decide)).trans g_239_17
                    have g_240_18 := (f_240 18 (by decide)).trans g_239_18
                    have g_240_19 := (f_240 19 (by decide)).trans g_239_19
                    have g_240_21 := mf_cr_f g_239_21 (f_240 21 (by decide)) (f_240 22 (by decide)) (f_240 23 (by decide)) (f_240 24 (by decide))
                    have g_240_33 := mf_cr_f g_239_33 (f_240 33 (by decide)) (f_240 34 (by decide)) (f_240 35 (by decide)) (f_240 36 (by decide))
                    have g_240_20 : cE h_240 20 (.inl (.int, fA [n, p, i / 4, t3])) := e_240
                    refine ik_Wk 1 (pc' := 22) (loc' := [some (.ref 17), some (fI n), some (fI p), some (fI (i / 4)), some (fI (i % 4))]) (st' := [.ref 17]) (h' := h_240) (cl' := 0) (sl' := 0) rfl ?_
                    refine fw_gf rfl rfl g_240_17 rfl ?_
                    refine ik_Wk 2 (pc' := 28) (loc' := [some (.ref 17), some (fI n), some (fI p), some (fI (i / 4)), some (fI (i % 4))]) (st' := [fI (i % 4), fI 3, .ref 20]) (h' := h_240) (cl' := 0) (sl' := 0) rfl ?_
                    refine fx_ias (z := 3) rfl g_240_20 (by decide) (Nat.le_of_ble_eq_true rfl) (by decide) ?_
                    intro h_241 e_241 f_241 l_241
                    have k_241 := l_241.trans k_240
                    have fr_241 := hfr_w fr_240 f_241 l_241 (by decide)
                    have g_241_7 := (f_241 7 (by decide)).trans g_240_7
                    have g_241_8 := (f_241 8 (by decide)).trans g_240_8
                    have g_241_9 := (f_241 9 (by decide)).trans g_240_9
                    have g_241_10 := (f_241 10 (by decide)).trans g_240_10
                    have g_241_11 := (f_241 11 (by decide)).trans g_240_11
                    have g_241_12 := (f_241 12 (by decide)).trans g_240_12
                    have g_241_13 := (f_241 13 (by decide)).trans g_240_13
                    have g_241_15 := (f_241 15 (by decide)).trans g_240_15
                    have g_241_17 := (f_241 17 (by decide)).trans g_240_17
                    have g_241_18 := (f_241 18 (by decide)).trans g_240_18
                    have g_241_19 := (f_241 19 (by decide)).trans g_240_19
                    have g_241_21 := mf_cr_f g_240_21 (f_241 21 (by decide)) (f_241 22 (by decide)) (f_241 23 (by decide)) (f_241 24 (by decide))
                    have g_241_33 := mf_cr_f g_240_33 (f_241 33 (by decide)) (f_241 34 (by decide)) (f_241 35 (by decide)) (f_241 36 (by decide))
                    have g_241_20 : cE h_241 20 (.inl (.int, fA [n, p, i / 4, i % 4])) := e_241
                    refine ik_Wret rfl rfl ⟨_, _, rfl, rfl, ?_⟩
                    refine ik_Wk 0 (pc' := 118) (loc' := [some (.ref 17), some (fI e), some (fI n), some (fI p), some (fI i), some (fI (i / 4)), some (fI (i % 4))]) (st' := []) (h' := h_241) (cl' := 0) (sl' := 0) rfl ?_
                    have hG : (mk_gg cn go ch s pl ka pa fa kb pb fb e) n p i = true := decide_eq_true ⟨by omega, by omega, by omega, by omega, p_237_1⟩
                    have hZ : Z = 10000 * n + 100 * p + 10 * (i / 4) + i % 4 := by
                      rw [he, show (16 - i).toNat = (16 - (i + 1)).toNat + 1 by omega, mk_c1_s, if_pos hG]
                    exact ik_Wret rfl rfl ⟨_, _, rfl, rfl, rfl, rfl, ⟨l0_237, l1_237, l2_237, wg'_237, wc'_237, we'_237, n, p, (i / 4), (i % 4), rfl, g_241_10, m_237_10, g_241_11, m_237_11, g_241_12, m_237_12, g_241_13, m_237_13, g_241_17, g_241_19, g_241_21, g_241_33, g_241_20, p_237_0, (by rw [hZ]; exact Or.inr (mk_dg hn ⟨by omega, by omega⟩ ⟨by omega, by omega⟩ ⟨by omega, by omega⟩)), fr_241⟩⟩
                  · have k_237 := F_237.1.trans ul
                    have fr_237 := hfr_c F F_237 (by decide)
                    have g_237_7 := (F_237.2 7 (by decide +kernel)).trans u7
                    have g_237_8 := (F_237.2 8 (by decide +kernel)).trans u8
                    have g_237_9 := (F_237.2 9 (by decide +kernel)).trans u9
                    have g_237_15 := (F_237.2 15 (by decide +kernel)).trans u15
                    have g_237_18 := (F_237.2 18 (by decide +kernel)).trans u18
                    have g_237_20 := (F_237.2 20 (by decide +kernel)).trans u20
                    have g_237_10 : cE h_237 10 (.inl (.int, fA ch)) := e_237_10
                    have g_237_11 : cE h_237 11 (.inl (.int, fA wg'_237)) := e_237_11
                    have g_237_12 : cE h_237 12 (.inl (.int, fA wc'_237)) := e_237_12
                    have g_237_13 : cE h_237 13 (.inl (.int, fA we'_237)) := e_237_13
                    have g_237_17 : cE h_237 17 (.inr (8, [.ref 7, .ref 15, .ref 18, .ref 19, fJ l2_237, .ref 20])) := e_237_17
                    have g_237_19 : cE h_237 19 (.inl (.long, fL [l0_237, l1_237])) := e_237_19
                    have g_237_21 : mf_cr h_237 21  := e_237_21
                    have g_237_33 : mf_cr h_237 33  := e_237_33
                    refine ik_Wk 0 (pc' := 105) (loc' := [some (.ref 17), some (fI e), some (fI n), some (fI p), some (fI i), some (fI (i / 4)), some (fI (i % 4))]) (st' := [fI 0]) (h' := h_237) (cl' := 0) (sl' := 0) rfl ?_
                    refine fw_if_eq rfl rfl (by omega) (by omega) (fun hc24 => ?_) (fun hc24 => absurd hc24 (by omega))
                    refine fw_inc (a := i) (loc' := [some (.ref 17), some (fI e), some (fI n), some (fI p), some (fI (i + 1)), some (fI (i / 4)), some (fI (i % 4))]) rfl rfl (Nat.le_of_ble_eq_true rfl) rfl ?_
                    refine ik_Wk 1 (pc' := 46) (loc' := [some (.ref 17), some (fI e), some (fI n), some (fI p), some (fI (i + 1)), some (fI (i / 4)), some (fI (i % 4))]) (st' := []) (h' := h_237) (cl' := 0) (sl' := 0) rfl ?_
                    have hG : (mk_gg cn go ch s pl ka pa fa kb pb fb e) n p i = false := decide_eq_false (by omega)
                    have he2 : Z = mk_c1 (mk_gg cn go ch s pl ka pa fa kb pb fb e) n p (16 - (i + 1)).toNat (i + 1) z := by
                      rw [he, show (16 - i).toNat = (16 - (i + 1)).toNat + 1 by omega, mk_c1_s, hG, if_neg (by decide)]
                    exact ih (i + 1) l0_237 l1_237 l2_237 wg'_237 wc'_237 we'_237 (some (fI (i / 4))) (some (fI (i % 4))) h_237 g_237_7 g_237_8 n8 g_237_9 n9 g_237_10 m_237_10 g_237_11 m_237_11 g_237_12 m_237_12 g_237_13 m_237_13 g_237_15 g_237_17 g_237_18 g_237_19 g_237_20 g_237_21 g_237_33 k_237 fr_237 (by omega) p_237_0 he2 rfl rfl (by omega)

theorem cs_fairP {h : List ik_E} {pl : Int} {lo : Int} {s : Nat} {ka : Int} {pa : Int} {fa : Int} {kb : Int} {pb : Int} {fb : Int} {bo : Int} {la : Int} {lb : Int} {t0 : Int} {t1 : Int} {t2 : Int} {t3 : Int} {wg : List Int} {wc : List Int} {we : List Int} {cn : List Int} {go : List Int} {ch : List Int} {e : Int} (q0 : 2 ≤ pl ∧ pl ≤ 12) (q1 : 0 ≤ ka ∧ ka ≤ 2 ∧ 0 ≤ kb ∧ kb ≤ 2) (q2 : 0 ≤ pa ∧ pa < pl - 1) (q3 : 0 ≤ pb ∧ pb < pl - 1) (q4 : 0 ≤ fa ∧ fa ≤ 30 ∧ 0 ≤ fb ∧ fb ≤ 30) (q5 : ∀ x : Int, 0 ≤ x → x < pl - 1 → mx_wy wg wc we x (mx_w cn go ch s x)) (q6 : mx_rw pl cn go ch) (q7 : True) (q8 : s < 4096) (q9 : 0 ≤ e ∧ e ≤ 1000000) (Z : Int) (n : Int) (hn : 1 ≤ n ∧ n ≤ 20) (z : Int)  (K : ∀ (w : List ik_E) (p2 : Int) (l0 : Int) (l1 : Int) (l2 : Int) (wg1 : List Int) (wc1 : List Int) (we1 : List Int) (x4 : Option Value) (x5 : Option Value) (x6 : Option Value) (w7 : cE w 7 (.inr (0, [fI pl, fI ((s : Nat) : Int), fI lo, .ref 8, .ref 9, .ref 10, .ref 11, .ref 12, .ref 13]))) (w8 : cE w 8 (.inl (.int, fA cn))) (nw_8 : cn.length = 12) (w9 : cE w 9 (.inl (.int, fA go))) (nw_9 : go.length = 48) (w10 : cE w 10 (.inl (.int, fA ch))) (nw_10 : ch.length = 48) (w11 : cE w 11 (.inl (.int, fA wg1))) (nw_11 : wg1.length = 60) (w12 : cE w 12 (.inl (.int, fA wc1))) (nw_12 : wc1.length = 60) (w13 : cE w 13 (.inl (.int, fA we1))) (nw_13 : we1.length = 12) (w15 : cE w 15 (.inl (.int, fA [ka, pa, fa, kb, pb, fb]))) (w17 : cE w 17 (.inr (8, [.ref 7, .ref 15, .ref 18, .ref 19, fJ l2, .ref 20]))) (w18 : cE w 18 (.inl (.object "SlowerCork$Course", [.ref 21, .ref 25, .ref 29, .ref 33, .ref 37, .ref 41]))) (w19 : cE w 19 (.inl (.long, fL [l0, l1]))) (w20 : cE w 20 (.inl (.int, fA [t0, t1, t2, t3]))) (w21 : mf_cr w 21 ) (w33 : mf_cr w 33 ) (wl : w.length = 94) (F : hfr [10, 11, 12, 13, 17, 19, 20, 21, 22, 23, 24, 33, 34, 35, 36] h w) (hy : ∀ x : Int, 0 ≤ x → x < pl - 1 → mx_wy wg1 wc1 we1 x (mx_w cn go ch s x)) (he : Z = z) (w4 : ik_wl 94 x4 = true) (w5 : ik_wl 94 x5 = true) (w6 : ik_wl 94 x6 = true), ik_G 86 131 [some (.ref 17), some (fI e), some (fI n), some (fI p2), x4, x5, x6] [] w (cs_fairQ h pl lo s ka pa fa kb pb fb bo la lb t0 t1 t2 t3 wg wc we cn go ch e Z)) : ∀ (k : Nat) (p : Int) (l0 : Int) (l1 : Int) (l2 : Int) (wg1 : List Int) (wc1 : List Int) (we1 : List Int) (x4 : Option Value) (x5 : Option Value) (x6 : Option Value) (u : List ik_E) (u7 : cE u 7 (.inr (0, [fI pl, fI ((s : Nat) : Int), fI lo, .ref 8, .ref 9, .ref 10, .ref 11, .ref 12, .ref 13]))) (u8 : cE u 8 (.inl (.int, fA cn))) (n8 : cn.length = 12) (u9 : cE u 9 (.inl (.int, fA go))) (n9 : go.length = 48) (u10 : cE u 10 (.inl (.int, fA ch))) (n10 : ch.length = 48) (u11 : cE u 11 (.inl (.int, fA wg1))) (n11 : wg1.length = 60) (u12 : cE u 12 (.inl (.int, fA wc1))) (n12 : wc1.length = 60) (u13 : cE u 13 (.inl (.int, fA we1))) (n13 : we1.length = 12) (u15 : cE u 15 (.inl (.int, fA [ka, pa, fa, kb, pb, fb]))) (u17 : cE u 17 (.inr (8, [.ref 7, .ref 15, .ref 18, .ref 19, fJ l2, .ref 20]))) (u18 : cE u 18 (.inl (.object "SlowerCork$Course", [.ref 21, .ref 25, .ref 29, .ref 33, .ref 37, .ref 41]))) (u19 : cE u 19 (.inl (.long, fL [l0, l1]))) (u20 : cE u 20 (.inl (.int, fA [t0, t1, t2, t3]))) (u21 : mf_cr u 21 ) (u33 : mf_cr u 33 ) (ul : u.length = 94) (F : hfr [10, 11, 12, 13, 17, 19, 20, 21, 22, 23, 24, 33, 34, 35, 36] h u) (hp : 0 ≤ p ∧ p ≤ pl - 1) (hy : ∀ x : Int, 0 ≤ x → x < pl - 1 → mx_wy wg1 wc1 we1 x (mx_w cn go ch s x)) (he : Z = mk_c2 (mk_gg cn go ch s pl ka pa fa kb pb fb e) n (pl - 1 - p).toNat p z) (w4 : ik_wl 94 x4 = true) (w5 : ik_wl 94 x5 = true) (w6 : ik_wl 94 x6 = true) (hk : pl - 1 - p < (k : Int)), ik_G 86 32 [some (.ref 17), some (fI e), some (fI n), some (fI p), x4, x5, x6] [] u (cs_fairQ h pl lo s ka pa fa kb pb fb bo la lb t0 t1 t2 t3 wg wc we cn go ch e Z) := by
  intro k
  induction k with
  | zero => intro p l0 l1 l2 wg1 wc1 we1 x4 x5 x6 u u7 u8 n8 u9 n9 u10 n10 u11 n11 u12 n12 u13 n13 u15 u17 u18 u19 u20 u21 u33 ul F hp hy he w4 w5 w6 hk; omega
  | succ k ih =>
    intro p l0 l1 l2 wg1 wc1 we1 x4 x5 x6 u u7 u8 n8 u9 n9 u10 n10 u11 n11 u12 n12 u13 n13 u15 u17 u18 u19 u20 u21 u33 ul F hp hy he w4 w5 w6 hk
    refine ik_Wk 2 (pc' := 34) (loc' := [some (.ref 17), some (fI e), some (fI n), some (fI p), x4, x5, x6]) (st' := [.ref 17, fI p]) (h' := u) (cl' := 0) (sl' := 0) rfl ?_
    refine fw_gf rfl rfl u17 rfl ?_
    refine ik_Wc 2 1 0 [.ref 7] [fI p] rfl rfl rfl (by decide) rfl rfl (fw_rec ul (fw_ftx rfl (wv_c rfl wv_n) (wl_c rfl (wl_c rfl (wl_c rfl (wl_c rfl (wl_c w4 (wl_c w5 (wl_c w6 wl_n)))))))) u7 rfl (by decide)) ?_
    refine ik_Wk 0 (pc' := 0) (loc' := [some (.ref 7)]) (st' := []) (h' := u) (cl' := 0) (sl' := 0) rfl ?_
    refine ik_Wk 1 (pc' := 1) (loc' := [some (.ref 7)]) (st' := [.ref 7]) (h' := u) (cl' := 0) (sl' := 0) rfl ?_
    refine fw_gf rfl rfl u7 rfl ?_
    refine ik_Wk 1 (pc' := 5) (loc' := [some (.ref 7)]) (st' := [fI 1, fI pl]) (h' := u) (cl' := 0) (sl' := 0) rfl ?_
    refine fw_sub rfl ?_
    refine ik_Wret rfl rfl ⟨_, _, rfl, rfl, ?_⟩
    refine ik_Wk 0 (pc' := 40) (loc' := [some (.ref 17), some (fI e), some (fI n), some (fI p), x4, x5, x6]) (st' := [fI (pl - 1), fI p]) (h' := u) (cl' := 0) (sl' := 0) rfl ?_
    refine fw_ic_ge rfl rfl (by omega) (by omega) (by omega) (by omega) (fun hc1 => ?_) (fun hc1 => ?_)
    · rw [show (pl - 1 - p).toNat = 0 by omega, mk_c2_0] at he
      exact K u p l0 l1 l2 wg1 wc1 we1 x4 x5 x6 u7 u8 n8 u9 n9 u10 n10 u11 n11 u12 n12 u13 n13 u15 u17 u18 u19 u20 u21 u33 ul F hy he w4 w5 w6
    · refine ik_Wk 2 (pc' := 46) (loc' := [some (.ref 17), some (fI e), some (fI n), some (fI p), some (fI 0), x5, x6]) (st' := []) (h' := u) (cl' := 0) (sl' := 0) rfl ?_
      refine cs_fairK (pl := pl) (lo := lo) (s := s) (ka := ka) (pa := pa) (fa := fa) (kb := kb) (pb := pb) (fb := fb) (bo := bo) (la := la) (lb := lb) (t0 := t0) (t1 := t1) (t2 := t2) (t3 := t3) (wg := wg) (wc := wc) (we := we) (cn := cn) (go := go) (ch := ch) (e := e) q0 q1 q2 q3 q4 q5 q6 q7 q8 q9 Z n hn p (by omega) (mk_c2 (mk_gg cn go ch s pl ka pa fa kb pb fb e) n (pl - 1 - (p + 1)).toNat (p + 1) z)  (fun h_242 i2_242 l0_242 l1_242 l2_242 wg1_242 wc1_242 we1_242 x5_242 x6_242 g_242_7 g_242_8 m_242_8 g_242_9 m_242_9 g_242_10 m_242_10 g_242_11 m_242_11 g_242_12 m_242_12 g_242_13 m_242_13 g_242_15 g_242_17 g_242_18 g_242_19 g_242_20 g_242_21 g_242_33 k_242 fr_242 hy_242 he_242 w5_242 w6_242 => ?_) 17 0 l0 l1 l2 wg1 wc1 we1 x5 x6 u u7 u8 n8 u9 n9 u10 n10 u11 n11 u12 n12 u13 n13 u15 u17 u18 u19 u20 u21 u33 ul F (by omega) hy (by rw [he, show (pl - 1 - p).toNat = (pl - 1 - (p + 1)).toNat + 1 by omega, mk_c2_s, show (16 - (0 : Int)).toNat = 16 from rfl]) w5 w6 (by omega)
      refine fw_inc (a := p) (loc' := [some (.ref 17), some (fI e), some (fI n), some (fI (p + 1)), some (fI i2_242), x5_242, x6_242]) rfl rfl (Nat.le_of_ble_eq_true rfl) rfl ?_
      refine ik_Wk 1 (pc' := 32) (loc' := [some (.ref 17), some (fI e), some (fI n), some (fI (p + 1)), some (fI i2_242), x5_242, x6_242]) (st' := []) (h' := h_242) (cl' := 0) (sl' := 0) rfl ?_
      exact ih (p + 1) l0_242 l1_242 l2_242 wg1_242 wc1_242 we1_242 (some (fI i2_242)) x5_242 x6_242 h_242 g_242_7 g_242_8 m_242_8 g_242_9 m_242_9 g_242_10 m_242_10 g_242_11 m_242_11 g_242_12 m_242_12 g_242_13 m_242_13 g_242_15 g_242_17 g_242_18 g_242_19 g_242_20 g_242_21 g_242_33 k_242 fr_242 (by omega) hy_242 he_242 rfl w5_242 w6_242 (by omega)

theorem cs_fairN {h : List ik_E} {pl : Int} {lo : Int} {s : Nat} {ka : Int} {pa : Int} {fa : Int} {kb : Int} {pb : Int} {fb : Int} {bo : Int} {la : Int} {lb : Int} {t0 : Int} {t1 : Int} {t2 : Int} {t3 : Int} {wg : List Int} {wc : List Int} {we : List Int} {cn : List Int} {go : List Int} {ch : List Int} {e : Int} (q0 : 2 ≤ pl ∧ pl ≤ 12) (q1 : 0 ≤ ka ∧ ka ≤ 2 ∧ 0 ≤ kb ∧ kb ≤ 2) (q2 : 0 ≤ pa ∧ pa < pl - 1) (q3 : 0 ≤ pb ∧ pb < pl - 1) (q4 : 0 ≤ fa ∧ fa ≤ 30 ∧ 0 ≤ fb ∧ fb ≤ 30) (q5 : ∀ x : Int, 0 ≤ x → x < pl - 1 → mx_wy wg wc we x (mx_w cn go ch s x)) (q6 : mx_rw pl cn go ch) (q7 : True) (q8 : s < 4096) (q9 : 0 ≤ e ∧ e ≤ 1000000) (Z : Int) : ∀ (k : Nat) (n : Int) (l0 : Int) (l1 : Int) (l2 : Int) (wg1 : List Int) (wc1 : List Int) (we1 : List Int) (x3 : Option Value) (x4 : Option Value) (x5 : Option Value) (x6 : Option Value) (u : List ik_E) (u7 : cE u 7 (.inr (0, [fI pl, fI ((s : Nat) : Int), fI lo, .ref 8, .ref 9, .ref 10, .ref 11, .ref 12, .ref 13]))) (u8 : cE u 8 (.inl (.int, fA cn))) (n8 : cn.length = 12) (u9 : cE u 9 (.inl (.int, fA go))) (n9 : go.length = 48) (u10 : cE u 10 (.inl (.int, fA ch))) (n10 : ch.length = 48) (u11 : cE u 11 (.inl (.int, fA wg1))) (n11 : wg1.length = 60) (u12 : cE u 12 (.inl (.int, fA wc1))) (n12 : wc1.length = 60) (u13 : cE u 13 (.inl (.int, fA we1))) (n13 : we1.length = 12) (u15 : cE u 15 (.inl (.int, fA [ka, pa, fa, kb, pb, fb]))) (u17 : cE u 17 (.inr (8, [.ref 7, .ref 15, .ref 18, .ref 19, fJ l2, .ref 20]))) (u18 : cE u 18 (.inl (.object "SlowerCork$Course", [.ref 21, .ref 25, .ref 29, .ref 33, .ref 37, .ref 41]))) (u19 : cE u 19 (.inl (.long, fL [l0, l1]))) (u20 : cE u 20 (.inl (.int, fA [t0, t1, t2, t3]))) (u21 : mf_cr u 21 ) (u33 : mf_cr u 33 ) (ul : u.length = 94) (F : hfr [10, 11, 12, 13, 17, 19, 20, 21, 22, 23, 24, 33, 34, 35, 36] h u) (hn : 1 ≤ n ∧ n ≤ 21) (hy : ∀ x : Int, 0 ≤ x → x < pl - 1 → mx_wy wg1 wc1 we1 x (mx_w cn go ch s x)) (he : Z = mk_c3 (mk_gg cn go ch s pl ka pa fa kb pb fb e) (pl - 1).toNat (21 - n).toNat n) (w3 : ik_wl 94 x3 = true) (w4 : ik_wl 94 x4 = true) (w5 : ik_wl 94 x5 = true) (w6 : ik_wl 94 x6 = true) (hk : 21 - n < (k : Int)), ik_G 86 24 [some (.ref 17), some (fI e), some (fI n), x3, x4, x5, x6] [] u (cs_fairQ h pl lo s ka pa fa kb pb fb bo la lb t0 t1 t2 t3 wg wc we cn go ch e Z) := by
  intro k
  induction k with
  | zero => intro n l0 l1 l2 wg1 wc1 we1 x3 x4 x5 x6 u u7 u8 n8 u9 n9 u10 n10 u11 n11 u12 n12 u13 n13 u15 u17 u18 u19 u20 u21 u33 ul F hn hy he w3 w4 w5 w6 hk; omega
  | succ k ih =>
    intro n l0 l1 l2 wg1 wc1 we1 x3 x4 x5 x6 u u7 u8 n8 u9 n9 u10 n10 u11 n11 u12 n12 u13 n13 u15 u17 u18 u19 u20 u21 u33 ul F hn hy he w3 w4 w5 w6 hk
    refine ik_Wk 1 (pc' := 25) (loc' := [some (.ref 17), some (fI e), some (fI n), x3, x4, x5, x6]) (st' := [fI n]) (h' := u) (cl' := 0) (sl' := 0) rfl ?_
    refine fw_bi rfl (by decide) ?_
    refine fw_ic_gt rfl rfl (by omega) (by omega) (by omega) (by omega) (fun hc1 => ?_) (fun hc1 => ?_)
    · refine ik_Wk 5 (pc' := 142) (loc' := [some (.ref 17), some (fI e), some (fI n), x3, x4, x5, x6]) (st' := [fI (-1), fI (-1), fI (-1), fI (-1), .ref 17]) (h' := u) (cl' := 0) (sl' := 0) rfl ?_
      refine ik_Wc 88 5 0 [.ref 17, fI (-1), fI (-1), fI (-1), fI (-1)] [] rfl rfl rfl (by decide) rfl rfl (fw_rec ul (fw_ftx rfl wv_n (wl_c rfl (wl_c rfl (wl_c rfl (wl_c w3 (wl_c w4 (wl_c w5 (wl_c w6 wl_n)))))))) u17 rfl (by decide)) ?_
      refine ik_Wk 0 (pc' := 0) (loc' := [some (.ref 17), some (fI (-1)), some (fI (-1)), some (fI (-1)), some (fI (-1))]) (st' := []) (h' := u) (cl' := 0) (sl' := 0) rfl ?_
      refine ik_Wk 1 (pc' := 1) (loc' := [some (.ref 17), some (fI (-1)), some (fI (-1)), some (fI (-1)), some (fI (-1))]) (st' := [.ref 17]) (h' := u) (cl' := 0) (sl' := 0) rfl ?_
      refine fw_gf rfl rfl u17 rfl ?_
      refine ik_Wk 2 (pc' := 6) (loc' := [some (.ref 17), some (fI (-1)), some (fI (-1)), some (fI (-1)), some (fI (-1))]) (st' := [fI (-1), fI 0, .ref 20]) (h' := u) (cl' := 0) (sl' := 0) rfl ?_
      refine fx_ias (z := 0) rfl u20 (by decide) (Nat.le_of_ble_eq_true rfl) (by decide) ?_
      intro h_243 e_243 f_243 l_243
      have k_243 := l_243.trans ul
      have fr_243 := hfr_w F f_243 l_243 (by decide)
      have g_243_7 := (f_243 7 (by decide)).trans u7
      have g_243_8 := (f_243 8 (by decide)).trans u8
      have g_243_9 := (f_243 9 (by decide)).trans u9
      have g_243_10 := (f_243 10 (by decide)).trans u10
      have g_243_11 := (f_243 11 (by decide)).trans u11
      have g_243_12 := (f_243 12 (by decide)).trans u12
      have g_243_13 := (f_243 13 (by decide)).trans u13
      have g_243_15 := (f_243 15 (by decide)).trans u15
      have g_243_17 := (f_243 17 (by decide)).trans u17
      have g_243_18 := (f_243 18 (by decide)).trans u18
      have g_243_19 := (f_243 19 (by decide)).trans u19
      have g_243_21 := mf_cr_f u21 (f_243 21 (by decide)) (f_243 22 (by decide)) (f_243 23 (by decide)) (f_243 24 (by decide))
      have g_243_33 := mf_cr_f u33 (f_243 33 (by decide)) (f_243 34 (by decide)) (f_243 35 (by decide)) (f_243 36 (by decide))
      have g_243_20 : cE h_243 20 (.inl (.int, fA [-1, t1, t2, t3])) := e_243
      refine ik_Wk 1 (pc' := 8) (loc' := [some (.ref 17), some (fI (-1)), some (fI (-1)), some (fI (-1)), some (fI (-1))]) (st' := [.ref 17]) (h' := h_243) (cl' := 0) (sl' := 0) rfl ?_
      refine fw_gf rfl rfl g_243_17 rfl ?_
      refine ik_Wk 2 (pc' := 13) (loc' := [some (.ref 17), some (fI (-1)), some (fI (-1)), some (fI (-1)), some (fI (-1))]) (st' := [fI (-1), fI 1, .ref 20]) (h' := h_243) (cl' := 0) (sl' := 0) rfl ?_
      refine fx_ias (z := 1) rfl g_243_20 (by decide) (Nat.le_of_ble_eq_true rfl) (by decide) ?_
      intro h_244 e_244 f_244 l_244
      have k_244 := l_244.trans k_243
      have fr_244 := hfr_w fr_243 f_244 l_244 (by decide)
      have g_244_7 := (f_244 7 (by decide)).trans g_243_7
      have g_244_8 := (f_244 8 (by decide)).trans g_243_8
      have g_244_9 := (f_244 9 (by decide)).trans g_243_9
      have g_244_10 := (f_244 10 (by decide)).trans g_243_10
      have g_244_11 := (f_244 11 (by decide)).trans g_243_11
      have g_244_12 := (f_244 12 (by decide)).trans g_243_12
      have g_244_13 := (f_244 13 (by decide)).trans g_243_13
      have g_244_15 := (f_244 15 (by decide)).trans g_243_15
      have g_244_17 := (f_244 17 (by decide)).trans g_243_17
      have g_244_18 := (f_244 18 (by decide)).trans g_243_18
      have g_244_19 := (f_244 19 (by decide)).trans g_243_19
      have g_244_21 := mf_cr_f g_243_21 (f_244 21 (by decide)) (f_244 22 (by decide)) (f_244 23 (by decide)) (f_244 24 (by decide))
      have g_244_33 := mf_cr_f g_243_33 (f_244 33 (by decide)) (f_244 34 (by decide)) (f_244 35 (by decide)) (f_244 36 (by decide))
      have g_244_20 : cE h_244 20 (.inl (.int, fA [-1, -1, t2, t3])) := e_244
      refine ik_Wk 1 (pc' := 15) (loc' := [some (.ref 17), some (fI (-1)), some (fI (-1)), some (fI (-1)), some (fI (-1))]) (st' := [.ref 17]) (h' := h_244) (cl' := 0) (sl' := 0) rfl ?_
      refine fw_gf rfl rfl g_244_17 rfl ?_
      refine ik_Wk 2 (pc' := 20) (loc' := [some (.ref 17), some (fI (-1)), some (fI (-1)), some (fI (-1)), some (fI (-1))]) (st' := [fI (-1), fI 2, .ref 20]) (h' := h_244) (cl' := 0) (sl' := 0) rfl ?_
      refine fx_ias (z := 2) rfl g_244_20 (by decide) (Nat.le_of_ble_eq_true rfl) (by decide) ?_
      intro h_245 e_245 f_245 l_245
      have k_245 := l_245.trans k_244
      have fr_245 := hfr_w fr_244 f_245 l_245 (by decide)
      have g_245_7 := (f_245 7 (by decide)).trans g_244_7
      have g_245_8 := (f_245 8 (by decide)).trans g_244_8
      have g_245_9 := (f_245 9 (by decide)).trans g_244_9
      have g_245_10 := (f_245 10 (by decide)).trans g_244_10
      have g_245_11 := (f_245 11 (by decide)).trans g_244_11
      have g_245_12 := (f_245 12 (by decide)).trans g_244_12
      have g_245_13 := (f_245 13 (by decide)).trans g_244_13
      have g_245_15 := (f_245 15 (by decide)).trans g_244_15
      have g_245_17 := (f_245 17 (by decide)).trans g_244_17
      have g_245_18 := (f_245 18 (by decide)).trans g_244_18
      have g_245_19 := (f_245 19 (by decide)).trans g_244_19
      have g_245_21 := mf_cr_f g_244_21 (f_245 21 (by decide)) (f_245 22 (by decide)) (f_245 23 (by decide)) (f_245 24 (by decide))
      have g_245_33 := mf_cr_f g_244_33 (f_245 33 (by decide)) (f_245 34 (by decide)) (f_245 35 (by decide)) (f_245 36 (by decide))
      have g_245_20 : cE h_245 20 (.inl (.int, fA [-1, -1, -1, t3])) := e_245
      refine ik_Wk 1 (pc' := 22) (loc' := [some (.ref 17), some (fI (-1)), some (fI (-1)), some (fI (-1)), some (fI (-1))]) (st' := [.ref 17]) (h' := h_245) (cl' := 0) (sl' := 0) rfl ?_
      refine fw_gf rfl rfl g_245_17 rfl ?_
      refine ik_Wk 2 (pc' := 28) (loc' := [some (.ref 17), some (fI (-1)), some (fI (-1)), some (fI (-1)), some (fI (-1))]) (st' := [fI (-1), fI 3, .ref 20]) (h' := h_245) (cl' := 0) (sl' := 0) rfl ?_
      refine fx_ias (z := 3) rfl g_245_20 (by decide) (Nat.le_of_ble_eq_true rfl) (by decide) ?_
      intro h_246 e_246 f_246 l_246
      have k_246 := l_246.trans k_245
      have fr_246 := hfr_w fr_245 f_246 l_246 (by decide)
      have g_246_7 := (f_246 7 (by decide)).trans g_245_7
      have g_246_8 := (f_246 8 (by decide)).trans g_245_8
      have g_246_9 := (f_246 9 (by decide)).trans g_245_9
      have g_246_10 := (f_246 10 (by decide)).trans g_245_10
      have g_246_11 := (f_246 11 (by decide)).trans g_245_11
      have g_246_12 := (f_246 12 (by decide)).trans g_245_12
      have g_246_13 := (f_246 13 (by decide)).trans g_245_13
      have g_246_15 := (f_246 15 (by decide)).trans g_245_15
      have g_246_17 := (f_246 17 (by decide)).trans g_245_17
      have g_246_18 := (f_246 18 (by decide)).trans g_245_18
      have g_246_19 := (f_246 19 (by decide)).trans g_245_19
      have g_246_21 := mf_cr_f g_245_21 (f_246 21 (by decide)) (f_246 22 (by decide)) (f_246 23 (by decide)) (f_246 24 (by decide))
      have g_246_33 := mf_cr_f g_245_33 (f_246 33 (by decide)) (f_246 34 (by decide)) (f_246 35 (by decide)) (f_246 36 (by decide))
      have g_246_20 : cE h_246 20 (.inl (.int, fA [-1, -1, -1, -1])) := e_246
      refine ik_Wret rfl rfl ⟨_, _, rfl, rfl, ?_⟩
      refine ik_Wk 0 (pc' := 145) (loc' := [some (.ref 17), some (fI e), some (fI n), x3, x4, x5, x6]) (st' := []) (h' := h_246) (cl' := 0) (sl' := 0) rfl ?_
      rw [show (21 - n).toNat = 0 by omega, mk_c3_0] at he
      have hZ : Z = -1 := he
      exact ik_Wret rfl rfl ⟨_, _, rfl, rfl, rfl, rfl, ⟨l0, l1, l2, wg1, wc1, we1, (-1), (-1), (-1), (-1), rfl, g_246_10, n10, g_246_11, n11, g_246_12, n12, g_246_13, n13, g_246_17, g_246_19, g_246_21, g_246_33, g_246_20, hy, (by rw [hZ]; exact Or.inl ⟨by omega, rfl, rfl, rfl, rfl⟩), fr_246⟩⟩
    · refine ik_Wk 2 (pc' := 32) (loc' := [some (.ref 17), some (fI e), some (fI n), some (fI 0), x4, x5, x6]) (st' := []) (h' := u) (cl' := 0) (sl' := 0) rfl ?_
      refine cs_fairP (pl := pl) (lo := lo) (s := s) (ka := ka) (pa := pa) (fa := fa) (kb := kb) (pb := pb) (fb := fb) (bo := bo) (la := la) (lb := lb) (t0 := t0) (t1 := t1) (t2 := t2) (t3 := t3) (wg := wg) (wc := wc) (we := we) (cn := cn) (go := go) (ch := ch) (e := e) q0 q1 q2 q3 q4 q5 q6 q7 q8 q9 Z n (by omega) (mk_c3 (mk_gg cn go ch s pl ka pa fa kb pb fb e) (pl - 1).toNat (21 - (n + 1)).toNat (n + 1))  (fun h_247 p2_247 l0_247 l1_247 l2_247 wg1_247 wc1_247 we1_247 x4_247 x5_247 x6_247 g_247_7 g_247_8 m_247_8 g_247_9 m_247_9 g_247_10 m_247_10 g_247_11 m_247_11 g_247_12 m_247_12 g_247_13 m_247_13 g_247_15 g_247_17 g_247_18 g_247_19 g_247_20 g_247_21 g_247_33 k_247 fr_247 hy_247 he_247 w4_247 w5_247 w6_247 => ?_) (pl.toNat + 1) 0 l0 l1 l2 wg1 wc1 we1 x4 x5 x6 u u7 u8 n8 u9 n9 u10 n10 u11 n11 u12 n12 u13 n13 u15 u17 u18 u19 u20 u21 u33 ul F (by omega) hy (by rw [he, show (21 - n).toNat = (21 - (n + 1)).toNat + 1 by omega, mk_c3_s, Int.sub_zero]) w4 w5 w6 (by omega)
      refine fw_inc (a := n) (loc' := [some (.ref 17), some (fI e), some (fI (n + 1)), some (fI p2_247), x4_247, x5_247, x6_247]) rfl rfl (Nat.le_of_ble_eq_true rfl) rfl ?_
      refine ik_Wk 1 (pc' := 24) (loc' := [some (.ref 17), some (fI e), some (fI (n + 1)), some (fI p2_247), x4_247, x5_247, x6_247]) (st' := []) (h' := h_247) (cl' := 0) (sl' := 0) rfl ?_
      exact ih  (n + 1) l0_247 l1_247 l2_247 wg1_247 wc1_247 we1_247 (some (fI p2_247)) x4_247 x5_247 x6_247 h_247 g_247_7 g_247_8 m_247_8 g_247_9 m_247_9 g_247_10 m_247_10 g_247_11 m_247_11 g_247_12 m_247_12 g_247_13 m_247_13 g_247_15 g_247_17 g_247_18 g_247_19 g_247_20 g_247_21 g_247_33 k_247 fr_247 (by omega) hy_247 he_247 rfl w4_247 w5_247 w6_247 (by omega)

theorem cs_findFair {h : List ik_E} {pl : Int} {lo : Int} {s : Nat} {ka : Int} {pa : Int} {fa : Int} {kb : Int} {pb : Int} {fb : Int} {bo : Int} {la : Int} {lb : Int} {t0 : Int} {t1 : Int} {t2 : Int} {t3 : Int} {wg : List Int} {wc : List Int} {we : List Int} {cn : List Int} {go : List Int} {ch : List Int} {e : Int} (q0 : 2 ≤ pl ∧ pl ≤ 12) (q1 : 0 ≤ ka ∧ ka ≤ 2 ∧ 0 ≤ kb ∧ kb ≤ 2) (q2 : 0 ≤ pa ∧ pa < pl - 1) (q3 : 0 ≤ pb ∧ pb < pl - 1) (q4 : 0 ≤ fa ∧ fa ≤ 30 ∧ 0 ≤ fb ∧ fb ≤ 30) (q5 : ∀ x : Int, 0 ≤ x → x < pl - 1 → mx_wy wg wc we x (mx_w cn go ch s x)) (q6 : mx_rw pl cn go ch) (q7 : True) (q8 : s < 4096) (q9 : 0 ≤ e ∧ e ≤ 1000000) (h7 : cE h 7 (.inr (0, [fI pl, fI ((s : Nat) : Int), fI lo, .ref 8, .ref 9, .ref 10, .ref 11, .ref 12, .ref 13]))) (h8 : cE h 8 (.inl (.int, fA cn))) (n8 : cn.length = 12) (h9 : cE h 9 (.inl (.int, fA go))) (n9 : go.length = 48) (h10 : cE h 10 (.inl (.int, fA ch))) (n10 : ch.length = 48) (h11 : cE h 11 (.inl (.int, fA wg))) (n11 : wg.length = 60) (h12 : cE h 12 (.inl (.int, fA wc))) (n12 : wc.length = 60) (h13 : cE h 13 (.inl (.int, fA we))) (n13 : we.length = 12) (h15 : cE h 15 (.inl (.int, fA [ka, pa, fa, kb, pb, fb]))) (h17 : cE h 17 (.inr (8, [.ref 7, .ref 15, .ref 18, .ref 19, fJ bo, .ref 20]))) (h18 : cE h 18 (.inl (.object "SlowerCork$Course", [.ref 21, .ref 25, .ref 29, .ref 33, .ref 37, .ref 41]))) (h19 : cE h 19 (.inl (.long, fL [la, lb]))) (h20 : cE h 20 (.inl (.int, fA [t0, t1, t2, t3]))) (h21 : mf_cr h 21 ) (h33 : mf_cr h 33 ) (hl : h.length = 94) : ik_F 86 [.ref 17, fI e] h (fun rv h' => ∃ (l0 : Int) (l1 : Int) (l2 : Int) (wg' : List Int) (wc' : List Int) (we' : List Int) (z0 : Int) (z1 : Int) (z2 : Int) (z3 : Int), rv = [] ∧ cE h' 10 (.inl (.int, fA ch)) ∧ ch.length = 48 ∧ cE h' 11 (.inl (.int, fA wg')) ∧ wg'.length = 60 ∧ cE h' 12 (.inl (.int, fA wc')) ∧ wc'.length = 60 ∧ cE h' 13 (.inl (.int, fA we')) ∧ we'.length = 12 ∧ cE h' 17 (.inr (8, [.ref 7, .ref 15, .ref 18, .ref 19, fJ l2, .ref 20])) ∧ cE h' 19 (.inl (.long, fL [l0, l1])) ∧ mf_cr h' 21  ∧ mf_cr h' 33  ∧ cE h' 20 (.inl (.int, fA [z0, z1, z2, z3])) ∧ (∀ x : Int, 0 ≤ x → x < pl - 1 → mx_wy wg' wc' we' x (mx_w cn go ch s x)) ∧ (mk_fo (mk_fz cn go ch s pl ka pa fa kb pb fb e) z0 z1 z2 z3) ∧ hfr [10, 11, 12, 13, 17, 19, 20, 21, 22, 23, 24, 33, 34, 35, 36] h h') := by
  refine ik_Wk 2 (pc' := 2) (loc' := [some (.ref 17), some (fI e), none, none, none, none, none]) (st' := [fI e, .ref 17]) (h' := h) (cl' := 0) (sl' := 0) rfl ?_
  refine fw_call 79 2 0 [.ref 17, fI e] [] rfl rfl rfl (by decide) rfl rfl (fw_rec hl rfl h17 rfl (by decide)) (cs_raceAsSet (pl := pl) (lo := lo) (s := s) (ka := ka) (pa := pa) (fa := fa) (kb := kb) (pb := pb) (fb := fb) (lim := e) (bo := bo) (la := la) (lb := lb) (wg := wg) (wc := wc) (we := we) (W := (fun x => mx_w cn go ch s x)) (by omega) (by omega) (by omega) (by omega) (by omega) (by omega) q5 (mx_rw_ok q6 _) h7 h11 n11 h12 n12 h13 n13 h15 h17 h18 h19 h21 h33 hl) ?_
  rintro _ h_248 ⟨l0_248, l1_248, l2_248, rfl, e_248_17, e_248_19, e_248_21, e_248_33, p_248_0, p_248_1, F_248⟩
  have k_248 := F_248.1.trans hl
  have fr_248 := hfr_c (hfr_refl [10, 11, 12, 13, 17, 19, 20, 21, 22, 23, 24, 33, 34, 35, 36] h) F_248 (by decide)
  have g_248_7 := (F_248.2 7 (by decide +kernel)).trans h7
  have g_248_8 := (F_248.2 8 (by decide +kernel)).trans h8
  have g_248_9 := (F_248.2 9 (by decide +kernel)).trans h9
  have g_248_10 := (F_248.2 10 (by decide +kernel)).trans h10
  have g_248_11 := (F_248.2 11 (by decide +kernel)).trans h11
  have g_248_12 := (F_248.2 12 (by decide +kernel)).trans h12
  have g_248_13 := (F_248.2 13 (by decide +kernel)).trans h13
  have g_248_15 := (F_248.2 15 (by decide +kernel)).trans h15
  have g_248_18 := (F_248.2 18 (by decide +kernel)).trans h18
  have g_248_20 := (F_248.2 20 (by decide +kernel)).trans h20
  have g_248_17 : cE h_248 17 (.inr (8, [.ref 7, .ref 15, .ref 18, .ref 19, fJ l2_248, .ref 20])) := e_248_17
  have g_248_19 : cE h_248 19 (.inl (.long, fL [l0_248, l1_248])) := e_248_19
  have g_248_21 : mf_cr h_248 21  := e_248_21
  have g_248_33 : mf_cr h_248 33  := e_248_33
  refine ik_Wk 0 (pc' := 5) (loc' := [some (.ref 17), some (fI e), none, none, none, none, none]) (st' := []) (h' := h_248) (cl' := 0) (sl' := 0) rfl ?_
  have ka_248 := mr_ok_cm (W := (fun x => mx_w cn go ch s x)) (k := ka) (mx_rw_ok q6 _) q2
  have kb_248 := mr_ok_cm (W := (fun x => mx_w cn go ch s x)) (k := kb) (mx_rw_ok q6 _) q3
  have Fa_248 := mr_F_b ka_248 kb_248 fa (show 0 ≤ fb by omega)
  have Fb_248 := mr_F_b kb_248 ka_248 fb (show 0 ≤ fa by omega)
  have hg_248 : mk_gap cn go ch s pl ka pa fa kb pb fb = mk_ab (mr_F0 (mf_cm (fun x => mx_w cn go ch s x) (pl - 1) ka pa) fa (mf_cm (fun x => mx_w cn go ch s x) (pl - 1) kb pb) fb / 1000 - mr_F0 (mf_cm (fun x => mx_w cn go ch s x) (pl - 1) kb pb) fb (mf_cm (fun x => mx_w cn go ch s x) (pl - 1) ka pa) fa / 1000) := by show mk_ab (mr_w _ _ _ _ 0 - mr_w _ _ _ _ 1) = _; rw [mr_w_0, mr_w_1]
  refine ik_Wk 1 (pc' := 6) (loc' := [some (.ref 17), some (fI e), none, none, none, none, none]) (st' := [.ref 17]) (h' := h_248) (cl' := 0) (sl' := 0) rfl ?_
  refine ik_Wc 76 1 0 [.ref 17] [] rfl rfl rfl (by decide) rfl rfl (fw_rec k_248 rfl g_248_17 rfl (by decide)) ?_
  refine ik_Wk 0 (pc' := 0) (loc' := [some (.ref 17)]) (st' := []) (h' := h_248) (cl' := 0) (sl' := 0) rfl ?_
  refine ik_Wk 2 (pc' := 2) (loc' := [some (.ref 17)]) (st' := [fI 0, .ref 17]) (h' := h_248) (cl' := 0) (sl' := 0) rfl ?_
  refine ik_Wc 74 2 0 [.ref 17, fI 0] [] rfl rfl rfl (by decide) rfl rfl (fw_rec k_248 rfl g_248_17 rfl (by decide)) ?_
  refine ik_Wk 0 (pc' := 0) (loc' := [some (.ref 17), some (fI 0)]) (st' := []) (h' := h_248) (cl' := 0) (sl' := 0) rfl ?_
  refine ik_Wk 1 (pc' := 1) (loc' := [some (.ref 17), some (fI 0)]) (st' := [.ref 17]) (h' := h_248) (cl' := 0) (sl' := 0) rfl ?_
  refine fw_gf rfl rfl g_248_17 rfl ?_
  refine ik_Wk 1 (pc' := 5) (loc' := [some (.ref 17), some (fI 0)]) (st' := [fI 0, .ref 19]) (h' := h_248) (cl' := 0) (sl' := 0) rfl ?_
  refine fx_lal (z := 0) rfl g_248_19 (by decide) (Nat.le_of_ble_eq_true rfl) (by decide) ?_
  refine ik_Wk 0 (pc' := 6) (loc' := [some (.ref 17), some (fI 0)]) (st' := [fJ l0_248]) (h' := h_248) (cl' := 0) (sl' := 0) rfl ?_
  refine fw_l2 1000 rfl rfl (by decide) ?_
  refine fx_ldiv rfl (by omega) (by omega) (by omega) (by omega) ?_
  refine fx_l2i rfl ?_
  refine ik_Wret rfl rfl ⟨_, _, rfl, rfl, ?_⟩
  refine ik_Wk 0 (pc' := 5) (loc' := [some (.ref 17)]) (st' := [fI (l0_248 / 1000)]) (h' := h_248) (cl' := 0) (sl' := 0) rfl ?_
  refine ik_Wk 2 (pc' := 7) (loc' := [some (.ref 17)]) (st' := [fI 1, .ref 17, fI (l0_248 / 1000)]) (h' := h_248) (cl' := 0) (sl' := 0) rfl ?_
  refine ik_Wc 74 2 0 [.ref 17, fI 1] [fI (l0_248 / 1000)] rfl rfl rfl (by decide) rfl rfl (fw_rec k_248 rfl g_248_17 rfl (by decide)) ?_
  refine ik_Wk 0 (pc' := 0) (loc' := [some (.ref 17), some (fI 1)]) (st' := []) (h' := h_248) (cl' := 0) (sl' := 0) rfl ?_
  refine ik_Wk 1 (pc' := 1) (loc' := [some (.ref 17), some (fI 1)]) (st' := [.ref 17]) (h' := h_248) (cl' := 0) (sl' := 0) rfl ?_
  refine fw_gf rfl rfl g_248_17 rfl ?_
  refine ik_Wk 1 (pc' := 5) (loc' := [some (.ref 17), some (fI 1)]) (st' := [fI 1, .ref 19]) (h' := h_248) (cl' := 0) (sl' := 0) rfl ?_
  refine fx_lal (z := 1) rfl g_248_19 (by decide) (Nat.le_of_ble_eq_true rfl) (by decide) ?_
  refine ik_Wk 0 (pc' := 6) (loc' := [some (.ref 17), some (fI 1)]) (st' := [fJ l1_248]) (h' := h_248) (cl' := 0) (sl' := 0) rfl ?_
  refine fw_l2 1000 rfl rfl (by decide) ?_
  refine fx_ldiv rfl (by omega) (by omega) (by omega) (by omega) ?_
  refine fx_l2i rfl ?_
  refine ik_Wret rfl rfl ⟨_, _, rfl, rfl, ?_⟩
  refine ik_Wk 0 (pc' := 10) (loc' := [some (.ref 17)]) (st' := [fI (l1_248 / 1000), fI (l0_248 / 1000)]) (h' := h_248) (cl' := 0) (sl' := 0) rfl ?_
  refine fw_sub rfl ?_
  refine fx_ab rfl rfl rfl ⟨Nat.le_of_ble_eq_true rfl, Nat.le_of_ble_eq_true rfl, Nat.le_of_ble_eq_true rfl⟩ (by omega) (by omega) ?_
  intro mm1 qmm1
  refine ik_Wret rfl rfl ⟨_, _, rfl, rfl, ?_⟩
  refine ik_Wk 0 (pc' := 9) (loc' := [some (.ref 17), some (fI e), none, none, none, none, none]) (st' := [fI mm1]) (h' := h_248) (cl' := 0) (sl' := 0) rfl ?_
  refine ik_Wk 1 (pc' := 10) (loc' := [some (.ref 17), some (fI e), none, none, none, none, none]) (st' := [fI e, fI mm1]) (h' := h_248) (cl' := 0) (sl' := 0) rfl ?_
  refine fw_ic_gt rfl rfl (by omega) (by omega) (by omega) (by omega) (fun hc2 => ?_) (fun hc2 => ?_)
  · refine ik_Wk 2 (pc' := 24) (loc' := [some (.ref 17), some (fI e), some (fI 1), none, none, none, none]) (st' := []) (h' := h_248) (cl' := 0) (sl' := 0) rfl ?_
    have hz : ¬ mk_gap cn go ch s pl ka pa fa kb pb fb ≤ e := by rw [hg_248]; unfold mk_ab; split <;> omega
    exact cs_fairN (pl := pl) (lo := lo) (s := s) (ka := ka) (pa := pa) (fa := fa) (kb := kb) (pb := pb) (fb := fb) (bo := bo) (la := la) (lb := lb) (t0 := t0) (t1 := t1) (t2 := t2) (t3 := t3) (wg := wg) (wc := wc) (we := we) (cn := cn) (go := go) (ch := ch) (e := e) q0 q1 q2 q3 q4 q5 q6 q7 q8 q9 (mk_fz cn go ch s pl ka pa fa kb pb fb e) 21 1 l0_248 l1_248 l2_248 wg wc we none none none none h_248 g_248_7 g_248_8 n8 g_248_9 n9 g_248_10 n10 g_248_11 n11 g_248_12 n12 g_248_13 n13 g_248_15 g_248_17 g_248_18 g_248_19 g_248_20 g_248_21 g_248_33 k_248 fr_248 (by omega) q5 (mk_fz_n hz) rfl rfl rfl rfl (by omega)
  · refine ik_Wk 5 (pc' := 18) (loc' := [some (.ref 17), some (fI e), none, none, none, none, none]) (st' := [fI (-1), fI (-1), fI (-1), fI 0, .ref 17]) (h' := h_248) (cl' := 0) (sl' := 0) rfl ?_
    refine ik_Wc 88 5 0 [.ref 17, fI 0, fI (-1), fI (-1), fI (-1)] [] rfl rfl rfl (by decide) rfl rfl (fw_rec k_248 rfl g_248_17 rfl (by decide)) ?_
    refine ik_Wk 0 (pc' := 0) (loc' := [some (.ref 17), some (fI 0), some (fI (-1)), some (fI (-1)), some (fI (-1))]) (st' := []) (h' := h_248) (cl' := 0) (sl' := 0) rfl ?_
    refine ik_Wk 1 (pc' := 1) (loc' := [some (.ref 17), some (fI 0), some (fI (-1)), some (fI (-1)), some (fI (-1))]) (st' := [.ref 17]) (h' := h_248) (cl' := 0) (sl' := 0) rfl ?_
    refine fw_gf rfl rfl g_248_17 rfl ?_
    refine ik_Wk 2 (pc' := 6) (loc' := [some (.ref 17), some (fI 0), some (fI (-1)), some (fI (-1)), some (fI (-1))]) (st' := [fI 0, fI 0, .ref 20]) (h' := h_248) (cl' := 0) (sl' := 0) rfl ?_
    refine fx_ias (z := 0) rfl g_248_20 (by decide) (Nat.le_of_ble_eq_true rfl) (by decide) ?_
    intro h_249 e_249 f_249 l_249
    have k_249 := l_249.trans k_248
    have fr_249 := hfr_w fr_248 f_249 l_249 (by decide)
    have g_249_7 := (f_249 7 (by decide)).trans g_248_7
    have g_249_8 := (f_249 8 (by decide)).trans g_248_8
    have g_249_9 := (f_249 9 (by decide)).trans g_248_9
    have g_249_10 := (f_249 10 (by decide)).trans g_248_10
    have g_249_11 := (f_249 11 (by decide)).trans g_248_11
    have g_249_12 := (f_249 12 (by decide)).trans g_248_12
    have g_249_13 := (f_249 13 (by decide)).trans g_248_13
    have g_249_15 := (f_249 15 (by decide)).trans g_248_15
    have g_249_17 := (f_249 17 (by decide)).trans g_248_17
    have g_249_18 := (f_249 18 (by decide)).trans g_248_18
    have g_249_19 := (f_249 19 (by decide)).trans g_248_19
    have g_249_21 := mf_cr_f g_248_21 (f_249 21 (by decide)) (f_249 22 (by decide)) (f_249 23 (by decide)) (f_249 24 (by decide))
    have g_249_33 := mf_cr_f g_248_33 (f_249 33 (by decide)) (f_249 34 (by decide)) (f_249 35 (by decide)) (f_249 36 (by decide))
    have g_249_20 : cE h_249 20 (.inl (.int, fA [0, t1, t2, t3])) := e_249
    refine ik_Wk 1 (pc' := 8) (loc' := [some (.ref 17), some (fI 0), some (fI (-1)), some (fI (-1)), some (fI (-1))]) (st' := [.ref 17]) (h' := h_249) (cl' := 0) (sl' := 0) rfl ?_
    refine fw_gf rfl rfl g_249_17 rfl ?_
    refine ik_Wk 2 (pc' := 13) (loc' := [some (.ref 17), some (fI 0), some (fI (-1)), some (fI (-1)), some (fI (-1))]) (st' := [fI (-1), fI 1, .ref 20]) (h' := h_249) (cl' := 0) (sl' := 0) rfl ?_
    refine fx_ias (z := 1) rfl g_249_20 (by decide) (Nat.le_of_ble_eq_true rfl) (by decide) ?_
    intro h_250 e_250 f_250 l_250
    have k_250 := l_250.trans k_249
    have fr_250 := hfr_w fr_249 f_250 l_250 (by decide)
    have g_250_7 := (f_250 7 (by decide)).trans g_249_7
    have g_250_8 := (f_250 8 (by decide)).trans g_249_8
    have g_250_9 := (f_250 9 (by decide)).trans g_249_9
    have g_250_10 := (f_250 10 (by decide)).trans g_249_10
    have g_250_11 := (f_250 11 (by decide)).trans g_249_11
    have g_250_12 := (f_250 12 (by decide)).trans g_249_12
    have g_250_13 := (f_250 13 (by decide)).trans g_249_13
    have g_250_15 := (f_250 15 (by decide)).trans g_249_15
    have g_250_17 := (f_250 17 (by decide)).trans g_249_17
    have g_250_18 := (f_250 18 (by decide)).trans g_249_18
    have g_250_19 := (f_250 19 (by decide)).trans g_249_19
    have g_250_21 := mf_cr_f g_249_21 (f_250 21 (by decide)) (f_250 22 (by decide)) (f_250 23 (by decide)) (f_250 24 (by decide))
    have g_250_33 := mf_cr_f g_249_33 (f_250 33 (by decide)) (f_250 34 (by decide)) (f_250 35 (by decide)) (f_250 36 (by decide))
    have g_250_20 : cE h_250 20 (.inl (.int, fA [0, -1, t2, t3])) := e_250
    refine ik_Wk 1 (pc' := 15) (loc' := [some (.ref 17), some (fI 0), some (fI (-1)), some (fI (-1)), some (fI (-1))]) (st' := [.ref 17]) (h' := h_250) (cl' := 0) (sl' := 0) rfl ?_
    refine fw_gf rfl rfl g_250_17 rfl ?_
    refine ik_Wk 2 (pc' := 20) (loc' := [some (.ref 17), some (fI 0), some (fI (-1)), some (fI (-1)), some (fI (-1))]) (st' := [fI (-1), fI 2, .ref 20]) (h' := h_250) (cl' := 0) (sl' := 0) rfl ?_
    refine fx_ias (z := 2) rfl g_250_20 (by decide) (Nat.le_of_ble_eq_true rfl) (by decide) ?_
    intro h_251 e_251 f_251 l_251
    have k_251 := l_251.trans k_250
    have fr_251 := hfr_w fr_250 f_251 l_251 (by decide)
    have g_251_7 := (f_251 7 (by decide)).trans g_250_7
    have g_251_8 := (f_251 8 (by decide)).trans g_250_8
    have g_251_9 := (f_251 9 (by decide)).trans g_250_9
    have g_251_10 := (f_251 10 (by decide)).trans g_250_10
    have g_251_11 := (f_251 11 (by decide)).trans g_250_11
    have g_251_12 := (f_251 12 (by decide)).trans g_250_12
    have g_251_13 := (f_251 13 (by decide)).trans g_250_13
    have g_251_15 := (f_251 15 (by decide)).trans g_250_15
    have g_251_17 := (f_251 17 (by decide)).trans g_250_17
    have g_251_18 := (f_251 18 (by decide)).trans g_250_18
    have g_251_19 := (f_251 19 (by decide)).trans g_250_19
    have g_251_21 := mf_cr_f g_250_21 (f_251 21 (by decide)) (f_251 22 (by decide)) (f_251 23 (by decide)) (f_251 24 (by decide))
    have g_251_33 := mf_cr_f g_250_33 (f_251 33 (by decide)) (f_251 34 (by decide)) (f_251 35 (by decide)) (f_251 36 (by decide))
    have g_251_20 : cE h_251 20 (.inl (.int, fA [0, -1, -1, t3])) := e_251
    refine ik_Wk 1 (pc' := 22) (loc' := [some (.ref 17), some (fI 0), some (fI (-1)), some (fI (-1)), some (fI (-1))]) (st' := [.ref 17]) (h' := h_251) (cl' := 0) (sl' := 0) rfl ?_
    refine fw_gf rfl rfl g_251_17 rfl ?_
    refine ik_Wk 2 (pc' := 28) (loc' := [some (.ref 17), some (fI 0), some (fI (-1)), some (fI (-1)), some (fI (-1))]) (st' := [fI (-1), fI 3, .ref 20]) (h' := h_251) (cl' := 0) (sl' := 0) rfl ?_
    refine fx_ias (z := 3) rfl g_251_20 (by decide) (Nat.le_of_ble_eq_true rfl) (by decide) ?_
    intro h_252 e_252 f_252 l_252
    have k_252 := l_252.trans k_251
    have fr_252 := hfr_w fr_251 f_252 l_252 (by decide)
    have g_252_7 := (f_252 7 (by decide)).trans g_251_7
    have g_252_8 := (f_252 8 (by decide)).trans g_251_8
    have g_252_9 := (f_252 9 (by decide)).trans g_251_9
    have g_252_10 := (f_252 10 (by decide)).trans g_251_10
    have g_252_11 := (f_252 11 (by decide)).trans g_251_11
    have g_252_12 := (f_252 12 (by decide)).trans g_251_12
    have g_252_13 := (f_252 13 (by decide)).trans g_251_13
    have g_252_15 := (f_252 15 (by decide)).trans g_251_15
    have g_252_17 := (f_252 17 (by decide)).trans g_251_17
    have g_252_18 := (f_252 18 (by decide)).trans g_251_18
    have g_252_19 := (f_252 19 (by decide)).trans g_251_19
    have g_252_21 := mf_cr_f g_251_21 (f_252 21 (by decide)) (f_252 22 (by decide)) (f_252 23 (by decide)) (f_252 24 (by decide))
    have g_252_33 := mf_cr_f g_251_33 (f_252 33 (by decide)) (f_252 34 (by decide)) (f_252 35 (by decide)) (f_252 36 (by decide))
    have g_252_20 : cE h_252 20 (.inl (.int, fA [0, -1, -1, -1])) := e_252
    refine ik_Wret rfl rfl ⟨_, _, rfl, rfl, ?_⟩
    refine ik_Wk 0 (pc' := 21) (loc' := [some (.ref 17), some (fI e), none, none, none, none, none]) (st' := []) (h' := h_252) (cl' := 0) (sl' := 0) rfl ?_
    have hz : mk_gap cn go ch s pl ka pa fa kb pb fb ≤ e := by rw [hg_248]; unfold mk_ab; split <;> omega
    exact ik_Wret rfl rfl ⟨_, _, rfl, rfl, rfl, rfl, ⟨l0_248, l1_248, l2_248, wg, wc, we, 0, (-1), (-1), (-1), rfl, g_252_10, n10, g_252_11, n11, g_252_12, n12, g_252_13, n13, g_252_17, g_252_19, g_252_21, g_252_33, g_252_20, q5, (by rw [mk_fz_y hz]; exact Or.inl ⟨by decide, rfl, rfl, rfl, rfl⟩), fr_252⟩⟩

end