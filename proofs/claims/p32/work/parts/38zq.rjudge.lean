noncomputable section
/-! the reference: goes of sets, logs judged (written by wip/fx/u17.py) -/
theorem mj_tb_lt {B : Nat} {pl q : Int} (h : B < 2 ^ pl.toNat) (hb : B.testBit q.toNat = true) (h0 : 0 ≤ q) : q < pl := by
  rcases Int.lt_or_le q pl with w | w
  · exact w
  · have := Nat.testBit_lt_two_pow (Nat.lt_of_lt_of_le h (Nat.pow_le_pow_right (by decide) (show pl.toNat ≤ q.toNat by omega)))
    rw [this] at hb
    cases hb
theorem mj_ok_pl {W : Int → List (Int × Int)} {pl kd pc fr o i : Int} {lr : List Int} (h : mj_ok W pl kd pc fr lr o i = true) (hf : fr ≤ i) (hc : 0 ≤ pc ∧ pc ≤ 11) (he : lr.getD (o + i).toNat 0 = 12 ∨ (0 ≤ lr.getD (o + i).toNat 0 ∧ lr.getD (o + i).toNat 0 < pl)) : 0 ≤ lr.getD (o + i).toNat 0 ∧ lr.getD (o + i).toNat 0 < pl := by
  unfold mj_ok at h
  rw [if_neg (by omega)] at h
  by_cases q : i = fr
  · rw [if_pos q] at h; have := of_decide_eq_true h; omega
  · rw [if_neg q] at h; exact (of_decide_eq_true h).2.1
theorem mj_or_idem (x b : Nat) : x ||| b ||| b = x ||| b := by rw [Nat.or_assoc, Nat.or_self]
theorem cr_onFromI {h : List ik_E} {pl : Int} {f : Nat → Int} {s : Nat} {B : Nat} {cn : List Int} {go : List Int} {ch : List Int} {gt : List Int} {gd : List Int} (q0 : 1 ≤ pl ∧ pl ≤ 12) (q1 : s < 4096) (q2 : ∀ x : Int, 0 ≤ x → x < pl - 1 → 0 ≤ cn.getD x.toNat 0 ∧ cn.getD x.toNat 0 ≤ 4) (q3 : ∀ x : Int, 0 ≤ x → x < pl - 1 → 1 ≤ cn.getD x.toNat 0 ∧ ∀ j : Int, 4 * x ≤ j → j < 4 * x + cn.getD x.toNat 0 → 0 ≤ ch.getD j.toNat 0 ∧ ch.getD j.toNat 0 ≤ 100) (q4 : ∀ x : Int, 0 ≤ x → x < pl - 1 → mx_ok pl (mx_w cn go ch s x)) (q5 : B < 4096) (p : Int) (hp : 0 ≤ p ∧ p < pl - 1) (o0 : Nat) (g1 : List Int) (d1 : List Int) (hat : mx_at 0 (mx_w cn go ch s p) g1 d1 (mx_w cn go ch s p).length) {R : List Value → List ik_E → Prop} (K : ∀ (w : List ik_E) (on : Nat) (i2 : Int) (w66 : cE w 66 (.inr (10, [fI pl, .ref 67, .ref 68, .ref 69, fI ((s : Nat) : Int), .ref 70, .ref 71, fI (f 7), fI (f 8), .ref 72, fI (f 10), fI (f 11), fI (f 12), fJ (f 13), fI (f 14), fI (f 15), fI (f 16), fI (f 17), .ref 73, .ref 74, .ref 75, .ref 76, .ref 77, .ref 78, fI ((mx_w cn go ch s p).length : Int), .ref 79, .ref 80, .ref 81, .ref 82, .ref 83, .ref 84, .ref 85, fJ (f 32), fJ (f 33), .ref 86, .ref 87, fI (f 36), .ref 88, .ref 89, .ref 90, .ref 91, .ref 92, .ref 93]))) (w67 : cE w 67 (.inl (.int, fA cn))) (nw_67 : cn.length = 12) (w68 : cE w 68 (.inl (.int, fA go))) (nw_68 : go.length = 48) (w69 : cE w 69 (.inl (.int, fA ch))) (nw_69 : ch.length = 48) (w77 : cE w 77 (.inl (.int, fA g1))) (nw_77 : g1.length = 5) (w78 : cE w 78 (.inl (.int, fA d1))) (nw_78 : d1.length = 5) (wl : w.length = 94) (F : hfr [66, 77, 78] h w) (ho : on = o0 ||| mj_gs (mx_w cn go ch s p)), ik_G 205 80 [some (.ref 66), some (fI ((B : Nat) : Int)), some (fI ((on : Nat) : Int)), some (fI p), some (fI i2)] [] w R) : ∀ (k : Nat) (j : Nat) (on : Nat) (i : Int) (u : List ik_E) (u66 : cE u 66 (.inr (10, [fI pl, .ref 67, .ref 68, .ref 69, fI ((s : Nat) : Int), .ref 70, .ref 71, fI (f 7), fI (f 8), .ref 72, fI (f 10), fI (f 11), fI (f 12), fJ (f 13), fI (f 14), fI (f 15), fI (f 16), fI (f 17), .ref 73, .ref 74, .ref 75, .ref 76, .ref 77, .ref 78, fI ((mx_w cn go ch s p).length : Int), .ref 79, .ref 80, .ref 81, .ref 82, .ref 83, .ref 84, .ref 85, fJ (f 32), fJ (f 33), .ref 86, .ref 87, fI (f 36), .ref 88, .ref 89, .ref 90, .ref 91, .ref 92, .ref 93]))) (u67 : cE u 67 (.inl (.int, fA cn))) (n67 : cn.length = 12) (u68 : cE u 68 (.inl (.int, fA go))) (n68 : go.length = 48) (u69 : cE u 69 (.inl (.int, fA ch))) (n69 : ch.length = 48) (u77 : cE u 77 (.inl (.int, fA g1))) (n77 : g1.length = 5) (u78 : cE u 78 (.inl (.int, fA d1))) (n78 : d1.length = 5) (ul : u.length = 94) (F : hfr [66, 77, 78] h u) (hj : j ≤ (mx_w cn go ch s p).length) (hi : i = (j : Int)) (ho : on = o0 ||| mj_gj (mx_w cn go ch s p) j) (hk : ((mx_w cn go ch s p).length : Int) - (j : Int) < (k : Int)), ik_G 205 53 [some (.ref 66), some (fI ((B : Nat) : Int)), some (fI ((on : Nat) : Int)), some (fI p), some (fI i)] [] u R := by
  intro k
  induction k with
  | zero => intro j on i u u66 u67 n67 u68 n68 u69 n69 u77 n77 u78 n78 ul F hj hi ho hk; omega
  | succ k ih =>
    intro j on i u u66 u67 n67 u68 n68 u69 n69 u77 n77 u78 n78 ul F hj hi ho hk
    obtain ⟨o1, o2, o3⟩ := q4 p hp.1 hp.2
    refine ik_Wk 2 (pc' := 56) (loc' := [some (.ref 66), some (fI ((B : Nat) : Int)), some (fI ((on : Nat) : Int)), some (fI p), some (fI i)]) (st' := [.ref 66, fI i]) (h' := u) (cl' := 0) (sl' := 0) rfl ?_
    refine fw_gf rfl rfl u66 rfl ?_
    refine fw_ic_ge rfl rfl (by omega) (by omega) (by omega) (by omega) (fun hc1 => ?_) (fun hc1 => ?_)
    · have ejl : j = (mx_w cn go ch s p).length := by omega
      rw [ejl] at ho
      exact K u on i u66 u67 n67 u68 n68 u69 n69 u77 n77 u78 n78 ul F ho
    · refine ik_Wk 3 (pc' := 65) (loc' := [some (.ref 66), some (fI ((B : Nat) : Int)), some (fI ((on : Nat) : Int)), some (fI p), some (fI i)]) (st' := [.ref 66, fI 1, fI ((on : Nat) : Int)]) (h' := u) (cl' := 0) (sl' := 0) rfl ?_
      refine fw_gf rfl rfl u66 rfl ?_
      refine ik_Wk 1 (pc' := 70) (loc' := [some (.ref 66), some (fI ((B : Nat) : Int)), some (fI ((on : Nat) : Int)), some (fI p), some (fI i)]) (st' := [fI i, .ref 77, fI 1, fI ((on : Nat) : Int)]) (h' := u) (cl' := 0) (sl' := 0) rfl ?_
      refine fw_ial rfl u77 (by omega) (by omega) (by omega) ?_
      have ej : i.toNat = 0 + j := by omega
      have hw := hat j (by omega)
      rw [← ej] at hw
      have hq := o3 j (by omega)
      refine fx_shl rfl (by omega) (by omega) ?_
      refine fx_or (m := on) (n := 1 <<< (g1.getD i.toNat 0).toNat) rfl ?_
      refine ik_Wk 1 (pc' := 74) (loc' := [some (.ref 66), some (fI ((B : Nat) : Int)), some (fI ((on ||| (1 <<< (g1.getD i.toNat 0).toNat) : Nat) : Int)), some (fI p), some (fI i)]) (st' := []) (h' := u) (cl' := 0) (sl' := 0) rfl ?_
      refine fw_inc (a := i) (loc' := [some (.ref 66), some (fI ((B : Nat) : Int)), some (fI ((on ||| (1 <<< (g1.getD i.toNat 0).toNat) : Nat) : Int)), some (fI p), some (fI (i + 1))]) rfl rfl (Nat.le_of_ble_eq_true rfl) rfl ?_
      refine ik_Wk 1 (pc' := 53) (loc' := [some (.ref 66), some (fI ((B : Nat) : Int)), some (fI ((on ||| (1 <<< (g1.getD i.toNat 0).toNat) : Nat) : Int)), some (fI p), some (fI (i + 1))]) (st' := []) (h' := u) (cl' := 0) (sl' := 0) rfl ?_
      exact ih (j + 1) (on ||| (1 <<< (g1.getD i.toNat 0).toNat)) (i + 1) u u66 u67 n67 u68 n68 u69 n69 u77 n77 u78 n78 ul F (by omega) (by omega) (by rw [ho, hw.1, Nat.or_assoc]; rfl) (by omega)

theorem cr_onFromL {h : List ik_E} {pl : Int} {f : Nat → Int} {s : Nat} {B : Nat} {cn : List Int} {go : List Int} {ch : List Int} {gt : List Int} {gd : List Int} (q0 : 1 ≤ pl ∧ pl ≤ 12) (q1 : s < 4096) (q2 : ∀ x : Int, 0 ≤ x → x < pl - 1 → 0 ≤ cn.getD x.toNat 0 ∧ cn.getD x.toNat 0 ≤ 4) (q3 : ∀ x : Int, 0 ≤ x → x < pl - 1 → 1 ≤ cn.getD x.toNat 0 ∧ ∀ j : Int, 4 * x ≤ j → j < 4 * x + cn.getD x.toNat 0 → 0 ≤ ch.getD j.toNat 0 ∧ ch.getD j.toNat 0 ≤ 100) (q4 : ∀ x : Int, 0 ≤ x → x < pl - 1 → mx_ok pl (mx_w cn go ch s x)) (q5 : B < 4096)  : ∀ (k : Nat) (p : Int) (on : Nat) (w1 : Int) (g1 : List Int) (d1 : List Int) (x4 : Option Value) (u : List ik_E) (u66 : cE u 66 (.inr (10, [fI pl, .ref 67, .ref 68, .ref 69, fI ((s : Nat) : Int), .ref 70, .ref 71, fI (f 7), fI (f 8), .ref 72, fI (f 10), fI (f 11), fI (f 12), fJ (f 13), fI (f 14), fI (f 15), fI (f 16), fI (f 17), .ref 73, .ref 74, .ref 75, .ref 76, .ref 77, .ref 78, fI w1, .ref 79, .ref 80, .ref 81, .ref 82, .ref 83, .ref 84, .ref 85, fJ (f 32), fJ (f 33), .ref 86, .ref 87, fI (f 36), .ref 88, .ref 89, .ref 90, .ref 91, .ref 92, .ref 93]))) (u67 : cE u 67 (.inl (.int, fA cn))) (n67 : cn.length = 12) (u68 : cE u 68 (.inl (.int, fA go))) (n68 : go.length = 48) (u69 : cE u 69 (.inl (.int, fA ch))) (n69 : ch.length = 48) (u77 : cE u 77 (.inl (.int, fA g1))) (n77 : g1.length = 5) (u78 : cE u 78 (.inl (.int, fA d1))) (n78 : d1.length = 5) (ul : u.length = 94) (F : hfr [66, 77, 78] h u) (hp : 0 ≤ p ∧ p ≤ pl) (ho : (p ≤ pl - 1 ∧ on = mj_of (fun x => mx_w cn go ch s x) B p.toNat) ∨ (p = pl ∧ on = mj_on (fun x => mx_w cn go ch s x) (pl - 1) B)) (w4 : ik_wl 94 x4 = true) (hk : pl - p < (k : Int)), ik_G 205 4 [some (.ref 66), some (fI ((B : Nat) : Int)), some (fI ((on : Nat) : Int)), some (fI p), x4] [] u (fun rv h' => ∃ (w' : Int) (gt' : List Int) (gd' : List Int), rv = [fI ((mj_on (fun x => mx_w cn go ch s x) (pl - 1) B : Nat) : Int)] ∧ cE h' 66 (.inr (10, [fI pl, .ref 67, .ref 68, .ref 69, fI ((s : Nat) : Int), .ref 70, .ref 71, fI (f 7), fI (f 8), .ref 72, fI (f 10), fI (f 11), fI (f 12), fJ (f 13), fI (f 14), fI (f 15), fI (f 16), fI (f 17), .ref 73, .ref 74, .ref 75, .ref 76, .ref 77, .ref 78, fI w', .ref 79, .ref 80, .ref 81, .ref 82, .ref 83, .ref 84, .ref 85, fJ (f 32), fJ (f 33), .ref 86, .ref 87, fI (f 36), .ref 88, .ref 89, .ref 90, .ref 91, .ref 92, .ref 93])) ∧ cE h' 77 (.inl (.int, fA gt')) ∧ gt'.length = 5 ∧ cE h' 78 (.inl (.int, fA gd')) ∧ gd'.length = 5 ∧ hfr [66, 77, 78] h h') := by
  intro k
  induction k with
  | zero => intro p on w1 g1 d1 x4 u u66 u67 n67 u68 n68 u69 n69 u77 n77 u78 n78 ul F hp ho w4 hk; omega
  | succ k ih =>
    intro p on w1 g1 d1 x4 u u66 u67 n67 u68 n68 u69 n69 u77 n77 u78 n78 ul F hp ho w4 hk
    refine ik_Wk 2 (pc' := 6) (loc' := [some (.ref 66), some (fI ((B : Nat) : Int)), some (fI ((on : Nat) : Int)), some (fI p), x4]) (st' := [.ref 66, fI p]) (h' := u) (cl' := 0) (sl' := 0) rfl ?_
    refine fw_gf rfl rfl u66 rfl ?_
    refine fw_ic_ge rfl rfl (by omega) (by omega) (by omega) (by omega) (fun hc1 => ?_) (fun hc1 => ?_)
    · refine ik_Wk 1 (pc' := 87) (loc' := [some (.ref 66), some (fI ((B : Nat) : Int)), some (fI ((on : Nat) : Int)), some (fI p), x4]) (st' := [fI ((on : Nat) : Int)]) (h' := u) (cl' := 0) (sl' := 0) rfl ?_
      have hoz : on = mj_on (fun x => mx_w cn go ch s x) (pl - 1) B := by
        rcases ho with z | z
        · omega
        · exact z.2
      exact ik_Wret rfl rfl ⟨_, _, rfl, rfl, rfl, rfl, ⟨w1, g1, d1, (congrArg (fun z => [fI ((z : Nat) : Int)]) hoz), u66, u77, n77, u78, n78, F⟩⟩
    · refine ik_Wk 2 (pc' := 14) (loc' := [some (.ref 66), some (fI ((B : Nat) : Int)), some (fI ((on : Nat) : Int)), some (fI p), x4]) (st' := [fI p, fI ((B : Nat) : Int)]) (h' := u) (cl' := 0) (sl' := 0) rfl ?_
      refine ik_Wc 128 2 3 [fI ((B : Nat) : Int), fI p] [] rfl rfl rfl (by decide) rfl rfl (fw_sta ul (fw_ftx rfl wv_n (wl_c rfl (wl_c rfl (wl_c rfl (wl_c rfl (wl_c w4 wl_n)))))) (by decide)) ?_
      refine ik_Wk 0 (pc' := 0) (loc' := [some (fI ((B : Nat) : Int)), some (fI p)]) (st' := []) (h' := u) (cl' := 0) (sl' := 0) rfl ?_
      refine ik_Wk 2 (pc' := 2) (loc' := [some (fI ((B : Nat) : Int)), some (fI p)]) (st' := [fI p, fI ((B : Nat) : Int)]) (h' := u) (cl' := 0) (sl' := 0) rfl ?_
      refine fx_shr (n := B) rfl (by omega) (by omega) (by omega) ?_
      refine ik_Wk 1 (pc' := 4) (loc' := [some (fI ((B : Nat) : Int)), some (fI p)]) (st' := [fI 1, fI ((B >>> p.toNat : Nat) : Int)]) (h' := u) (cl' := 0) (sl' := 0) rfl ?_
      refine fx_bit (n := B) (k := p.toNat) rfl (fun hb2 => ?_) (fun hb2 => ?_)
      · refine ik_Wk 0 (pc' := 5) (loc' := [some (fI ((B : Nat) : Int)), some (fI p)]) (st' := [fI 1]) (h' := u) (cl' := 0) (sl' := 0) rfl ?_
        refine ik_Wk 1 (pc' := 6) (loc' := [some (fI ((B : Nat) : Int)), some (fI p)]) (st' := [fI 1, fI 1]) (h' := u) (cl' := 0) (sl' := 0) rfl ?_
        refine fw_ic_ne rfl rfl (by omega) (by omega) (by omega) (by omega) (fun hc3 => ?_) (fun hc3 => absurd hc3 (by omega))
        refine ik_Wk 2 (pc' := 14) (loc' := [some (fI ((B : Nat) : Int)), some (fI p)]) (st' := [fI 1]) (h' := u) (cl' := 0) (sl' := 0) rfl ?_
        refine ik_Wret rfl rfl ⟨_, _, rfl, rfl, ?_⟩
        refine ik_Wk 0 (pc' := 17) (loc' := [some (.ref 66), some (fI ((B : Nat) : Int)), some (fI ((on : Nat) : Int)), some (fI p), x4]) (st' := [fI 1]) (h' := u) (cl' := 0) (sl' := 0) rfl ?_
        refine fw_if_eq rfl rfl (by omega) (by omega) (fun hc4 => absurd hc4 (by omega)) (fun hc4 => ?_)
        refine ik_Wk 2 (pc' := 22) (loc' := [some (.ref 66), some (fI ((B : Nat) : Int)), some (fI ((on : Nat) : Int)), some (fI p), x4]) (st' := [.ref 66, fI p]) (h' := u) (cl' := 0) (sl' := 0) rfl ?_
        refine ik_Wc 130 1 0 [.ref 66] [fI p] rfl rfl rfl (by decide) rfl rfl (fw_rec ul (fw_ftx rfl (wv_c rfl wv_n) (wl_c rfl (wl_c rfl (wl_c rfl (wl_c rfl (wl_c w4 wl_n)))))) u66 rfl (by decide)) ?_
        refine ik_Wk 0 (pc' := 0) (loc' := [some (.ref 66)]) (st' := []) (h' := u) (cl' := 0) (sl' := 0) rfl ?_
        refine ik_Wk 1 (pc' := 1) (loc' := [some (.ref 66)]) (st' := [.ref 66]) (h' := u) (cl' := 0) (sl' := 0) rfl ?_
        refine fw_gf rfl rfl u66 rfl ?_
        refine ik_Wk 1 (pc' := 5) (loc' := [some (.ref 66)]) (st' := [fI 1, fI pl]) (h' := u) (cl' := 0) (sl' := 0) rfl ?_
        refine fw_sub rfl ?_
        refine ik_Wret rfl rfl ⟨_, _, rfl, rfl, ?_⟩
        refine ik_Wk 0 (pc' := 25) (loc' := [some (.ref 66), some (fI ((B : Nat) : Int)), some (fI ((on : Nat) : Int)), some (fI p), x4]) (st' := [fI (pl - 1), fI p]) (h' := u) (cl' := 0) (sl' := 0) rfl ?_
        refine fw_ic_ne rfl rfl (by omega) (by omega) (by omega) (by omega) (fun hc5 => ?_) (fun hc5 => ?_)
        · refine ik_Wk 3 (pc' := 31) (loc' := [some (.ref 66), some (fI ((B : Nat) : Int)), some (fI ((on : Nat) : Int)), some (fI p), x4]) (st' := [fI p, fI 1, fI ((on : Nat) : Int)]) (h' := u) (cl' := 0) (sl' := 0) rfl ?_
          refine fx_shl rfl (by omega) (by omega) ?_
          refine fx_or (m := on) (n := 1 <<< p.toNat) rfl ?_
          refine ik_Wk 2 (pc' := 80) (loc' := [some (.ref 66), some (fI ((B : Nat) : Int)), some (fI ((on ||| (1 <<< p.toNat) : Nat) : Int)), some (fI p), x4]) (st' := []) (h' := u) (cl' := 0) (sl' := 0) rfl ?_
          refine fw_inc (a := p) (loc' := [some (.ref 66), some (fI ((B : Nat) : Int)), some (fI ((on ||| (1 <<< p.toNat) : Nat) : Int)), some (fI (p + 1)), x4]) rfl rfl (Nat.le_of_ble_eq_true rfl) rfl ?_
          refine ik_Wk 1 (pc' := 4) (loc' := [some (.ref 66), some (fI ((B : Nat) : Int)), some (fI ((on ||| (1 <<< p.toNat) : Nat) : Int)), some (fI (p + 1)), x4]) (st' := []) (h' := u) (cl' := 0) (sl' := 0) rfl ?_
          have ho1 : on = mj_of (fun x => mx_w cn go ch s x) B p.toNat := by
            rcases ho with z | z
            · exact z.2
            · omega
          exact ih  (p + 1) (on ||| (1 <<< p.toNat)) w1 g1 d1 x4 u u66 u67 n67 u68 n68 u69 n69 u77 n77 u78 n78 ul F (by omega) (Or.inr ⟨by omega, by unfold mj_on; rw [mj_and_bit, show (pl - 1).toNat = p.toNat by omega, if_pos hb2, ho1]⟩) w4 (by omega)
        · refine ik_Wk 2 (pc' := 39) (loc' := [some (.ref 66), some (fI ((B : Nat) : Int)), some (fI ((on : Nat) : Int)), some (fI p), x4]) (st' := [fI p, fI ((B : Nat) : Int)]) (h' := u) (cl' := 0) (sl' := 0) rfl ?_
          refine ik_Wc 128 2 3 [fI ((B : Nat) : Int), fI p] [] rfl rfl rfl (by decide) rfl rfl (fw_sta ul (fw_ftx rfl wv_n (wl_c rfl (wl_c rfl (wl_c rfl (wl_c rfl (wl_c w4 wl_n)))))) (by decide)) ?_
          refine ik_Wk 0 (pc' := 0) (loc' := [some (fI ((B : Nat) : Int)), some (fI p)]) (st' := []) (h' := u) (cl' := 0) (sl' := 0) rfl ?_
          refine ik_Wk 2 (pc' := 2) (loc' := [some (fI ((B : Nat) : Int)), some (fI p)]) (st' := [fI p, fI ((B : Nat) : Int)]) (h' := u) (cl' := 0) (sl' := 0) rfl ?_
          refine fx_shr (n := B) rfl (by omega) (by omega) (by omega) ?_
          refine ik_Wk 1 (pc' := 4) (loc' := [some (fI ((B : Nat) : Int)), some (fI p)]) (st' := [fI 1, fI ((B >>> p.toNat : Nat) : Int)]) (h' := u) (cl' := 0) (sl' := 0) rfl ?_
          refine fx_bit (n := B) (k := p.toNat) rfl (fun hb6 => ?_) (fun hb6 => absurd (hb2.symm.trans hb6) (by decide))
          refine ik_Wk 0 (pc' := 5) (loc' := [some (fI ((B : Nat) : Int)), some (fI p)]) (st' := [fI 1]) (h' := u) (cl' := 0) (sl' := 0) rfl ?_
          refine ik_Wk 1 (pc' := 6) (loc' := [some (fI ((B : Nat) : Int)), some (fI p)]) (st' := [fI 1, fI 1]) (h' := u) (cl' := 0) (sl' := 0) rfl ?_
          refine fw_ic_ne rfl rfl (by omega) (by omega) (by omega) (by omega) (fun hc7 => ?_) (fun hc7 => absurd hc7 (by omega))
          refine ik_Wk 2 (pc' := 14) (loc' := [some (fI ((B : Nat) : Int)), some (fI p)]) (st' := [fI 1]) (h' := u) (cl' := 0) (sl' := 0) rfl ?_
          refine ik_Wret rfl rfl ⟨_, _, rfl, rfl, ?_⟩
          refine ik_Wk 0 (pc' := 42) (loc' := [some (.ref 66), some (fI ((B : Nat) : Int)), some (fI ((on : Nat) : Int)), some (fI p), x4]) (st' := [fI 1]) (h' := u) (cl' := 0) (sl' := 0) rfl ?_
          refine fw_if_eq rfl rfl (by omega) (by omega) (fun hc8 => absurd hc8 (by omega)) (fun hc8 => ?_)
          refine ik_Wk 2 (pc' := 47) (loc' := [some (.ref 66), some (fI ((B : Nat) : Int)), some (fI ((on : Nat) : Int)), some (fI p), x4]) (st' := [fI p, .ref 66]) (h' := u) (cl' := 0) (sl' := 0) rfl ?_
          refine fw_call 152 2 0 [.ref 66, fI p] [] rfl rfl rfl (by decide) rfl rfl (fw_rec ul (fw_ftx rfl wv_n (wl_c rfl (wl_c rfl (wl_c rfl (wl_c rfl (wl_c w4 wl_n)))))) u66 rfl (by decide)) (cr_list (p := p) (f := fun j => ([pl, 0, 0, 0, 0, 0, 0, f 7, f 8, 0, f 10, f 11, f 12, f 13, f 14, f 15, f 16, f 17, 0, 0, 0, 0, 0, 0, w1, 0, 0, 0, 0, 0, 0, 0, f 32, f 33, 0, 0, f 36, 0, 0, 0, 0, 0, 0] : List Int).getD j 0) (s := s) (cn := cn) (go := go) (ch := ch) (gt := g1) (gd := d1) (by omega) (by omega) (by omega) (q2 p (by omega) (by omega)) (q3 p (by omega) (by omega)).2 (q3 p (by omega) (by omega)).1 u66 u67 n67 u68 n68 u69 n69 u77 n77 u78 n78 ul) ?_
          rintro _ h_340 ⟨gt'_340, gd'_340, rfl, e_340_66, e_340_77, m_340_77, e_340_78, m_340_78, p_340_0, F_340⟩
          have k_340 := F_340.1.trans ul
          have fr_340 := hfr_c F F_340 (by decide)
          have g_340_67 := (F_340.2 67 (by decide +kernel)).trans u67
          have g_340_68 := (F_340.2 68 (by decide +kernel)).trans u68
          have g_340_69 := (F_340.2 69 (by decide +kernel)).trans u69
          have g_340_66 : cE h_340 66 (.inr (10, [fI pl, .ref 67, .ref 68, .ref 69, fI ((s : Nat) : Int), .ref 70, .ref 71, fI (f 7), fI (f 8), .ref 72, fI (f 10), fI (f 11), fI (f 12), fJ (f 13), fI (f 14), fI (f 15), fI (f 16), fI (f 17), .ref 73, .ref 74, .ref 75, .ref 76, .ref 77, .ref 78, fI ((mx_w cn go ch s p).length : Int), .ref 79, .ref 80, .ref 81, .ref 82, .ref 83, .ref 84, .ref 85, fJ (f 32), fJ (f 33), .ref 86, .ref 87, fI (f 36), .ref 88, .ref 89, .ref 90, .ref 91, .ref 92, .ref 93])) := e_340_66
          have g_340_77 : cE h_340 77 (.inl (.int, fA gt'_340)) := e_340_77
          have g_340_78 : cE h_340 78 (.inl (.int, fA gd'_340)) := e_340_78
          refine ik_Wk 0 (pc' := 50) (loc' := [some (.ref 66), some (fI ((B : Nat) : Int)), some (fI ((on : Nat) : Int)), some (fI p), x4]) (st' := []) (h' := h_340) (cl' := 0) (sl' := 0) rfl ?_
          refine ik_Wk 2 (pc' := 53) (loc' := [some (.ref 66), some (fI ((B : Nat) : Int)), some (fI ((on : Nat) : Int)), some (fI p), some (fI 0)]) (st' := []) (h' := h_340) (cl' := 0) (sl' := 0) rfl ?_
          refine cr_onFromI (pl := pl) (f := f) (s := s) (B := B) (cn := cn) (go := go) (ch := ch) (gt := gt) (gd := gd) q0 q1 q2 q3 q4 q5 p (by omega) on gt'_340 gd'_340 p_340_0 (R := (fun rv h' => ∃ (w' : Int) (gt' : List Int) (gd' : List Int), rv = [fI ((mj_on (fun x => mx_w cn go ch s x) (pl - 1) B : Nat) : Int)] ∧ cE h' 66 (.inr (10, [fI pl, .ref 67, .ref 68, .ref 69, fI ((s : Nat) : Int), .ref 70, .ref 71, fI (f 7), fI (f 8), .ref 72, fI (f 10), fI (f 11), fI (f 12), fJ (f 13), fI (f 14), fI (f 15), fI (f 16), fI (f 17), .ref 73, .ref 74, .ref 75, .ref 76, .ref 77, .ref 78, fI w', .ref 79, .ref 80, .ref 81, .ref 82, .ref 83, .ref 84, .ref 85, fJ (f 32), fJ (f 33), .ref 86, .ref 87, fI (f 36), .ref 88, .ref 89, .ref 90, .ref 91, .ref 92, .ref 93])) ∧ cE h' 77 (.inl (.int, fA gt')) ∧ gt'.length = 5 ∧ cE h' 78 (.inl (.int, fA gd')) ∧ gd'.length = 5 ∧ hfr [66, 77, 78] h h')) (fun h_341 on_341 i2_341 g_341_66 g_341_67 m_341_67 g_341_68 m_341_68 g_341_69 m_341_69 g_341_77 m_341_77 g_341_78 m_341_78 k_341 fr_341 ho_341 => ?_) ((mx_w cn go ch s p).length + 1) 0 on 0 h_340 g_340_66 g_340_67 n67 g_340_68 n68 g_340_69 n69 g_340_77 m_340_77 g_340_78 m_340_78 k_340 fr_340 (by omega) rfl (Nat.or_zero _).symm (by omega)
          refine fw_inc (a := p) (loc' := [some (.ref 66), some (fI ((B : Nat) : Int)), some (fI ((on_341 : Nat) : Int)), some (fI (p + 1)), some (fI i2_341)]) rfl rfl (Nat.le_of_ble_eq_true rfl) rfl ?_
          refine ik_Wk 1 (pc' := 4) (loc' := [some (.ref 66), some (fI ((B : Nat) : Int)), some (fI ((on_341 : Nat) : Int)), some (fI (p + 1)), some (fI i2_341)]) (st' := []) (h' := h_341) (cl' := 0) (sl' := 0) rfl ?_
          have ho1 : on = mj_of (fun x => mx_w cn go ch s x) B p.toNat := by
            rcases ho with z | z
            · exact z.2
            · omega
          exact ih  (p + 1) on_341 ((mx_w cn go ch s p).length : Int) gt'_340 gd'_340 (some (fI i2_341)) h_341 g_341_66 g_341_67 m_341_67 g_341_68 m_341_68 g_341_69 m_341_69 g_341_77 m_341_77 g_341_78 m_341_78 k_341 fr_341 (by omega) (Or.inl ⟨by omega, by rw [mj_of_s (by omega), if_pos hb2, ho_341, ho1]⟩) rfl (by omega)
      · refine ik_Wk 0 (pc' := 5) (loc' := [some (fI ((B : Nat) : Int)), some (fI p)]) (st' := [fI 0]) (h' := u) (cl' := 0) (sl' := 0) rfl ?_
        refine ik_Wk 1 (pc' := 6) (loc' := [some (fI ((B : Nat) : Int)), some (fI p)]) (st' := [fI 1, fI 0]) (h' := u) (cl' := 0) (sl' := 0) rfl ?_
        refine fw_ic_ne rfl rfl (by omega) (by omega) (by omega) (by omega) (fun hc9 => absurd hc9 (by omega)) (fun hc9 => ?_)
        refine ik_Wk 1 (pc' := 14) (loc' := [some (fI ((B : Nat) : Int)), some (fI p)]) (st' := [fI 0]) (h' := u) (cl' := 0) (sl' := 0) rfl ?_
        refine ik_Wret rfl rfl ⟨_, _, rfl, rfl, ?_⟩
        refine ik_Wk 0 (pc' := 17) (loc' := [some (.ref 66), some (fI ((B : Nat) : Int)), some (fI ((on : Nat) : Int)), some (fI p), x4]) (st' := [fI 0]) (h' := u) (cl' := 0) (sl' := 0) rfl ?_
        refine fw_if_eq rfl rfl (by omega) (by omega) (fun hc10 => ?_) (fun hc10 => absurd hc10 (by omega))
        refine ik_Wk 2 (pc' := 39) (loc' := [some (.ref 66), some (fI ((B : Nat) : Int)), some (fI ((on : Nat) : Int)), some (fI p), x4]) (st' := [fI p, fI ((B : Nat) : Int)]) (h' := u) (cl' := 0) (sl' := 0) rfl ?_
        refine ik_Wc 128 2 3 [fI ((B : Nat) : Int), fI p] [] rfl rfl rfl (by decide) rfl rfl (fw_sta ul (fw_ftx rfl wv_n (wl_c rfl (wl_c rfl (wl_c rfl (wl_c rfl (wl_c w4 wl_n)))))) (by decide)) ?_
        refine ik_Wk 0 (pc' := 0) (loc' := [some (fI ((B : Nat) : Int)), some (fI p)]) (st' := []) (h' := u) (cl' := 0) (sl' := 0) rfl ?_
        refine ik_Wk 2 (pc' := 2) (loc' := [some (fI ((B : Nat) : Int)), some (fI p)]) (st' := [fI p, fI ((B : Nat) : Int)]) (h' := u) (cl' := 0) (sl' := 0) rfl ?_
        refine fx_shr (n := B) rfl (by omega) (by omega) (by omega) ?_
        refine ik_Wk 1 (pc' := 4) (loc' := [some (fI ((B : Nat) : Int)), some (fI p)]) (st' := [fI 1, fI ((B >>> p.toNat : Nat) : Int)]) (h' := u) (cl' := 0) (sl' := 0) rfl ?_
        refine fx_bit (n := B) (k := p.toNat) rfl (fun hb11 => absurd (hb2.symm.trans hb11) (by decide)) (fun hb11 => ?_)
        refine ik_Wk 0 (pc' := 5) (loc' := [some (fI ((B : Nat) : Int)), some (fI p)]) (st' := [fI 0]) (h' := u) (cl' := 0) (sl' := 0) rfl ?_
        refine ik_Wk 1 (pc' := 6) (loc' := [some (fI ((B : Nat) : Int)), some (fI p)]) (st' := [fI 1, fI 0]) (h' := u) (cl' := 0) (sl' := 0) rfl ?_
        refine fw_ic_ne rfl rfl (by omega) (by omega) (by omega) (by omega) (fun hc12 => absurd hc12 (by omega)) (fun hc12 => ?_)
        refine ik_Wk 1 (pc' := 14) (loc' := [some (fI ((B : Nat) : Int)), some (fI p)]) (st' := [fI 0]) (h' := u) (cl' := 0) (sl' := 0) rfl ?_
        refine ik_Wret rfl rfl ⟨_, _, rfl, rfl, ?_⟩
        refine ik_Wk 0 (pc' := 42) (loc' := [some (.ref 66), some (fI ((B : Nat) : Int)), some (fI ((on : Nat) : Int)), some (fI p), x4]) (st' := [fI 0]) (h' := u) (cl' := 0) (sl' := 0) rfl ?_
        refine fw_if_eq rfl rfl (by omega) (by omega) (fun hc13 => ?_) (fun hc13 => absurd hc13 (by omega))
        refine fw_inc (a := p) (loc' := [some (.ref 66), some (fI ((B : Nat) : Int)), some (fI ((on : Nat) : Int)), some (fI (p + 1)), x4]) rfl rfl (Nat.le_of_ble_eq_true rfl) rfl ?_
        refine ik_Wk 1 (pc' := 4) (loc' := [some (.ref 66), some (fI ((B : Nat) : Int)), some (fI ((on : Nat) : Int)), some (fI (p + 1)), x4]) (st' := []) (h' := u) (cl' := 0) (sl' := 0) rfl ?_
        have ho1 : on = mj_of (fun x => mx_w cn go ch s x) B p.toNat := by
          rcases ho with z | z
          · exact z.2
          · omega
        have ho2 : (p + 1 ≤ pl - 1 ∧ on = mj_of (fun x => mx_w cn go ch s x) B (p + 1).toNat) ∨ (p + 1 = pl ∧ on = mj_on (fun x => mx_w cn go ch s x) (pl - 1) B) := by
          by_cases z : p = pl - 1
          · exact Or.inr ⟨by omega, by unfold mj_on; rw [mj_and_bit, show (pl - 1).toNat = p.toNat by omega, if_neg (by rw [hb2]; decide), ho1, Nat.or_zero]⟩
          · exact Or.inl ⟨by omega, by rw [mj_of_s (by omega), if_neg (by rw [hb2]; decide)]; exact ho1⟩
        exact ih  (p + 1) on w1 g1 d1 x4 u u66 u67 n67 u68 n68 u69 n69 u77 n77 u78 n78 ul F (by omega) ho2 w4 (by omega)

theorem cr_onFrom {h : List ik_E} {pl : Int} {f : Nat → Int} {s : Nat} {B : Nat} {cn : List Int} {go : List Int} {ch : List Int} {gt : List Int} {gd : List Int} (q0 : 1 ≤ pl ∧ pl ≤ 12) (q1 : s < 4096) (q2 : ∀ x : Int, 0 ≤ x → x < pl - 1 → 0 ≤ cn.getD x.toNat 0 ∧ cn.getD x.toNat 0 ≤ 4) (q3 : ∀ x : Int, 0 ≤ x → x < pl - 1 → 1 ≤ cn.getD x.toNat 0 ∧ ∀ j : Int, 4 * x ≤ j → j < 4 * x + cn.getD x.toNat 0 → 0 ≤ ch.getD j.toNat 0 ∧ ch.getD j.toNat 0 ≤ 100) (q4 : ∀ x : Int, 0 ≤ x → x < pl - 1 → mx_ok pl (mx_w cn go ch s x)) (q5 : B < 4096) (h66 : cE h 66 (.inr (10, [fI pl, .ref 67, .ref 68, .ref 69, fI ((s : Nat) : Int), .ref 70, .ref 71, fI (f 7), fI (f 8), .ref 72, fI (f 10), fI (f 11), fI (f 12), fJ (f 13), fI (f 14), fI (f 15), fI (f 16), fI (f 17), .ref 73, .ref 74, .ref 75, .ref 76, .ref 77, .ref 78, fI (f 24), .ref 79, .ref 80, .ref 81, .ref 82, .ref 83, .ref 84, .ref 85, fJ (f 32), fJ (f 33), .ref 86, .ref 87, fI (f 36), .ref 88, .ref 89, .ref 90, .ref 91, .ref 92, .ref 93]))) (h67 : cE h 67 (.inl (.int, fA cn))) (n67 : cn.length = 12) (h68 : cE h 68 (.inl (.int, fA go))) (n68 : go.length = 48) (h69 : cE h 69 (.inl (.int, fA ch))) (n69 : ch.length = 48) (h77 : cE h 77 (.inl (.int, fA gt))) (n77 : gt.length = 5) (h78 : cE h 78 (.inl (.int, fA gd))) (n78 : gd.length = 5) (hl : h.length = 94) : ik_F 205 [.ref 66, fI ((B : Nat) : Int)] h (fun rv h' => ∃ (w' : Int) (gt' : List Int) (gd' : List Int), rv = [fI ((mj_on (fun x => mx_w cn go ch s x) (pl - 1) B : Nat) : Int)] ∧ cE h' 66 (.inr (10, [fI pl, .ref 67, .ref 68, .ref 69, fI ((s : Nat) : Int), .ref 70, .ref 71, fI (f 7), fI (f 8), .ref 72, fI (f 10), fI (f 11), fI (f 12), fJ (f 13), fI (f 14), fI (f 15), fI (f 16), fI (f 17), .ref 73, .ref 74, .ref 75, .ref 76, .ref 77, .ref 78, fI w', .ref 79, .ref 80, .ref 81, .ref 82, .ref 83, .ref 84, .ref 85, fJ (f 32), fJ (f 33), .ref 86, .ref 87, fI (f 36), .ref 88, .ref 89, .ref 90, .ref 91, .ref 92, .ref 93])) ∧ cE h' 77 (.inl (.int, fA gt')) ∧ gt'.length = 5 ∧ cE h' 78 (.inl (.int, fA gd')) ∧ gd'.length = 5 ∧ hfr [66, 77, 78] h h') := by
  refine ik_Wk 4 (pc' := 4) (loc' := [some (.ref 66), some (fI ((B : Nat) : Int)), some (fI 0), some (fI 0), none]) (st' := []) (h' := h) (cl' := 0) (sl' := 0) rfl ?_
  exact cr_onFromL (pl := pl) (f := f) (s := s) (B := B) (cn := cn) (go := go) (ch := ch) (gt := gt) (gd := gd) q0 q1 q2 q3 q4 q5  (pl.toNat + 1) 0 0 (f 24) gt gd none h h66 h67 n67 h68 n68 h69 n69 h77 n77 h78 n78 hl (hfr_refl [66, 77, 78] h) (by omega) (Or.inl ⟨by omega, rfl⟩) rfl (by omega)

theorem cr_mayBe0 {h : List ik_E} {pl : Int} {f : Nat → Int} {s : Nat} {cn : List Int} {go : List Int} {ch : List Int} {gt : List Int} {gd : List Int} {ka : Int} {pa : Int} {fa : Int} {kb : Int} {pb : Int} {fb : Int} {lr : List Int} {i : Int} (q0 : 0 ≤ pl ∧ pl ≤ 12) (q1 : s < 4096) (q2 : ∀ x : Int, 0 ≤ x → x < pl - 1 → 0 ≤ cn.getD x.toNat 0 ∧ cn.getD x.toNat 0 ≤ 4) (q3 : ∀ x : Int, 0 ≤ x → x < pl - 1 → 1 ≤ cn.getD x.toNat 0 ∧ ∀ j : Int, 4 * x ≤ j → j < 4 * x + cn.getD x.toNat 0 → 0 ≤ ch.getD j.toNat 0 ∧ ch.getD j.toNat 0 ≤ 100) (q4 : ∀ x : Int, 0 ≤ x → x < pl - 1 → mx_ok pl (mx_w cn go ch s x)) (q5 : 0 ≤ ka ∧ ka ≤ 2) (q6 : 0 ≤ pa ∧ pa ≤ 11) (q7 : 0 ≤ fa ∧ fa ≤ 30) (q8 : 0 ≤ i ∧ i < 40) (q9 : lr.getD (0 + i).toNat 0 = 12 ∨ (0 ≤ lr.getD (0 + i).toNat 0 ∧ lr.getD (0 + i).toNat 0 < pl)) (q10 : fa < i → 0 ≤ lr.getD (0 + i - 1).toNat 0 ∧ lr.getD (0 + i - 1).toNat 0 < pl) (h66 : cE h 66 (.inr (10, [fI pl, .ref 67, .ref 68, .ref 69, fI ((s : Nat) : Int), .ref 70, .ref 71, fI (f 7), fI (f 8), .ref 72, fI (f 10), fI (f 11), fI (f 12), fJ (f 13), fI (f 14), fI (f 15), fI (f 16), fI (f 17), .ref 73, .ref 74, .ref 75, .ref 76, .ref 77, .ref 78, fI (f 24), .ref 79, .ref 80, .ref 81, .ref 82, .ref 83, .ref 84, .ref 85, fJ (f 32), fJ (f 33), .ref 86, .ref 87, fI (f 36), .ref 88, .ref 89, .ref 90, .ref 91, .ref 92, .ref 93]))) (h67 : cE h 67 (.inl (.int, fA cn))) (n67 : cn.length = 12) (h68 : cE h 68 (.inl (.int, fA go))) (n68 : go.length = 48) (h69 : cE h 69 (.inl (.int, fA ch))) (n69 : ch.length = 48) (h77 : cE h 77 (.inl (.int, fA gt))) (n77 : gt.length = 5) (h78 : cE h 78 (.inl (.int, fA gd))) (n78 : gd.length = 5) (h70 : cE h 70 (.inl (.int, fA [ka, pa, fa, kb, pb, fb]))) (h91 : cE h 91 (.inl (.int, fA lr))) (n91 : lr.length = 80) (hl : h.length = 94) : ik_F 206 [.ref 66, fI 0, fI i] h (fun rv h' => (∃ (w' : Int) (gt' : List Int) (gd' : List Int), rv = [fI 1] ∧ cE h' 66 (.inr (10, [fI pl, .ref 67, .ref 68, .ref 69, fI ((s : Nat) : Int), .ref 70, .ref 71, fI (f 7), fI (f 8), .ref 72, fI (f 10), fI (f 11), fI (f 12), fJ (f 13), fI (f 14), fI (f 15), fI (f 16), fI (f 17), .ref 73, .ref 74, .ref 75, .ref 76, .ref 77, .ref 78, fI w', .ref 79, .ref 80, .ref 81, .ref 82, .ref 83, .ref 84, .ref 85, fJ (f 32), fJ (f 33), .ref 86, .ref 87, fI (f 36), .ref 88, .ref 89, .ref 90, .ref 91, .ref 92, .ref 93])) ∧ cE h' 77 (.inl (.int, fA gt')) ∧ gt'.length = 5 ∧ cE h' 78 (.inl (.int, fA gd')) ∧ gd'.length = 5 ∧ ((mj_ok (fun x => mx_w cn go ch s x) pl ka pa fa lr 0) i = true) ∧ hfr [66, 77, 78] h h') ∨ (∃ (w' : Int) (gt' : List Int) (gd' : List Int), rv = [fI 0] ∧ cE h' 66 (.inr (10, [fI pl, .ref 67, .ref 68, .ref 69, fI ((s : Nat) : Int), .ref 70, .ref 71, fI (f 7), fI (f 8), .ref 72, fI (f 10), fI (f 11), fI (f 12), fJ (f 13), fI (f 14), fI (f 15), fI (f 16), fI (f 17), .ref 73, .ref 74, .ref 75, .ref 76, .ref 77, .ref 78, fI w', .ref 79, .ref 80, .ref 81, .ref 82, .ref 83, .ref 84, .ref 85, fJ (f 32), fJ (f 33), .ref 86, .ref 87, fI (f 36), .ref 88, .ref 89, .ref 90, .ref 91, .ref 92, .ref 93])) ∧ cE h' 77 (.inl (.int, fA gt')) ∧ gt'.length = 5 ∧ cE h' 78 (.inl (.int, fA gd')) ∧ gd'.length = 5 ∧ ((mj_ok (fun x => mx_w cn go ch s x) pl ka pa fa lr 0) i = false) ∧ hfr [66, 77, 78] h h')) := by
  refine ik_Wk 1 (pc' := 1) (loc' := [some (.ref 66), some (fI 0), some (fI i), none, none, none, none]) (st' := [.ref 66]) (h' := h) (cl' := 0) (sl' := 0) rfl ?_
  refine fw_gf rfl rfl h66 rfl ?_
  refine ik_Wk 2 (pc' := 6) (loc' := [some (.ref 66), some (fI 0), some (fI i), none, none, none, none]) (st' := [fI 0, fI 3, .ref 70]) (h' := h) (cl' := 0) (sl' := 0) rfl ?_
  refine fw_mul rfl ?_
  refine ik_Wk 1 (pc' := 8) (loc' := [some (.ref 66), some (fI 0), some (fI i), none, none, none, none]) (st' := [fI 2, fI 0, .ref 70]) (h' := h) (cl' := 0) (sl' := 0) rfl ?_
  refine fw_add rfl ?_
  refine fw_ial (z := 2) rfl h70 (by decide) (Nat.le_of_ble_eq_true rfl) (by decide) ?_
  refine ik_Wk 0 (pc' := 10) (loc' := [some (.ref 66), some (fI 0), some (fI i), none, none, none, none]) (st' := [fI fa]) (h' := h) (cl' := 0) (sl' := 0) rfl ?_
  refine ik_Wk 2 (pc' := 12) (loc' := [some (.ref 66), some (fI 0), some (fI i), some (fI fa), none, none, none]) (st' := [.ref 66]) (h' := h) (cl' := 0) (sl' := 0) rfl ?_
  refine fw_gf rfl rfl h66 rfl ?_
  refine fw_bi rfl (by decide) ?_
  refine ik_Wk 1 (pc' := 18) (loc' := [some (.ref 66), some (fI 0), some (fI i), some (fI fa), none, none, none]) (st' := [fI 0, fI 40, .ref 91]) (h' := h) (cl' := 0) (sl' := 0) rfl ?_
  refine fw_mul rfl ?_
  refine ik_Wk 1 (pc' := 20) (loc' := [some (.ref 66), some (fI 0), some (fI i), some (fI fa), none, none, none]) (st' := [fI i, fI 0, .ref 91]) (h' := h) (cl' := 0) (sl' := 0) rfl ?_
  refine fw_add rfl ?_
  refine fw_ial rfl h91 (by omega) (by omega) (by omega) ?_
  refine ik_Wk 3 (pc' := 26) (loc' := [some (.ref 66), some (fI 0), some (fI i), some (fI fa), some (fI (lr.getD (0 + i).toNat 0)), none, none]) (st' := [fI fa, fI i]) (h' := h) (cl' := 0) (sl' := 0) rfl ?_
  refine fw_ic_gt rfl rfl (by omega) (by omega) (by omega) (by omega) (fun hc1 => ?_) (fun hc1 => ?_)
  · refine ik_Wk 2 (pc' := 62) (loc' := [some (.ref 66), some (fI 0), some (fI i), some (fI fa), some (fI (lr.getD (0 + i).toNat 0)), none, none]) (st' := [.ref 66, fI 1]) (h' := h) (cl' := 0) (sl' := 0) rfl ?_
    refine fw_gf rfl rfl h66 rfl ?_
    refine fw_bi rfl (by decide) ?_
    refine ik_Wk 1 (pc' := 68) (loc' := [some (.ref 66), some (fI 0), some (fI i), some (fI fa), some (fI (lr.getD (0 + i).toNat 0)), none, none]) (st' := [fI 0, fI 40, .ref 91, fI 1]) (h' := h) (cl' := 0) (sl' := 0) rfl ?_
    refine fw_mul rfl ?_
    refine ik_Wk 1 (pc' := 70) (loc' := [some (.ref 66), some (fI 0), some (fI i), some (fI fa), some (fI (lr.getD (0 + i).toNat 0)), none, none]) (st' := [fI i, fI 0, .ref 91, fI 1]) (h' := h) (cl' := 0) (sl' := 0) rfl ?_
    refine fw_add rfl ?_
    refine ik_Wk 1 (pc' := 72) (loc' := [some (.ref 66), some (fI 0), some (fI i), some (fI fa), some (fI (lr.getD (0 + i).toNat 0)), none, none]) (st' := [fI 1, fI (0 + i), .ref 91, fI 1]) (h' := h) (cl' := 0) (sl' := 0) rfl ?_
    refine fw_sub rfl ?_
    refine fw_ial rfl h91 (by omega) (by omega) (by omega) ?_
    refine fx_shl rfl (by omega) (by omega) ?_
    refine ik_Wk 2 (pc' := 78) (loc' := [some (.ref 66), some (fI 0), some (fI i), some (fI fa), some (fI (lr.getD (0 + i).toNat 0)), some (fI ((1 <<< (lr.getD ((0 + i) - 1).toNat 0).toNat : Nat) : Int)), none]) (st' := [.ref 66]) (h' := h) (cl' := 0) (sl' := 0) rfl ?_
    refine fw_gf rfl rfl h66 rfl ?_
    refine ik_Wk 2 (pc' := 83) (loc' := [some (.ref 66), some (fI 0), some (fI i), some (fI fa), some (fI (lr.getD (0 + i).toNat 0)), some (fI ((1 <<< (lr.getD ((0 + i) - 1).toNat 0).toNat : Nat) : Int)), none]) (st' := [fI 0, fI 3, .ref 70]) (h' := h) (cl' := 0) (sl' := 0) rfl ?_
    refine fw_mul rfl ?_
    refine fw_ial (z := 0) rfl h70 (by decide) (Nat.le_of_ble_eq_true rfl) (by decide) ?_
    refine ik_Wk 0 (pc' := 85) (loc' := [some (.ref 66), some (fI 0), some (fI i), some (fI fa), some (fI (lr.getD (0 + i).toNat 0)), some (fI ((1 <<< (lr.getD ((0 + i) - 1).toNat 0).toNat : Nat) : Int)), none]) (st' := [fI ka]) (h' := h) (cl' := 0) (sl' := 0) rfl ?_
    refine ik_Wk 3 (pc' := 90) (loc' := [some (.ref 66), some (fI 0), some (fI i), some (fI fa), some (fI (lr.getD (0 + i).toNat 0)), some (fI ((1 <<< (lr.getD ((0 + i) - 1).toNat 0).toNat : Nat) : Int)), some (fI ka)]) (st' := [fI 2, fI ka]) (h' := h) (cl' := 0) (sl' := 0) rfl ?_
    have hB0 : 1 <<< (lr.getD (0 + i - 1).toNat 0).toNat < 4096 := mj_12 (pl := pl) (mj_shl_lt (by omega)) (by omega)
    refine fw_ic_ne rfl rfl (by omega) (by omega) (by omega) (by omega) (fun hc2 => ?_) (fun hc2 => ?_)
    · refine ik_Wk 2 (pc' := 95) (loc' := [some (.ref 66), some (fI 0), some (fI i), some (fI fa), some (fI (lr.getD (0 + i).toNat 0)), some (fI ((1 <<< (lr.getD ((0 + i) - 1).toNat 0).toNat : Nat) : Int)), some (fI ka)]) (st' := [fI fa, fI i]) (h' := h) (cl' := 0) (sl' := 0) rfl ?_
      refine fw_sub rfl ?_
      refine ik_Wk 1 (pc' := 97) (loc' := [some (.ref 66), some (fI 0), some (fI i), some (fI fa), some (fI (lr.getD (0 + i).toNat 0)), some (fI ((1 <<< (lr.getD ((0 + i) - 1).toNat 0).toNat : Nat) : Int)), some (fI ka)]) (st' := [fI 2, fI (i - fa)]) (h' := h) (cl' := 0) (sl' := 0) rfl ?_
      refine fx_irem rfl (by omega) (by omega) (by omega) (by omega) ?_
      refine fw_if_ne rfl rfl (by omega) (by omega) (fun hc3 => ?_) (fun hc3 => ?_)
      · refine ik_Wk 2 (pc' := 104) (loc' := [some (.ref 66), some (fI 0), some (fI i), some (fI fa), some (fI (lr.getD (0 + i).toNat 0)), some (fI ((1 <<< (lr.getD ((0 + i) - 1).toNat 0).toNat : Nat) : Int)), some (fI ka)]) (st' := [fI ((1 <<< (lr.getD ((0 + i) - 1).toNat 0).toNat : Nat) : Int), .ref 66]) (h' := h) (cl' := 0) (sl' := 0) rfl ?_
        refine fw_call 205 2 0 [.ref 66, fI ((1 <<< (lr.getD ((0 + i) - 1).toNat 0).toNat : Nat) : Int)] [] rfl rfl rfl (by decide) rfl rfl (fw_rec hl rfl h66 rfl (by decide)) (cr_onFrom (pl := pl) (f := fun j => ([0, 0, 0, 0, 0, 0, 0, f 7, f 8, 0, f 10, f 11, f 12, f 13, f 14, f 15, f 16, f 17, 0, 0, 0, 0, 0, 0, f 24, 0, 0, 0, 0, 0, 0, 0, f 32, f 33, 0, 0, f 36, 0, 0, 0, 0, 0, 0] : List Int).getD j 0) (s := s) (B := 1 <<< (lr.getD ((0 + i) - 1).toNat 0).toNat) (cn := cn) (go := go) (ch := ch) (gt := gt) (gd := gd) (by omega) (by omega) q2 q3 q4 hB0 h66 h67 n67 h68 n68 h69 n69 h77 n77 h78 n78 hl) ?_
        rintro _ h_342 ⟨w'_342, gt'_342, gd'_342, rfl, e_342_66, e_342_77, m_342_77, e_342_78, m_342_78, F_342⟩
        have k_342 := F_342.1.trans hl
        have fr_342 := hfr_c (hfr_refl [66, 77, 78] h) F_342 (by decide)
        have g_342_67 := (F_342.2 67 (by decide +kernel)).trans h67
        have g_342_68 := (F_342.2 68 (by decide +kernel)).trans h68
        have g_342_69 := (F_342.2 69 (by decide +kernel)).trans h69
        have g_342_70 := (F_342.2 70 (by decide +kernel)).trans h70
        have g_342_91 := (F_342.2 91 (by decide +kernel)).trans h91
        have g_342_66 : cE h_342 66 (.inr (10, [fI pl, .ref 67, .ref 68, .ref 69, fI ((s : Nat) : Int), .ref 70, .ref 71, fI (f 7), fI (f 8), .ref 72, fI (f 10), fI (f 11), fI (f 12), fJ (f 13), fI (f 14), fI (f 15), fI (f 16), fI (f 17), .ref 73, .ref 74, .ref 75, .ref 76, .ref 77, .ref 78, fI w'_342, .ref 79, .ref 80, .ref 81, .ref 82, .ref 83, .ref 84, .ref 85, fJ (f 32), fJ (f 33), .ref 86, .ref 87, fI (f 36), .ref 88, .ref 89, .ref 90, .ref 91, .ref 92, .ref 93])) := e_342_66
        have g_342_77 : cE h_342 77 (.inl (.int, fA gt'_342)) := e_342_77
        have g_342_78 : cE h_342 78 (.inl (.int, fA gd'_342)) := e_342_78
        refine ik_Wk 0 (pc' := 107) (loc' := [some (.ref 66), some (fI 0), some (fI i), some (fI fa), some (fI (lr.getD (0 + i).toNat 0)), some (fI ((1 <<< (lr.getD ((0 + i) - 1).toNat 0).toNat : Nat) : Int)), some (fI ka)]) (st' := [fI ((mj_on (fun x => mx_w cn go ch s x) (pl - 1) (1 <<< (lr.getD ((0 + i) - 1).toNat 0).toNat) : Nat) : Int)]) (h' := h_342) (cl' := 0) (sl' := 0) rfl ?_
        have hB1 := mj_12 (mj_on_lt (W := (fun x => mx_w cn go ch s x)) (pl := pl) q4 (by omega) (1 <<< (lr.getD ((0 + i) - 1).toNat 0).toNat)) (by omega)
        refine ik_Wk 4 (pc' := 117) (loc' := [some (.ref 66), some (fI 0), some (fI i), some (fI fa), some (fI (lr.getD (0 + i).toNat 0)), some (fI ((mj_on (fun x => mx_w cn go ch s x) (pl - 1) (1 <<< (lr.getD ((0 + i) - 1).toNat 0).toNat) : Nat) : Int)), some (fI ka)]) (st' := [fI 1, fI ka]) (h' := h_342) (cl' := 0) (sl' := 0) rfl ?_
        refine fw_ic_ne rfl rfl (by omega) (by omega) (by omega) (by omega) (fun hc4 => ?_) (fun hc4 => ?_)
        · refine ik_Wk 2 (pc' := 123) (loc' := [some (.ref 66), some (fI 0), some (fI i), some (fI fa), some (fI (lr.getD (0 + i).toNat 0)), some (fI ((mj_on (fun x => mx_w cn go ch s x) (pl - 1) (1 <<< (lr.getD ((0 + i) - 1).toNat 0).toNat) : Nat) : Int)), some (fI ka)]) (st' := [fI ((mj_on (fun x => mx_w cn go ch s x) (pl - 1) (1 <<< (lr.getD ((0 + i) - 1).toNat 0).toNat) : Nat) : Int), .ref 66]) (h' := h_342) (cl' := 0) (sl' := 0) rfl ?_
          refine fw_call 205 2 0 [.ref 66, fI ((mj_on (fun x => mx_w cn go ch s x) (pl - 1) (1 <<< (lr.getD ((0 + i) - 1).toNat 0).toNat) : Nat) : Int)] [] rfl rfl rfl (by decide) rfl rfl (fw_rec k_342 rfl g_342_66 rfl (by decide)) (cr_onFrom (pl := pl) (f := fun j => ([0, 0, 0, 0, 0, 0, 0, (f 7), (f 8), 0, (f 10), (f 11), (f 12), (f 13), (f 14), (f 15), (f 16), (f 17), 0, 0, 0, 0, 0, 0, w'_342, 0, 0, 0, 0, 0, 0, 0, (f 32), (f 33), 0, 0, (f 36), 0, 0, 0, 0, 0, 0] : List Int).getD j 0) (s := s) (B := mj_on (fun x => mx_w cn go ch s x) (pl - 1) (1 <<< (lr.getD ((0 + i) - 1).toNat 0).toNat)) (cn := cn) (go := go) (ch := ch) (gt := gt'_342) (gd := gd'_342) (by omega) (by omega) q2 q3 q4 hB1 g_342_66 g_342_67 n67 g_342_68 n68 g_342_69 n69 g_342_77 m_342_77 g_342_78 m_342_78 k_342) ?_
          rintro _ h_343 ⟨w'_343, gt'_343, gd'_343, rfl, e_343_66, e_343_77, m_343_77, e_343_78, m_343_78, F_343⟩
          have k_343 := F_343.1.trans k_342
          have fr_343 := hfr_c fr_342 F_343 (by decide)
          have g_343_67 := (F_343.2 67 (by decide +kernel)).trans g_342_67
          have g_343_68 := (F_343.2 68 (by decide +kernel)).trans g_342_68
          have g_343_69 := (F_343.2 69 (by decide +kernel)).trans g_342_69
          have g_343_70 := (F_343.2 70 (by decide +kernel)).trans g_342_70
          have g_343_91 := (F_343.2 91 (by decide +kernel)).trans g_342_91
          have g_343_66 : cE h_343 66 (.inr (10, [fI pl, .ref 67, .ref 68, .ref 69, fI ((s : Nat) : Int), .ref 70, .ref 71, fI (f 7), fI (f 8), .ref 72, fI (f 10), fI (f 11), fI (f 12), fJ (f 13), fI (f 14), fI (f 15), fI (f 16), fI (f 17), .ref 73, .ref 74, .ref 75, .ref 76, .ref 77, .ref 78, fI w'_343, .ref 79, .ref 80, .ref 81, .ref 82, .ref 83, .ref 84, .ref 85, fJ (f 32), fJ (f 33), .ref 86, .ref 87, fI (f 36), .ref 88, .ref 89, .ref 90, .ref 91, .ref 92, .ref 93])) := e_343_66
          have g_343_77 : cE h_343 77 (.inl (.int, fA gt'_343)) := e_343_77
          have g_343_78 : cE h_343 78 (.inl (.int, fA gd'_343)) := e_343_78
          refine ik_Wk 0 (pc' := 126) (loc' := [some (.ref 66), some (fI 0), some (fI i), some (fI fa), some (fI (lr.getD (0 + i).toNat 0)), some (fI ((mj_on (fun x => mx_w cn go ch s x) (pl - 1) (1 <<< (lr.getD ((0 + i) - 1).toNat 0).toNat) : Nat) : Int)), some (fI ka)]) (st' := [fI ((mj_on (fun x => mx_w cn go ch s x) (pl - 1) (mj_on (fun x => mx_w cn go ch s x) (pl - 1) (1 <<< (lr.getD ((0 + i) - 1).toNat 0).toNat)) : Nat) : Int)]) (h' := h_343) (cl' := 0) (sl' := 0) rfl ?_
          have hB2 := mj_12 (mj_on_lt (W := (fun x => mx_w cn go ch s x)) (pl := pl) q4 (by omega) (mj_on (fun x => mx_w cn go ch s x) (pl - 1) (1 <<< (lr.getD ((0 + i) - 1).toNat 0).toNat))) (by omega)
          refine ik_Wk 4 (pc' := 137) (loc' := [some (.ref 66), some (fI 0), some (fI i), some (fI fa), some (fI (lr.getD (0 + i).toNat 0)), some (fI ((mj_on (fun x => mx_w cn go ch s x) (pl - 1) (mj_on (fun x => mx_w cn go ch s x) (pl - 1) (1 <<< (lr.getD ((0 + i) - 1).toNat 0).toNat)) : Nat) : Int)), some (fI ka)]) (st' := [fI (lr.getD (0 + i).toNat 0), fI ((mj_on (fun x => mx_w cn go ch s x) (pl - 1) (mj_on (fun x => mx_w cn go ch s x) (pl - 1) (1 <<< (lr.getD ((0 + i) - 1).toNat 0).toNat)) : Nat) : Int)]) (h' := h_343) (cl' := 0) (sl' := 0) rfl ?_
          refine ik_Wc 128 2 3 [fI ((mj_on (fun x => mx_w cn go ch s x) (pl - 1) (mj_on (fun x => mx_w cn go ch s x) (pl - 1) (1 <<< (lr.getD ((0 + i) - 1).toNat 0).toNat)) : Nat) : Int), fI (lr.getD (0 + i).toNat 0)] [] rfl rfl rfl (by decide) rfl rfl (fw_sta k_343 rfl (by decide)) ?_
          refine ik_Wk 0 (pc' := 0) (loc' := [some (fI ((mj_on (fun x => mx_w cn go ch s x) (pl - 1) (mj_on (fun x => mx_w cn go ch s x) (pl - 1) (1 <<< (lr.getD ((0 + i) - 1).toNat 0).toNat)) : Nat) : Int)), some (fI (lr.getD (0 + i).toNat 0))]) (st' := []) (h' := h_343) (cl' := 0) (sl' := 0) rfl ?_
          refine ik_Wk 2 (pc' := 2) (loc' := [some (fI ((mj_on (fun x => mx_w cn go ch s x) (pl - 1) (mj_on (fun x => mx_w cn go ch s x) (pl - 1) (1 <<< (lr.getD ((0 + i) - 1).toNat 0).toNat)) : Nat) : Int)), some (fI (lr.getD (0 + i).toNat 0))]) (st' := [fI (lr.getD (0 + i).toNat 0), fI ((mj_on (fun x => mx_w cn go ch s x) (pl - 1) (mj_on (fun x => mx_w cn go ch s x) (pl - 1) (1 <<< (lr.getD ((0 + i) - 1).toNat 0).toNat)) : Nat) : Int)]) (h' := h_343) (cl' := 0) (sl' := 0) rfl ?_
          refine fx_shr (n := mj_on (fun x => mx_w cn go ch s x) (pl - 1) (mj_on (fun x => mx_w cn go ch s x) (pl - 1) (1 <<< (lr.getD ((0 + i) - 1).toNat 0).toNat))) rfl (by omega) (by omega) (by omega) ?_
          refine ik_Wk 1 (pc' := 4) (loc' := [some (fI ((mj_on (fun x => mx_w cn go ch s x) (pl - 1) (mj_on (fun x => mx_w cn go ch s x) (pl - 1) (1 <<< (lr.getD ((0 + i) - 1).toNat 0).toNat)) : Nat) : Int)), some (fI (lr.getD (0 + i).toNat 0))]) (st' := [fI 1, fI (((mj_on (fun x => mx_w cn go ch s x) (pl - 1) (mj_on (fun x => mx_w cn go ch s x) (pl - 1) (1 <<< (lr.getD ((0 + i) - 1).toNat 0).toNat))) >>> (lr.getD (0 + i).toNat 0).toNat : Nat) : Int)]) (h' := h_343) (cl' := 0) (sl' := 0) rfl ?_
          refine fx_bit (n := (mj_on (fun x => mx_w cn go ch s x) (pl - 1) (mj_on (fun x => mx_w cn go ch s x) (pl - 1) (1 <<< (lr.getD ((0 + i) - 1).toNat 0).toNat)))) (k := (lr.getD (0 + i).toNat 0).toNat) rfl (fun hb5 => ?_) (fun hb5 => ?_)
          · refine ik_Wk 0 (pc' := 5) (loc' := [some (fI ((mj_on (fun x => mx_w cn go ch s x) (pl - 1) (mj_on (fun x => mx_w cn go ch s x) (pl - 1) (1 <<< (lr.getD ((0 + i) - 1).toNat 0).toNat)) : Nat) : Int)), some (fI (lr.getD (0 + i).toNat 0))]) (st' := [fI 1]) (h' := h_343) (cl' := 0) (sl' := 0) rfl ?_
            refine ik_Wk 1 (pc' := 6) (loc' := [some (fI ((mj_on (fun x => mx_w cn go ch s x) (pl - 1) (mj_on (fun x => mx_w cn go ch s x) (pl - 1) (1 <<< (lr.getD ((0 + i) - 1).toNat 0).toNat)) : Nat) : Int)), some (fI (lr.getD (0 + i).toNat 0))]) (st' := [fI 1, fI 1]) (h' := h_343) (cl' := 0) (sl' := 0) rfl ?_
            refine fw_ic_ne rfl rfl (by omega) (by omega) (by omega) (by omega) (fun hc6 => ?_) (fun hc6 => absurd hc6 (by omega))
            refine ik_Wk 2 (pc' := 14) (loc' := [some (fI ((mj_on (fun x => mx_w cn go ch s x) (pl - 1) (mj_on (fun x => mx_w cn go ch s x) (pl - 1) (1 <<< (lr.getD ((0 + i) - 1).toNat 0).toNat)) : Nat) : Int)), some (fI (lr.getD (0 + i).toNat 0))]) (st' := [fI 1]) (h' := h_343) (cl' := 0) (sl' := 0) rfl ?_
            refine ik_Wret rfl rfl ⟨_, _, rfl, rfl, ?_⟩
            refine ik_Wk 0 (pc' := 140) (loc' := [some (.ref 66), some (fI 0), some (fI i), some (fI fa), some (fI (lr.getD (0 + i).toNat 0)), some (fI ((mj_on (fun x => mx_w cn go ch s x) (pl - 1) (mj_on (fun x => mx_w cn go ch s x) (pl - 1) (1 <<< (lr.getD ((0 + i) - 1).toNat 0).toNat)) : Nat) : Int)), some (fI ka)]) (st' := [fI 1]) (h' := h_343) (cl' := 0) (sl' := 0) rfl ?_
            have et : mx_tm ka (i - fa) = 2 := by unfold mx_tm; (repeat' split) <;> omega
            have hlt : mj_oi (fun x => mx_w cn go ch s x) (pl - 1) 2 (1 <<< (lr.getD (0 + i - 1).toNat 0).toNat) < 2 ^ pl.toNat := mj_oi_lt q4 (by omega) _ _ (mj_shl_lt (by omega))
            have hG : (mj_ok (fun x => mx_w cn go ch s x) pl ka pa fa lr 0) i = true := by
              show (if i < fa then _ else if i = fa then _ else _) = _
              rw [if_neg (by omega), if_neg (by omega), et]
              exact decide_eq_true ⟨by omega, ⟨by omega, mj_tb_lt hlt hb5 (by omega)⟩, hb5⟩
            exact ik_Wret rfl rfl ⟨_, _, rfl, rfl, rfl, rfl, Or.inl ⟨w'_343, gt'_343, gd'_343, rfl, g_343_66, g_343_77, m_343_77, g_343_78, m_343_78, hG, fr_343⟩⟩
          · refine ik_Wk 0 (pc' := 5) (loc' := [some (fI ((mj_on (fun x => mx_w cn go ch s x) (pl - 1) (mj_on (fun x => mx_w cn go ch s x) (pl - 1) (1 <<< (lr.getD ((0 + i) - 1).toNat 0).toNat)) : Nat) : Int)), some (fI (lr.getD (0 + i).toNat 0))]) (st' := [fI 0]) (h' := h_343) (cl' := 0) (sl' := 0) rfl ?_
            refine ik_Wk 1 (pc' := 6) (loc' := [some (fI ((mj_on (fun x => mx_w cn go ch s x) (pl - 1) (mj_on (fun x => mx_w cn go ch s x) (pl - 1) (1 <<< (lr.getD ((0 + i) - 1).toNat 0).toNat)) : Nat) : Int)), some (fI (lr.getD (0 + i).toNat 0))]) (st' := [fI 1, fI 0]) (h' := h_343) (cl' := 0) (sl' := 0) rfl ?_
            refine fw_ic_ne rfl rfl (by omega) (by omega) (by omega) (by omega) (fun hc7 => absurd hc7 (by omega)) (fun hc7 => ?_)
            refine ik_Wk 1 (pc' := 14) (loc' := [some (fI ((mj_on (fun x => mx_w cn go ch s x) (pl - 1) (mj_on (fun x => mx_w cn go ch s x) (pl - 1) (1 <<< (lr.getD ((0 + i) - 1).toNat 0).toNat)) : Nat) : Int)), some (fI (lr.getD (0 + i).toNat 0))]) (st' := [fI 0]) (h' := h_343) (cl' := 0) (sl' := 0) rfl ?_
            refine ik_Wret rfl rfl ⟨_, _, rfl, rfl, ?_⟩
            refine ik_Wk 0 (pc' := 140) (loc' := [some (.ref 66), some (fI 0), some (fI i), some (fI fa), some (fI (lr.getD (0 + i).toNat 0)), some (fI ((mj_on (fun x => mx_w cn go ch s x) (pl - 1) (mj_on (fun x => mx_w cn go ch s x) (pl - 1) (1 <<< (lr.getD ((0 + i) - 1).toNat 0).toNat)) : Nat) : Int)), some (fI ka)]) (st' := [fI 0]) (h' := h_343) (cl' := 0) (sl' := 0) rfl ?_
            have et : mx_tm ka (i - fa) = 2 := by unfold mx_tm; (repeat' split) <;> omega
            have hlt : mj_oi (fun x => mx_w cn go ch s x) (pl - 1) 2 (1 <<< (lr.getD (0 + i - 1).toNat 0).toNat) < 2 ^ pl.toNat := mj_oi_lt q4 (by omega) _ _ (mj_shl_lt (by omega))
            have hG : (mj_ok (fun x => mx_w cn go ch s x) pl ka pa fa lr 0) i = false := by
              show (if i < fa then _ else if i = fa then _ else _) = _
              rw [if_neg (by omega), if_neg (by omega), et]
              exact decide_eq_false (fun w => absurd (w.2.2.symm.trans hb5) (by decide))
            exact ik_Wret rfl rfl ⟨_, _, rfl, rfl, rfl, rfl, Or.inr ⟨w'_343, gt'_343, gd'_343, rfl, g_343_66, g_343_77, m_343_77, g_343_78, m_343_78, hG, fr_343⟩⟩
        · refine ik_Wk 4 (pc' := 137) (loc' := [some (.ref 66), some (fI 0), some (fI i), some (fI fa), some (fI (lr.getD (0 + i).toNat 0)), some (fI ((mj_on (fun x => mx_w cn go ch s x) (pl - 1) (1 <<< (lr.getD ((0 + i) - 1).toNat 0).toNat) : Nat) : Int)), some (fI ka)]) (st' := [fI (lr.getD (0 + i).toNat 0), fI ((mj_on (fun x => mx_w cn go ch s x) (pl - 1) (1 <<< (lr.getD ((0 + i) - 1).toNat 0).toNat) : Nat) : Int)]) (h' := h_342) (cl' := 0) (sl' := 0) rfl ?_
          refine ik_Wc 128 2 3 [fI ((mj_on (fun x => mx_w cn go ch s x) (pl - 1) (1 <<< (lr.getD ((0 + i) - 1).toNat 0).toNat) : Nat) : Int), fI (lr.getD (0 + i).toNat 0)] [] rfl rfl rfl (by decide) rfl rfl (fw_sta k_342 rfl (by decide)) ?_
          refine ik_Wk 0 (pc' := 0) (loc' := [some (fI ((mj_on (fun x => mx_w cn go ch s x) (pl - 1) (1 <<< (lr.getD ((0 + i) - 1).toNat 0).toNat) : Nat) : Int)), some (fI (lr.getD (0 + i).toNat 0))]) (st' := []) (h' := h_342) (cl' := 0) (sl' := 0) rfl ?_
          refine ik_Wk 2 (pc' := 2) (loc' := [some (fI ((mj_on (fun x => mx_w cn go ch s x) (pl - 1) (1 <<< (lr.getD ((0 + i) - 1).toNat 0).toNat) : Nat) : Int)), some (fI (lr.getD (0 + i).toNat 0))]) (st' := [fI (lr.getD (0 + i).toNat 0), fI ((mj_on (fun x => mx_w cn go ch s x) (pl - 1) (1 <<< (lr.getD ((0 + i) - 1).toNat 0).toNat) : Nat) : Int)]) (h' := h_342) (cl' := 0) (sl' := 0) rfl ?_
          refine fx_shr (n := mj_on (fun x => mx_w cn go ch s x) (pl - 1) (1 <<< (lr.getD ((0 + i) - 1).toNat 0).toNat)) rfl (by omega) (by omega) (by omega) ?_
          refine ik_Wk 1 (pc' := 4) (loc' := [some (fI ((mj_on (fun x => mx_w cn go ch s x) (pl - 1) (1 <<< (lr.getD ((0 + i) - 1).toNat 0).toNat) : Nat) : Int)), some (fI (lr.getD (0 + i).toNat 0))]) (st' := [fI 1, fI (((mj_on (fun x => mx_w cn go ch s x) (pl - 1) (1 <<< (lr.getD ((0 + i) - 1).toNat 0).toNat)) >>> (lr.getD (0 + i).toNat 0).toNat : Nat) : Int)]) (h' := h_342) (cl' := 0) (sl' := 0) rfl ?_
          refine fx_bit (n := (mj_on (fun x => mx_w cn go ch s x) (pl - 1) (1 <<< (lr.getD ((0 + i) - 1).toNat 0).toNat))) (k := (lr.getD (0 + i).toNat 0).toNat) rfl (fun hb8 => ?_) (fun hb8 => ?_)
          · refine ik_Wk 0 (pc' := 5) (loc' := [some (fI ((mj_on (fun x => mx_w cn go ch s x) (pl - 1) (1 <<< (lr.getD ((0 + i) - 1).toNat 0).toNat) : Nat) : Int)), some (fI (lr.getD (0 + i).toNat 0))]) (st' := [fI 1]) (h' := h_342) (cl' := 0) (sl' := 0) rfl ?_
            refine ik_Wk 1 (pc' := 6) (loc' := [some (fI ((mj_on (fun x => mx_w cn go ch s x) (pl - 1) (1 <<< (lr.getD ((0 + i) - 1).toNat 0).toNat) : Nat) : Int)), some (fI (lr.getD (0 + i).toNat 0))]) (st' := [fI 1, fI 1]) (h' := h_342) (cl' := 0) (sl' := 0) rfl ?_
            refine fw_ic_ne rfl rfl (by omega) (by omega) (by omega) (by omega) (fun hc9 => ?_) (fun hc9 => absurd hc9 (by omega))
            refine ik_Wk 2 (pc' := 14) (loc' := [some (fI ((mj_on (fun x => mx_w cn go ch s x) (pl - 1) (1 <<< (lr.getD ((0 + i) - 1).toNat 0).toNat) : Nat) : Int)), some (fI (lr.getD (0 + i).toNat 0))]) (st' := [fI 1]) (h' := h_342) (cl' := 0) (sl' := 0) rfl ?_
            refine ik_Wret rfl rfl ⟨_, _, rfl, rfl, ?_⟩
            refine ik_Wk 0 (pc' := 140) (loc' := [some (.ref 66), some (fI 0), some (fI i), some (fI fa), some (fI (lr.getD (0 + i).toNat 0)), some (fI ((mj_on (fun x => mx_w cn go ch s x) (pl - 1) (1 <<< (lr.getD ((0 + i) - 1).toNat 0).toNat) : Nat) : Int)), some (fI ka)]) (st' := [fI 1]) (h' := h_342) (cl' := 0) (sl' := 0) rfl ?_
            have et : mx_tm ka (i - fa) = 1 := by unfold mx_tm; (repeat' split) <;> omega
            have hlt : mj_oi (fun x => mx_w cn go ch s x) (pl - 1) 1 (1 <<< (lr.getD (0 + i - 1).toNat 0).toNat) < 2 ^ pl.toNat := mj_oi_lt q4 (by omega) _ _ (mj_shl_lt (by omega))
            have hG : (mj_ok (fun x => mx_w cn go ch s x) pl ka pa fa lr 0) i = true := by
              show (if i < fa then _ else if i = fa then _ else _) = _
              rw [if_neg (by omega), if_neg (by omega), et]
              exact decide_eq_true ⟨by omega, ⟨by omega, mj_tb_lt hlt hb8 (by omega)⟩, hb8⟩
            exact ik_Wret rfl rfl ⟨_, _, rfl, rfl, rfl, rfl, Or.inl ⟨w'_342, gt'_342, gd'_342, rfl, g_342_66, g_342_77, m_342_77, g_342_78, m_342_78, hG, fr_342⟩⟩
          · refine ik_Wk 0 (pc' := 5) (loc' := [some (fI ((mj_on (fun x => mx_w cn go ch s x) (pl - 1) (1 <<< (lr.getD ((0 + i) - 1).toNat 0).toNat) : Nat) : Int)), some (fI (lr.getD (0 + i).toNat 0))]) (st' := [fI 0]) (h' := h_342) (cl' := 0) (sl' := 0) rfl ?_
            refine ik_Wk 1 (pc' := 6) (loc' := [some (fI ((mj_on (fun x => mx_w cn go ch s x) (pl - 1) (1 <<< (lr.getD ((0 + i) - 1).toNat 0).toNat) : Nat) : Int)), some (fI (lr.getD (0 + i).toNat 0))]) (st' := [fI 1, fI 0]) (h' := h_342) (cl' := 0) (sl' := 0) rfl ?_
            refine fw_ic_ne rfl rfl (by omega) (by omega) (by omega) (by omega) (fun hc10 => absurd hc10 (by omega)) (fun hc10 => ?_)
            refine ik_Wk 1 (pc' := 14) (loc' := [some (fI ((mj_on (fun x => mx_w cn go ch s x) (pl - 1) (1 <<< (lr.getD ((0 + i) - 1).toNat 0).toNat) : Nat) : Int)), some (fI (lr.getD (0 + i).toNat 0))]) (st' := [fI 0]) (h' := h_342) (cl' := 0) (sl' := 0) rfl ?_
            refine ik_Wret rfl rfl ⟨_, _, rfl, rfl, ?_⟩
            refine ik_Wk 0 (pc' := 140) (loc' := [some (.ref 66), some (fI 0), some (fI i), some (fI fa), some (fI (lr.getD (0 + i).toNat 0)), some (fI ((mj_on (fun x => mx_w cn go ch s x) (pl - 1) (1 <<< (lr.getD ((0 + i) - 1).toNat 0).toNat) : Nat) : Int)), some (fI ka)]) (st' := [fI 0]) (h' := h_342) (cl' := 0) (sl' := 0) rfl ?_
            have et : mx_tm ka (i - fa) = 1 := by unfold mx_tm; (repeat' split) <;> omega
            have hlt : mj_oi (fun x => mx_w cn go ch s x) (pl - 1) 1 (1 <<< (lr.getD (0 + i - 1).toNat 0).toNat) < 2 ^ pl.toNat := mj_oi_lt q4 (by omega) _ _ (mj_shl_lt (by omega))
            have hG : (mj_ok (fun x => mx_w cn go ch s x) pl ka pa fa lr 0) i = false := by
              show (if i < fa then _ else if i = fa then _ else _) = _
              rw [if_neg (by omega), if_neg (by omega), et]
              exact decide_eq_false (fun w => absurd (w.2.2.symm.trans hb8) (by decide))
            exact ik_Wret rfl rfl ⟨_, _, rfl, rfl, rfl, rfl, Or.inr ⟨w'_342, gt'_342, gd'_342, rfl, g_342_66, g_342_77, m_342_77, g_342_78, m_342_78, hG, fr_342⟩⟩
      · refine ik_Wk 4 (pc' := 117) (loc' := [some (.ref 66), some (fI 0), some (fI i), some (fI fa), some (fI (lr.getD (0 + i).toNat 0)), some (fI ((1 <<< (lr.getD ((0 + i) - 1).toNat 0).toNat : Nat) : Int)), some (fI ka)]) (st' := [fI 1, fI ka]) (h' := h) (cl' := 0) (sl' := 0) rfl ?_
        refine fw_ic_ne rfl rfl (by omega) (by omega) (by omega) (by omega) (fun hc11 => ?_) (fun hc11 => ?_)
        · refine ik_Wk 2 (pc' := 123) (loc' := [some (.ref 66), some (fI 0), some (fI i), some (fI fa), some (fI (lr.getD (0 + i).toNat 0)), some (fI ((1 <<< (lr.getD ((0 + i) - 1).toNat 0).toNat : Nat) : Int)), some (fI ka)]) (st' := [fI ((1 <<< (lr.getD ((0 + i) - 1).toNat 0).toNat : Nat) : Int), .ref 66]) (h' := h) (cl' := 0) (sl' := 0) rfl ?_
          refine fw_call 205 2 0 [.ref 66, fI ((1 <<< (lr.getD ((0 + i) - 1).toNat 0).toNat : Nat) : Int)] [] rfl rfl rfl (by decide) rfl rfl (fw_rec hl rfl h66 rfl (by decide)) (cr_onFrom (pl := pl) (f := fun j => ([0, 0, 0, 0, 0, 0, 0, f 7, f 8, 0, f 10, f 11, f 12, f 13, f 14, f 15, f 16, f 17, 0, 0, 0, 0, 0, 0, f 24, 0, 0, 0, 0, 0, 0, 0, f 32, f 33, 0, 0, f 36, 0, 0, 0, 0, 0, 0] : List Int).getD j 0) (s := s) (B := 1 <<< (lr.getD ((0 + i) - 1).toNat 0).toNat) (cn := cn) (go := go) (ch := ch) (gt := gt) (gd := gd) (by omega) (by omega) q2 q3 q4 hB0 h66 h67 n67 h68 n68 h69 n69 h77 n77 h78 n78 hl) ?_
          rintro _ h_344 ⟨w'_344, gt'_344, gd'_344, rfl, e_344_66, e_344_77, m_344_77, e_344_78, m_344_78, F_344⟩
          have k_344 := F_344.1.trans hl
          have fr_344 := hfr_c (hfr_refl [66, 77, 78] h) F_344 (by decide)
          have g_344_67 := (F_344.2 67 (by decide +kernel)).trans h67
          have g_344_68 := (F_344.2 68 (by decide +kernel)).trans h68
          have g_344_69 := (F_344.2 69 (by decide +kernel)).trans h69
          have g_344_70 := (F_344.2 70 (by decide +kernel)).trans h70
          have g_344_91 := (F_344.2 91 (by decide +kernel)).trans h91
          have g_344_66 : cE h_344 66 (.inr (10, [fI pl, .ref 67, .ref 68, .ref 69, fI ((s : Nat) : Int), .ref 70, .ref 71, fI (f 7), fI (f 8), .ref 72, fI (f 10), fI (f 11), fI (f 12), fJ (f 13), fI (f 14), fI (f 15), fI (f 16), fI (f 17), .ref 73, .ref 74, .ref 75, .ref 76, .ref 77, .ref 78, fI w'_344, .ref 79, .ref 80, .ref 81, .ref 82, .ref 83, .ref 84, .ref 85, fJ (f 32), fJ (f 33), .ref 86, .ref 87, fI (f 36), .ref 88, .ref 89, .ref 90, .ref 91, .ref 92, .ref 93])) := e_344_66
          have g_344_77 : cE h_344 77 (.inl (.int, fA gt'_344)) := e_344_77
          have g_344_78 : cE h_344 78 (.inl (.int, fA gd'_344)) := e_344_78
          refine ik_Wk 0 (pc' := 126) (loc' := [some (.ref 66), some (fI 0), some (fI i), some (fI fa), some (fI (lr.getD (0 + i).toNat 0)), some (fI ((1 <<< (lr.getD ((0 + i) - 1).toNat 0).toNat : Nat) : Int)), some (fI ka)]) (st' := [fI ((mj_on (fun x => mx_w cn go ch s x) (pl - 1) (1 <<< (lr.getD ((0 + i) - 1).toNat 0).toNat) : Nat) : Int)]) (h' := h_344) (cl' := 0) (sl' := 0) rfl ?_
          have hB1 := mj_12 (mj_on_lt (W := (fun x => mx_w cn go ch s x)) (pl := pl) q4 (by omega) (1 <<< (lr.getD ((0 + i) - 1).toNat 0).toNat)) (by omega)
          refine ik_Wk 4 (pc' := 137) (loc' := [some (.ref 66), some (fI 0), some (fI i), some (fI fa), some (fI (lr.getD (0 + i).toNat 0)), some (fI ((mj_on (fun x => mx_w cn go ch s x) (pl - 1) (1 <<< (lr.getD ((0 + i) - 1).toNat 0).toNat) : Nat) : Int)), some (fI ka)]) (st' := [fI (lr.getD (0 + i).toNat 0), fI ((mj_on (fun x => mx_w cn go ch s x) (pl - 1) (1 <<< (lr.getD ((0 + i) - 1).toNat 0).toNat) : Nat) : Int)]) (h' := h_344) (cl' := 0) (sl' := 0) rfl ?_
          refine ik_Wc 128 2 3 [fI ((mj_on (fun x => mx_w cn go ch s x) (pl - 1) (1 <<< (lr.getD ((0 + i) - 1).toNat 0).toNat) : Nat) : Int), fI (lr.getD (0 + i).toNat 0)] [] rfl rfl rfl (by decide) rfl rfl (fw_sta k_344 rfl (by decide)) ?_
          refine ik_Wk 0 (pc' := 0) (loc' := [some (fI ((mj_on (fun x => mx_w cn go ch s x) (pl - 1) (1 <<< (lr.getD ((0 + i) - 1).toNat 0).toNat) : Nat) : Int)), some (fI (lr.getD (0 + i).toNat 0))]) (st' := []) (h' := h_344) (cl' := 0) (sl' := 0) rfl ?_
          refine ik_Wk 2 (pc' := 2) (loc' := [some (fI ((mj_on (fun x => mx_w cn go ch s x) (pl - 1) (1 <<< (lr.getD ((0 + i) - 1).toNat 0).toNat) : Nat) : Int)), some (fI (lr.getD (0 + i).toNat 0))]) (st' := [fI (lr.getD (0 + i).toNat 0), fI ((mj_on (fun x => mx_w cn go ch s x) (pl - 1) (1 <<< (lr.getD ((0 + i) - 1).toNat 0).toNat) : Nat) : Int)]) (h' := h_344) (cl' := 0) (sl' := 0) rfl ?_
          refine fx_shr (n := mj_on (fun x => mx_w cn go ch s x) (pl - 1) (1 <<< (lr.getD ((0 + i) - 1).toNat 0).toNat)) rfl (by omega) (by omega) (by omega) ?_
          refine ik_Wk 1 (pc' := 4) (loc' := [some (fI ((mj_on (fun x => mx_w cn go ch s x) (pl - 1) (1 <<< (lr.getD ((0 + i) - 1).toNat 0).toNat) : Nat) : Int)), some (fI (lr.getD (0 + i).toNat 0))]) (st' := [fI 1, fI (((mj_on (fun x => mx_w cn go ch s x) (pl - 1) (1 <<< (lr.getD ((0 + i) - 1).toNat 0).toNat)) >>> (lr.getD (0 + i).toNat 0).toNat : Nat) : Int)]) (h' := h_344) (cl' := 0) (sl' := 0) rfl ?_
          refine fx_bit (n := (mj_on (fun x => mx_w cn go ch s x) (pl - 1) (1 <<< (lr.getD ((0 + i) - 1).toNat 0).toNat))) (k := (lr.getD (0 + i).toNat 0).toNat) rfl (fun hb12 => ?_) (fun hb12 => ?_)
          · refine ik_Wk 0 (pc' := 5) (loc' := [some (fI ((mj_on (fun x => mx_w cn go ch s x) (pl - 1) (1 <<< (lr.getD ((0 + i) - 1).toNat 0).toNat) : Nat) : Int)), some (fI (lr.getD (0 + i).toNat 0))]) (st' := [fI 1]) (h' := h_344) (cl' := 0) (sl' := 0) rfl ?_
            refine ik_Wk 1 (pc' := 6) (loc' := [some (fI ((mj_on (fun x => mx_w cn go ch s x) (pl - 1) (1 <<< (lr.getD ((0 + i) - 1).toNat 0).toNat) : Nat) : Int)), some (fI (lr.getD (0 + i).toNat 0))]) (st' := [fI 1, fI 1]) (h' := h_344) (cl' := 0) (sl' := 0) rfl ?_
            refine fw_ic_ne rfl rfl (by omega) (by omega) (by omega) (by omega) (fun hc13 => ?_) (fun hc13 => absurd hc13 (by omega))
            refine ik_Wk 2 (pc' := 14) (loc' := [some (fI ((mj_on (fun x => mx_w cn go ch s x) (pl - 1) (1 <<< (lr.getD ((0 + i) - 1).toNat 0).toNat) : Nat) : Int)), some (fI (lr.getD (0 + i).toNat 0))]) (st' := [fI 1]) (h' := h_344) (cl' := 0) (sl' := 0) rfl ?_
            refine ik_Wret rfl rfl ⟨_, _, rfl, rfl, ?_⟩
            refine ik_Wk 0 (pc' := 140) (loc' := [some (.ref 66), some (fI 0), some (fI i), some (fI fa), some (fI (lr.getD (0 + i).toNat 0)), some (fI ((mj_on (fun x => mx_w cn go ch s x) (pl - 1) (1 <<< (lr.getD ((0 + i) - 1).toNat 0).toNat) : Nat) : Int)), some (fI ka)]) (st' := [fI 1]) (h' := h_344) (cl' := 0) (sl' := 0) rfl ?_
            have et : mx_tm ka (i - fa) = 1 := by unfold mx_tm; (repeat' split) <;> omega
            have hlt : mj_oi (fun x => mx_w cn go ch s x) (pl - 1) 1 (1 <<< (lr.getD (0 + i - 1).toNat 0).toNat) < 2 ^ pl.toNat := mj_oi_lt q4 (by omega) _ _ (mj_shl_lt (by omega))
            have hG : (mj_ok (fun x => mx_w cn go ch s x) pl ka pa fa lr 0) i = true := by
              show (if i < fa then _ else if i = fa then _ else _) = _
              rw [if_neg (by omega), if_neg (by omega), et]
              exact decide_eq_true ⟨by omega, ⟨by omega, mj_tb_lt hlt hb12 (by omega)⟩, hb12⟩
            exact ik_Wret rfl rfl ⟨_, _, rfl, rfl, rfl, rfl, Or.inl ⟨w'_344, gt'_344, gd'_344, rfl, g_344_66, g_344_77, m_344_77, g_344_78, m_344_78, hG, fr_344⟩⟩
          · refine ik_Wk 0 (pc' := 5) (loc' := [some (fI ((mj_on (fun x => mx_w cn go ch s x) (pl - 1) (1 <<< (lr.getD ((0 + i) - 1).toNat 0).toNat) : Nat) : Int)), some (fI (lr.getD (0 + i).toNat 0))]) (st' := [fI 0]) (h' := h_344) (cl' := 0) (sl' := 0) rfl ?_
            refine ik_Wk 1 (pc' := 6) (loc' := [some (fI ((mj_on (fun x => mx_w cn go ch s x) (pl - 1) (1 <<< (lr.getD ((0 + i) - 1).toNat 0).toNat) : Nat) : Int)), some (fI (lr.getD (0 + i).toNat 0))]) (st' := [fI 1, fI 0]) (h' := h_344) (cl' := 0) (sl' := 0) rfl ?_
            refine fw_ic_ne rfl rfl (by omega) (by omega) (by omega) (by omega) (fun hc14 => absurd hc14 (by omega)) (fun hc14 => ?_)
            refine ik_Wk 1 (pc' := 14) (loc' := [some (fI ((mj_on (fun x => mx_w cn go ch s x) (pl - 1) (1 <<< (lr.getD ((0 + i) - 1).toNat 0).toNat) : Nat) : Int)), some (fI (lr.getD (0 + i).toNat 0))]) (st' := [fI 0]) (h' := h_344) (cl' := 0) (sl' := 0) rfl ?_
            refine ik_Wret rfl rfl ⟨_, _, rfl, rfl, ?_⟩
            refine ik_Wk 0 (pc' := 140) (loc' := [some (.ref 66), some (fI 0), some (fI i), some (fI fa), some (fI (lr.getD (0 + i).toNat 0)), some (fI ((mj_on (fun x => mx_w cn go ch s x) (pl - 1) (1 <<< (lr.getD ((0 + i) - 1).toNat 0).toNat) : Nat) : Int)), some (fI ka)]) (st' := [fI 0]) (h' := h_344) (cl' := 0) (sl' := 0) rfl ?_
            have et : mx_tm ka (i - fa) = 1 := by unfold mx_tm; (repeat' split) <;> omega
            have hlt : mj_oi (fun x => mx_w cn go ch s x) (pl - 1) 1 (1 <<< (lr.getD (0 + i - 1).toNat 0).toNat) < 2 ^ pl.toNat := mj_oi_lt q4 (by omega) _ _ (mj_shl_lt (by omega))
            have hG : (mj_ok (fun x => mx_w cn go ch s x) pl ka pa fa lr 0) i = false := by
              show (if i < fa then _ else if i = fa then _ else _) = _
              rw [if_neg (by omega), if_neg (by omega), et]
              exact decide_eq_false (fun w => absurd (w.2.2.symm.trans hb12) (by decide))
            exact ik_Wret rfl rfl ⟨_, _, rfl, rfl, rfl, rfl, Or.inr ⟨w'_344, gt'_344, gd'_344, rfl, g_344_66, g_344_77, m_344_77, g_344_78, m_344_78, hG, fr_344⟩⟩
        · refine ik_Wk 4 (pc' := 137) (loc' := [some (.ref 66), some (fI 0), some (fI i), some (fI fa), some (fI (lr.getD (0 + i).toNat 0)), some (fI ((1 <<< (lr.getD ((0 + i) - 1).toNat 0).toNat : Nat) : Int)), some (fI ka)]) (st' := [fI (lr.getD (0 + i).toNat 0), fI ((1 <<< (lr.getD ((0 + i) - 1).toNat 0).toNat : Nat) : Int)]) (h' := h) (cl' := 0) (sl' := 0) rfl ?_
          refine ik_Wc 128 2 3 [fI ((1 <<< (lr.getD ((0 + i) - 1).toNat 0).toNat : Nat) : Int), fI (lr.getD (0 + i).toNat 0)] [] rfl rfl rfl (by decide) rfl rfl (fw_sta hl rfl (by decide)) ?_
          refine ik_Wk 0 (pc' := 0) (loc' := [some (fI ((1 <<< (lr.getD ((0 + i) - 1).toNat 0).toNat : Nat) : Int)), some (fI (lr.getD (0 + i).toNat 0))]) (st' := []) (h' := h) (cl' := 0) (sl' := 0) rfl ?_
          refine ik_Wk 2 (pc' := 2) (loc' := [some (fI ((1 <<< (lr.getD ((0 + i) - 1).toNat 0).toNat : Nat) : Int)), some (fI (lr.getD (0 + i).toNat 0))]) (st' := [fI (lr.getD (0 + i).toNat 0), fI ((1 <<< (lr.getD ((0 + i) - 1).toNat 0).toNat : Nat) : Int)]) (h' := h) (cl' := 0) (sl' := 0) rfl ?_
          refine fx_shr (n := 1 <<< (lr.getD ((0 + i) - 1).toNat 0).toNat) rfl (by omega) (by omega) (by omega) ?_
          refine ik_Wk 1 (pc' := 4) (loc' := [some (fI ((1 <<< (lr.getD ((0 + i) - 1).toNat 0).toNat : Nat) : Int)), some (fI (lr.getD (0 + i).toNat 0))]) (st' := [fI 1, fI (((1 <<< (lr.getD ((0 + i) - 1).toNat 0).toNat) >>> (lr.getD (0 + i).toNat 0).toNat : Nat) : Int)]) (h' := h) (cl' := 0) (sl' := 0) rfl ?_
          refine fx_bit (n := (1 <<< (lr.getD ((0 + i) - 1).toNat 0).toNat)) (k := (lr.getD (0 + i).toNat 0).toNat) rfl (fun hb15 => ?_) (fun hb15 => ?_)
          · refine ik_Wk 0 (pc' := 5) (loc' := [some (fI ((1 <<< (lr.getD ((0 + i) - 1).toNat 0).toNat : Nat) : Int)), some (fI (lr.getD (0 + i).toNat 0))]) (st' := [fI 1]) (h' := h) (cl' := 0) (sl' := 0) rfl ?_
            refine ik_Wk 1 (pc' := 6) (loc' := [some (fI ((1 <<< (lr.getD ((0 + i) - 1).toNat 0).toNat : Nat) : Int)), some (fI (lr.getD (0 + i).toNat 0))]) (st' := [fI 1, fI 1]) (h' := h) (cl' := 0) (sl' := 0) rfl ?_
            refine fw_ic_ne rfl rfl (by omega) (by omega) (by omega) (by omega) (fun hc16 => ?_) (fun hc16 => absurd hc16 (by omega))
            refine ik_Wk 2 (pc' := 14) (loc' := [some (fI ((1 <<< (lr.getD ((0 + i) - 1).toNat 0).toNat : Nat) : Int)), some (fI (lr.getD (0 + i).toNat 0))]) (st' := [fI 1]) (h' := h) (cl' := 0) (sl' := 0) rfl ?_
            refine ik_Wret rfl rfl ⟨_, _, rfl, rfl, ?_⟩
            refine ik_Wk 0 (pc' := 140) (loc' := [some (.ref 66), some (fI 0), some (fI i), some (fI fa), some (fI (lr.getD (0 + i).toNat 0)), some (fI ((1 <<< (lr.getD ((0 + i) - 1).toNat 0).toNat : Nat) : Int)), some (fI ka)]) (st' := [fI 1]) (h' := h) (cl' := 0) (sl' := 0) rfl ?_
            have et : mx_tm ka (i - fa) = 0 := by unfold mx_tm; (repeat' split) <;> omega
            have hlt : mj_oi (fun x => mx_w cn go ch s x) (pl - 1) 0 (1 <<< (lr.getD (0 + i - 1).toNat 0).toNat) < 2 ^ pl.toNat := mj_oi_lt q4 (by omega) _ _ (mj_shl_lt (by omega))
            have hG : (mj_ok (fun x => mx_w cn go ch s x) pl ka pa fa lr 0) i = true := by
              show (if i < fa then _ else if i = fa then _ else _) = _
              rw [if_neg (by omega), if_neg (by omega), et]
              exact decide_eq_true ⟨by omega, ⟨by omega, mj_tb_lt hlt hb15 (by omega)⟩, hb15⟩
            exact ik_Wret rfl rfl ⟨_, _, rfl, rfl, rfl, rfl, Or.inl ⟨(f 24), gt, gd, rfl, h66, h77, n77, h78, n78, hG, (hfr_refl [66, 77, 78] h)⟩⟩
          · refine ik_Wk 0 (pc' := 5) (loc' := [some (fI ((1 <<< (lr.getD ((0 + i) - 1).toNat 0).toNat : Nat) : Int)), some (fI (lr.getD (0 + i).toNat 0))]) (st' := [fI 0]) (h' := h) (cl' := 0) (sl' := 0) rfl ?_
            refine ik_Wk 1 (pc' := 6) (loc' := [some (fI ((1 <<< (lr.getD ((0 + i) - 1).toNat 0).toNat : Nat) : Int)), some (fI (lr.getD (0 + i).toNat 0))]) (st' := [fI 1, fI 0]) (h' := h) (cl' := 0) (sl' := 0) rfl ?_
            refine fw_ic_ne rfl rfl (by omega) (by omega) (by omega) (by omega) (fun hc17 => absurd hc17 (by omega)) (fun hc17 => ?_)
            refine ik_Wk 1 (pc' := 14) (loc' := [some (fI ((1 <<< (lr.getD ((0 + i) - 1).toNat 0).toNat : Nat) : Int)), some (fI (lr.getD (0 + i).toNat 0))]) (st' := [fI 0]) (h' := h) (cl' := 0) (sl' := 0) rfl ?_
            refine ik_Wret rfl rfl ⟨_, _, rfl, rfl, ?_⟩
            refine ik_Wk 0 (pc' := 140) (loc' := [some (.ref 66), some (fI 0), some (fI i), some (fI fa), some (fI (lr.getD (0 + i).toNat 0)), some (fI ((1 <<< (lr.getD ((0 + i) - 1).toNat 0).toNat : Nat) : Int)), some (fI ka)]) (st' := [fI 0]) (h' := h) (cl' := 0) (sl' := 0) rfl ?_
            have et : mx_tm ka (i - fa) = 0 := by unfold mx_tm; (repeat' split) <;> omega
            have hlt : mj_oi (fun x => mx_w cn go ch s x) (pl - 1) 0 (1 <<< (lr.getD (0 + i - 1).toNat 0).toNat) < 2 ^ pl.toNat := mj_oi_lt q4 (by omega) _ _ (mj_shl_lt (by omega))
            have hG : (mj_ok (fun x => mx_w cn go ch s x) pl ka pa fa lr 0) i = false := by
              show (if i < fa then _ else if i = fa then _ else _) = _
              rw [if_neg (by omega), if_neg (by omega), et]
              exact decide_eq_false (fun w => absurd (w.2.2.symm.trans hb15) (by decide))
            exact ik_Wret rfl rfl ⟨_, _, rfl, rfl, rfl, rfl, Or.inr ⟨(f 24), gt, gd, rfl, h66, h77, n77, h78, n78, hG, (hfr_refl [66, 77, 78] h)⟩⟩
    · refine ik_Wk 2 (pc' := 104) (loc' := [some (.ref 66), some (fI 0), some (fI i), some (fI fa), some (fI (lr.getD (0 + i).toNat 0)), some (fI ((1 <<< (lr.getD ((0 + i) - 1).toNat 0).toNat : Nat) : Int)), some (fI ka)]) (st' := [fI ((1 <<< (lr.getD ((0 + i) - 1).toNat 0).toNat : Nat) : Int), .ref 66]) (h' := h) (cl' := 0) (sl' := 0) rfl ?_
      refine fw_call 205 2 0 [.ref 66, fI ((1 <<< (lr.getD ((0 + i) - 1).toNat 0).toNat : Nat) : Int)] [] rfl rfl rfl (by decide) rfl rfl (fw_rec hl rfl h66 rfl (by decide)) (cr_onFrom (pl := pl) (f := fun j => ([0, 0, 0, 0, 0, 0, 0, f 7, f 8, 0, f 10, f 11, f 12, f 13, f 14, f 15, f 16, f 17, 0, 0, 0, 0, 0, 0, f 24, 0, 0, 0, 0, 0, 0, 0, f 32, f 33, 0, 0, f 36, 0, 0, 0, 0, 0, 0] : List Int).getD j 0) (s := s) (B := 1 <<< (lr.getD ((0 + i) - 1).toNat 0).toNat) (cn := cn) (go := go) (ch := ch) (gt := gt) (gd := gd) (by omega) (by omega) q2 q3 q4 hB0 h66 h67 n67 h68 n68 h69 n69 h77 n77 h78 n78 hl) ?_
      rintro _ h_345 ⟨w'_345, gt'_345, gd'_345, rfl, e_345_66, e_345_77, m_345_77, e_345_78, m_345_78, F_345⟩
      have k_345 := F_345.1.trans hl
      have fr_345 := hfr_c (hfr_refl [66, 77, 78] h) F_345 (by decide)
      have g_345_67 := (F_345.2 67 (by decide +kernel)).trans h67
      have g_345_68 := (F_345.2 68 (by decide +kernel)).trans h68
      have g_345_69 := (F_345.2 69 (by decide +kernel)).trans h69
      have g_345_70 := (F_345.2 70 (by decide +kernel)).trans h70
      have g_345_91 := (F_345.2 91 (by decide +kernel)).trans h91
      have g_345_66 : cE h_345 66 (.inr (10, [fI pl, .ref 67, .ref 68, .ref 69, fI ((s : Nat) : Int), .ref 70, .ref 71, fI (f 7), fI (f 8), .ref 72, fI (f 10), fI (f 11), fI (f 12), fJ (f 13), fI (f 14), fI (f 15), fI (f 16), fI (f 17), .ref 73, .ref 74, .ref 75, .ref 76, .ref 77, .ref 78, fI w'_345, .ref 79, .ref 80, .ref 81, .ref 82, .ref 83, .ref 84, .ref 85, fJ (f 32), fJ (f 33), .ref 86, .ref 87, fI (f 36), .ref 88, .ref 89, .ref 90, .ref 91, .ref 92, .ref 93])) := e_345_66
      have g_345_77 : cE h_345 77 (.inl (.int, fA gt'_345)) := e_345_77
      have g_345_78 : cE h_345 78 (.inl (.int, fA gd'_345)) := e_345_78
      refine ik_Wk 0 (pc' := 107) (loc' := [some (.ref 66), some (fI 0), some (fI i), some (fI fa), some (fI (lr.getD (0 + i).toNat 0)), some (fI ((1 <<< (lr.getD ((0 + i) - 1).toNat 0).toNat : Nat) : Int)), some (fI ka)]) (st' := [fI ((mj_on (fun x => mx_w cn go ch s x) (pl - 1) (1 <<< (lr.getD ((0 + i) - 1).toNat 0).toNat) : Nat) : Int)]) (h' := h_345) (cl' := 0) (sl' := 0) rfl ?_
      have hB1 := mj_12 (mj_on_lt (W := (fun x => mx_w cn go ch s x)) (pl := pl) q4 (by omega) (1 <<< (lr.getD ((0 + i) - 1).toNat 0).toNat)) (by omega)
      refine ik_Wk 4 (pc' := 117) (loc' := [some (.ref 66), some (fI 0), some (fI i), some (fI fa), some (fI (lr.getD (0 + i).toNat 0)), some (fI ((mj_on (fun x => mx_w cn go ch s x) (pl - 1) (1 <<< (lr.getD ((0 + i) - 1).toNat 0).toNat) : Nat) : Int)), some (fI ka)]) (st' := [fI 1, fI ka]) (h' := h_345) (cl' := 0) (sl' := 0) rfl ?_
      refine fw_ic_ne rfl rfl (by omega) (by omega) (by omega) (by omega) (fun hc18 => ?_) (fun hc18 => ?_)
      · refine ik_Wk 2 (pc' := 123) (loc' := [some (.ref 66), some (fI 0), some (fI i), some (fI fa), some (fI (lr.getD (0 + i).toNat 0)), some (fI ((mj_on (fun x => mx_w cn go ch s x) (pl - 1) (1 <<< (lr.getD ((0 + i) - 1).toNat 0).toNat) : Nat) : Int)), some (fI ka)]) (st' := [fI ((mj_on (fun x => mx_w cn go ch s x) (pl - 1) (1 <<< (lr.getD ((0 + i) - 1).toNat 0).toNat) : Nat) : Int), .ref 66]) (h' := h_345) (cl' := 0) (sl' := 0) rfl ?_
        refine fw_call 205 2 0 [.ref 66, fI ((mj_on (fun x => mx_w cn go ch s x) (pl - 1) (1 <<< (lr.getD ((0 + i) - 1).toNat 0).toNat) : Nat) : Int)] [] rfl rfl rfl (by decide) rfl rfl (fw_rec k_345 rfl g_345_66 rfl (by decide)) (cr_onFrom (pl := pl) (f := fun j => ([0, 0, 0, 0, 0, 0, 0, (f 7), (f 8), 0, (f 10), (f 11), (f 12), (f 13), (f 14), (f 15), (f 16), (f 17), 0, 0, 0, 0, 0, 0, w'_345, 0, 0, 0, 0, 0, 0, 0, (f 32), (f 33), 0, 0, (f 36), 0, 0, 0, 0, 0, 0] : List Int).getD j 0) (s := s) (B := mj_on (fun x => mx_w cn go ch s x) (pl - 1) (1 <<< (lr.getD ((0 + i) - 1).toNat 0).toNat)) (cn := cn) (go := go) (ch := ch) (gt := gt'_345) (gd := gd'_345) (by omega) (by omega) q2 q3 q4 hB1 g_345_66 g_345_67 n67 g_345_68 n68 g_345_69 n69 g_345_77 m_345_77 g_345_78 m_345_78 k_345) ?_
        rintro _ h_346 ⟨w'_346, gt'_346, gd'_346, rfl, e_346_66, e_346_77, m_346_77, e_346_78, m_346_78, F_346⟩
        have k_346 := F_346.1.trans k_345
        have fr_346 := hfr_c fr_345 F_346 (by decide)
        have g_346_67 := (F_346.2 67 (by decide +kernel)).trans g_345_67
        have g_346_68 := (F_346.2 68 (by decide +kernel)).trans g_345_68
        have g_346_69 := (F_346.2 69 (by decide +kernel)).trans g_345_69
        have g_346_70 := (F_346.2 70 (by decide +kernel)).trans g_345_70
        have g_346_91 := (F_346.2 91 (by decide +kernel)).trans g_345_91
        have g_346_66 : cE h_346 66 (.inr (10, [fI pl, .ref 67, .ref 68, .ref 69, fI ((s : Nat) : Int), .ref 70, .ref 71, fI (f 7), fI (f 8), .ref 72, fI (f 10), fI (f 11), fI (f 12), fJ (f 13), fI (f 14), fI (f 15), fI (f 16), fI (f 17), .ref 73, .ref 74, .ref 75, .ref 76, .ref 77, .ref 78, fI w'_346, .ref 79, .ref 80, .ref 81, .ref 82, .ref 83, .ref 84, .ref 85, fJ (f 32), fJ (f 33), .ref 86, .ref 87, fI (f 36), .ref 88, .ref 89, .ref 90, .ref 91, .ref 92, .ref 93])) := e_346_66
        have g_346_77 : cE h_346 77 (.inl (.int, fA gt'_346)) := e_346_77
        have g_346_78 : cE h_346 78 (.inl (.int, fA gd'_346)) := e_346_78
        refine ik_Wk 0 (pc' := 126) (loc' := [some (.ref 66), some (fI 0), some (fI i), some (fI fa), some (fI (lr.getD (0 + i).toNat 0)), some (fI ((mj_on (fun x => mx_w cn go ch s x) (pl - 1) (1 <<< (lr.getD ((0 + i) - 1).toNat 0).toNat) : Nat) : Int)), some (fI ka)]) (st' := [fI ((mj_on (fun x => mx_w cn go ch s x) (pl - 1) (mj_on (fun x => mx_w cn go ch s x) (pl - 1) (1 <<< (lr.getD ((0 + i) - 1).toNat 0).toNat)) : Nat) : Int)]) (h' := h_346) (cl' := 0) (sl' := 0) rfl ?_
        have hB2 := mj_12 (mj_on_lt (W := (fun x => mx_w cn go ch s x)) (pl := pl) q4 (by omega) (mj_on (fun x => mx_w cn go ch s x) (pl - 1) (1 <<< (lr.getD ((0 + i) - 1).toNat 0).toNat))) (by omega)
        refine ik_Wk 4 (pc' := 137) (loc' := [some (.ref 66), some (fI 0), some (fI i), some (fI fa), some (fI (lr.getD (0 + i).toNat 0)), some (fI ((mj_on (fun x => mx_w cn go ch s x) (pl - 1) (mj_on (fun x => mx_w cn go ch s x) (pl - 1) (1 <<< (lr.getD ((0 + i) - 1).toNat 0).toNat)) : Nat) : Int)), some (fI ka)]) (st' := [fI (lr.getD (0 + i).toNat 0), fI ((mj_on (fun x => mx_w cn go ch s x) (pl - 1) (mj_on (fun x => mx_w cn go ch s x) (pl - 1) (1 <<< (lr.getD ((0 + i) - 1).toNat 0).toNat)) : Nat) : Int)]) (h' := h_346) (cl' := 0) (sl' := 0) rfl ?_
        refine ik_Wc 128 2 3 [fI ((mj_on (fun x => mx_w cn go ch s x) (pl - 1) (mj_on (fun x => mx_w cn go ch s x) (pl - 1) (1 <<< (lr.getD ((0 + i) - 1).toNat 0).toNat)) : Nat) : Int), fI (lr.getD (0 + i).toNat 0)] [] rfl rfl rfl (by decide) rfl rfl (fw_sta k_346 rfl (by decide)) ?_
        refine ik_Wk 0 (pc' := 0) (loc' := [some (fI ((mj_on (fun x => mx_w cn go ch s x) (pl - 1) (mj_on (fun x => mx_w cn go ch s x) (pl - 1) (1 <<< (lr.getD ((0 + i) - 1).toNat 0).toNat)) : Nat) : Int)), some (fI (lr.getD (0 + i).toNat 0))]) (st' := []) (h' := h_346) (cl' := 0) (sl' := 0) rfl ?_
        refine ik_Wk 2 (pc' := 2) (loc' := [some (fI ((mj_on (fun x => mx_w cn go ch s x) (pl - 1) (mj_on (fun x => mx_w cn go ch s x) (pl - 1) (1 <<< (lr.getD ((0 + i) - 1).toNat 0).toNat)) : Nat) : Int)), some (fI (lr.getD (0 + i).toNat 0))]) (st' := [fI (lr.getD (0 + i).toNat 0), fI ((mj_on (fun x => mx_w cn go ch s x) (pl - 1) (mj_on (fun x => mx_w cn go ch s x) (pl - 1) (1 <<< (lr.getD ((0 + i) - 1).toNat 0).toNat)) : Nat) : Int)]) (h' := h_346) (cl' := 0) (sl' := 0) rfl ?_
        refine fx_shr (n := mj_on (fun x => mx_w cn go ch s x) (pl - 1) (mj_on (fun x => mx_w cn go ch s x) (pl - 1) (1 <<< (lr.getD ((0 + i) - 1).toNat 0).toNat))) rfl (by omega) (by omega) (by omega) ?_
        refine ik_Wk 1 (pc' := 4) (loc' := [some (fI ((mj_on (fun x => mx_w cn go ch s x) (pl - 1) (mj_on (fun x => mx_w cn go ch s x) (pl - 1) (1 <<< (lr.getD ((0 + i) - 1).toNat 0).toNat)) : Nat) : Int)), some (fI (lr.getD (0 + i).toNat 0))]) (st' := [fI 1, fI (((mj_on (fun x => mx_w cn go ch s x) (pl - 1) (mj_on (fun x => mx_w cn go ch s x) (pl - 1) (1 <<< (lr.getD ((0 + i) - 1).toNat 0).toNat))) >>> (lr.getD (0 + i).toNat 0).toNat : Nat) : Int)]) (h' := h_346) (cl' := 0) (sl' := 0) rfl ?_
        refine fx_bit (n := (mj_on (fun x => mx_w cn go ch s x) (pl - 1) (mj_on (fun x => mx_w cn go ch s x) (pl - 1) (1 <<< (lr.getD ((0 + i) - 1).toNat 0).toNat)))) (k := (lr.getD (0 + i).toNat 0).toNat) rfl (fun hb19 => ?_) (fun hb19 => ?_)
        · refine ik_Wk 0 (pc' := 5) (loc' := [some (fI ((mj_on (fun x => mx_w cn go ch s x) (pl - 1) (mj_on (fun x => mx_w cn go ch s x) (pl - 1) (1 <<< (lr.getD ((0 + i) - 1).toNat 0).toNat)) : Nat) : Int)), some (fI (lr.getD (0 + i).toNat 0))]) (st' := [fI 1]) (h' := h_346) (cl' := 0) (sl' := 0) rfl ?_
          refine ik_Wk 1 (pc' := 6) (loc' := [some (fI ((mj_on (fun x => mx_w cn go ch s x) (pl - 1) (mj_on (fun x => mx_w cn go ch s x) (pl - 1) (1 <<< (lr.getD ((0 + i) - 1).toNat 0).toNat)) : Nat) : Int)), some (fI (lr.getD (0 + i).toNat 0))]) (st' := [fI 1, fI 1]) (h' := h_346) (cl' := 0) (sl' := 0) rfl ?_
          refine fw_ic_ne rfl rfl (by omega) (by omega) (by omega) (by omega) (fun hc20 => ?_) (fun hc20 => absurd hc20 (by omega))
          refine ik_Wk 2 (pc' := 14) (loc' := [some (fI ((mj_on (fun x => mx_w cn go ch s x) (pl - 1) (mj_on (fun x => mx_w cn go ch s x) (pl - 1) (1 <<< (lr.getD ((0 + i) - 1).toNat 0).toNat)) : Nat) : Int)), some (fI (lr.getD (0 + i).toNat 0))]) (st' := [fI 1]) (h' := h_346) (cl' := 0) (sl' := 0) rfl ?_
          refine ik_Wret rfl rfl ⟨_, _, rfl, rfl, ?_⟩
          refine ik_Wk 0 (pc' := 140) (loc' := [some (.ref 66), some (fI 0), some (fI i), some (fI fa), some (fI (lr.getD (0 + i).toNat 0)), some (fI ((mj_on (fun x => mx_w cn go ch s x) (pl - 1) (mj_on (fun x => mx_w cn go ch s x) (pl - 1) (1 <<< (lr.getD ((0 + i) - 1).toNat 0).toNat)) : Nat) : Int)), some (fI ka)]) (st' := [fI 1]) (h' := h_346) (cl' := 0) (sl' := 0) rfl ?_
          have et : mx_tm ka (i - fa) = 2 := by unfold mx_tm; (repeat' split) <;> omega
          have hlt : mj_oi (fun x => mx_w cn go ch s x) (pl - 1) 2 (1 <<< (lr.getD (0 + i - 1).toNat 0).toNat) < 2 ^ pl.toNat := mj_oi_lt q4 (by omega) _ _ (mj_shl_lt (by omega))
          have hG : (mj_ok (fun x => mx_w cn go ch s x) pl ka pa fa lr 0) i = true := by
            show (if i < fa then _ else if i = fa then _ else _) = _
            rw [if_neg (by omega), if_neg (by omega), et]
            exact decide_eq_true ⟨by omega, ⟨by omega, mj_tb_lt hlt hb19 (by omega)⟩, hb19⟩
          exact ik_Wret rfl rfl ⟨_, _, rfl, rfl, rfl, rfl, Or.inl ⟨w'_346, gt'_346, gd'_346, rfl, g_346_66, g_346_77, m_346_77, g_346_78, m_346_78, hG, fr_346⟩⟩
        · refine ik_Wk 0 (pc' := 5) (loc' := [some (fI ((mj_on (fun x => mx_w cn go ch s x) (pl - 1) (mj_on (fun x => mx_w cn go ch s x) (pl - 1) (1 <<< (lr.getD ((0 + i) - 1).toNat 0).toNat)) : Nat) : Int)), some (fI (lr.getD (0 + i).toNat 0))]) (st' := [fI 0]) (h' := h_346) (cl' := 0) (sl' := 0) rfl ?_
          refine ik_Wk 1 (pc' := 6) (loc' := [some (fI ((mj_on (fun x => mx_w cn go ch s x) (pl - 1) (mj_on (fun x => mx_w cn go ch s x) (pl - 1) (1 <<< (lr.getD ((0 + i) - 1).toNat 0).toNat)) : Nat) : Int)), some (fI (lr.getD (0 + i).toNat 0))]) (st' := [fI 1, fI 0]) (h' := h_346) (cl' := 0) (sl' := 0) rfl ?_
          refine fw_ic_ne rfl rfl (by omega) (by omega) (by omega) (by omega) (fun hc21 => absurd hc21 (by omega)) (fun hc21 => ?_)
          refine ik_Wk 1 (pc' := 14) (loc' := [some (fI ((mj_on (fun x => mx_w cn go ch s x) (pl - 1) (mj_on (fun x => mx_w cn go ch s x) (pl - 1) (1 <<< (lr.getD ((0 + i) - 1).toNat 0).toNat)) : Nat) : Int)), some (fI (lr.getD (0 + i).toNat 0))]) (st' := [fI 0]) (h' := h_346) (cl' := 0) (sl' := 0) rfl ?_
          refine ik_Wret rfl rfl ⟨_, _, rfl, rfl, ?_⟩
          refine ik_Wk 0 (pc' := 140) (loc' := [some (.ref 66), some (fI 0), some (fI i), some (fI fa), some (fI (lr.getD (0 + i).toNat 0)), some (fI ((mj_on (fun x => mx_w cn go ch s x) (pl - 1) (mj_on (fun x => mx_w cn go ch s x) (pl - 1) (1 <<< (lr.getD ((0 + i) - 1).toNat 0).toNat)) : Nat) : Int)), some (fI ka)]) (st' := [fI 0]) (h' := h_346) (cl' := 0) (sl' := 0) rfl ?_
          have et : mx_tm ka (i - fa) = 2 := by unfold mx_tm; (repeat' split) <;> omega
          have hlt : mj_oi (fun x => mx_w cn go ch s x) (pl - 1) 2 (1 <<< (lr.getD (0 + i - 1).toNat 0).toNat) < 2 ^ pl.toNat := mj_oi_lt q4 (by omega) _ _ (mj_shl_lt (by omega))
          have hG : (mj_ok (fun x => mx_w cn go ch s x) pl ka pa fa lr 0) i = false := by
            show (if i < fa then _ else if i = fa then _ else _) = _
            rw [if_neg (by omega), if_neg (by omega), et]
            exact decide_eq_false (fun w => absurd (w.2.2.symm.trans hb19) (by decide))
          exact ik_Wret rfl rfl ⟨_, _, rfl, rfl, rfl, rfl, Or.inr ⟨w'_346, gt'_346, gd'_346, rfl, g_346_66, g_346_77, m_346_77, g_346_78, m_346_78, hG, fr_346⟩⟩
      · refine ik_Wk 4 (pc' := 137) (loc' := [some (.ref 66), some (fI 0), some (fI i), some (fI fa), some (fI (lr.getD (0 + i).toNat 0)), some (fI ((mj_on (fun x => mx_w cn go ch s x) (pl - 1) (1 <<< (lr.getD ((0 + i) - 1).toNat 0).toNat) : Nat) : Int)), some (fI ka)]) (st' := [fI (lr.getD (0 + i).toNat 0), fI ((mj_on (fun x => mx_w cn go ch s x) (pl - 1) (1 <<< (lr.getD ((0 + i) - 1).toNat 0).toNat) : Nat) : Int)]) (h' := h_345) (cl' := 0) (sl' := 0) rfl ?_
        refine ik_Wc 128 2 3 [fI ((mj_on (fun x => mx_w cn go ch s x) (pl - 1) (1 <<< (lr.getD ((0 + i) - 1).toNat 0).toNat) : Nat) : Int), fI (lr.getD (0 + i).toNat 0)] [] rfl rfl rfl (by decide) rfl rfl (fw_sta k_345 rfl (by decide)) ?_
        refine ik_Wk 0 (pc' := 0) (loc' := [some (fI ((mj_on (fun x => mx_w cn go ch s x) (pl - 1) (1 <<< (lr.getD ((0 + i) - 1).toNat 0).toNat) : Nat) : Int)), some (fI (lr.getD (0 + i).toNat 0))]) (st' := []) (h' := h_345) (cl' := 0) (sl' := 0) rfl ?_
        refine ik_Wk 2 (pc' := 2) (loc' := [some (fI ((mj_on (fun x => mx_w cn go ch s x) (pl - 1) (1 <<< (lr.getD ((0 + i) - 1).toNat 0).toNat) : Nat) : Int)), some (fI (lr.getD (0 + i).toNat 0))]) (st' := [fI (lr.getD (0 + i).toNat 0), fI ((mj_on (fun x => mx_w cn go ch s x) (pl - 1) (1 <<< (lr.getD ((0 + i) - 1).toNat 0).toNat) : Nat) : Int)]) (h' := h_345) (cl' := 0) (sl' := 0) rfl ?_
        refine fx_shr (n := mj_on (fun x => mx_w cn go ch s x) (pl - 1) (1 <<< (lr.getD ((0 + i) - 1).toNat 0).toNat)) rfl (by omega) (by omega) (by omega) ?_
        refine ik_Wk 1 (pc' := 4) (loc' := [some (fI ((mj_on (fun x => mx_w cn go ch s x) (pl - 1) (1 <<< (lr.getD ((0 + i) - 1).toNat 0).toNat) : Nat) : Int)), some (fI (lr.getD (0 + i).toNat 0))]) (st' := [fI 1, fI (((mj_on (fun x => mx_w cn go ch s x) (pl - 1) (1 <<< (lr.getD ((0 + i) - 1).toNat 0).toNat)) >>> (lr.getD (0 + i).toNat 0).toNat : Nat) : Int)]) (h' := h_345) (cl' := 0) (sl' := 0) rfl ?_
        refine fx_bit (n := (mj_on (fun x => mx_w cn go ch s x) (pl - 1) (1 <<< (lr.getD ((0 + i) - 1).toNat 0).toNat))) (k := (lr.getD (0 + i).toNat 0).toNat) rfl (fun hb22 => ?_) (fun hb22 => ?_)
        · refine ik_Wk 0 (pc' := 5) (loc' := [some (fI ((mj_on (fun x => mx_w cn go ch s x) (pl - 1) (1 <<< (lr.getD ((0 + i) - 1).toNat 0).toNat) : Nat) : Int)), some (fI (lr.getD (0 + i).toNat 0))]) (st' := [fI 1]) (h' := h_345) (cl' := 0) (sl' := 0) rfl ?_
          refine ik_Wk 1 (pc' := 6) (loc' := [some (fI ((mj_on (fun x => mx_w cn go ch s x) (pl - 1) (1 <<< (lr.getD ((0 + i) - 1).toNat 0).toNat) : Nat) : Int)), some (fI (lr.getD (0 + i).toNat 0))]) (st' := [fI 1, fI 1]) (h' := h_345) (cl' := 0) (sl' := 0) rfl ?_
          refine fw_ic_ne rfl rfl (by omega) (by omega) (by omega) (by omega) (fun hc23 => ?_) (fun hc23 => absurd hc23 (by omega))
          refine ik_Wk 2 (pc' := 14) (loc' := [some (fI ((mj_on (fun x => mx_w cn go ch s x) (pl - 1) (1 <<< (lr.getD ((0 + i) - 1).toNat 0).toNat) : Nat) : Int)), some (fI (lr.getD (0 + i).toNat 0))]) (st' := [fI 1]) (h' := h_345) (cl' := 0) (sl' := 0) rfl ?_
          refine ik_Wret rfl rfl ⟨_, _, rfl, rfl, ?_⟩
          refine ik_Wk 0 (pc' := 140) (loc' := [some (.ref 66), some (fI 0), some (fI i), some (fI fa), some (fI (lr.getD (0 + i).toNat 0)), some (fI ((mj_on (fun x => mx_w cn go ch s x) (pl - 1) (1 <<< (lr.getD ((0 + i) - 1).toNat 0).toNat) : Nat) : Int)), some (fI ka)]) (st' := [fI 1]) (h' := h_345) (cl' := 0) (sl' := 0) rfl ?_
          have et : mx_tm ka (i - fa) = 1 := by unfold mx_tm; (repeat' split) <;> omega
          have hlt : mj_oi (fun x => mx_w cn go ch s x) (pl - 1) 1 (1 <<< (lr.getD (0 + i - 1).toNat 0).toNat) < 2 ^ pl.toNat := mj_oi_lt q4 (by omega) _ _ (mj_shl_lt (by omega))
          have hG : (mj_ok (fun x => mx_w cn go ch s x) pl ka pa fa lr 0) i = true := by
            show (if i < fa then _ else if i = fa then _ else _) = _
            rw [if_neg (by omega), if_neg (by omega), et]
            exact decide_eq_true ⟨by omega, ⟨by omega, mj_tb_lt hlt hb22 (by omega)⟩, hb22⟩
          exact ik_Wret rfl rfl ⟨_, _, rfl, rfl, rfl, rfl, Or.inl ⟨w'_345, gt'_345, gd'_345, rfl, g_345_66, g_345_77, m_345_77, g_345_78, m_345_78, hG, fr_345⟩⟩
        · refine ik_Wk 0 (pc' := 5) (loc' := [some (fI ((mj_on (fun x => mx_w cn go ch s x) (pl - 1) (1 <<< (lr.getD ((0 + i) - 1).toNat 0).toNat) : Nat) : Int)), some (fI (lr.getD (0 + i).toNat 0))]) (st' := [fI 0]) (h' := h_345) (cl' := 0) (sl' := 0) rfl ?_
          refine ik_Wk 1 (pc' := 6) (loc' := [some (fI ((mj_on (fun x => mx_w cn go ch s x) (pl - 1) (1 <<< (lr.getD ((0 + i) - 1).toNat 0).toNat) : Nat) : Int)), some (fI (lr.getD (0 + i).toNat 0))]) (st' := [fI 1, fI 0]) (h' := h_345) (cl' := 0) (sl' := 0) rfl ?_
          refine fw_ic_ne rfl rfl (by omega) (by omega) (by omega) (by omega) (fun hc24 => absurd hc24 (by omega)) (fun hc24 => ?_)
          refine ik_Wk 1 (pc' := 14) (loc' := [some (fI ((mj_on (fun x => mx_w cn go ch s x) (pl - 1) (1 <<< (lr.getD ((0 + i) - 1).toNat 0).toNat) : Nat) : Int)), some (fI (lr.getD (0 + i).toNat 0))]) (st' := [fI 0]) (h' := h_345) (cl' := 0) (sl' := 0) rfl ?_
          refine ik_Wret rfl rfl ⟨_, _, rfl, rfl, ?_⟩
          refine ik_Wk 0 (pc' := 140) (loc' := [some (.ref 66), some (fI 0), some (fI i), some (fI fa), some (fI (lr.getD (0 + i).toNat 0)), some (fI ((mj_on (fun x => mx_w cn go ch s x) (pl - 1) (1 <<< (lr.getD ((0 + i) - 1).toNat 0).toNat) : Nat) : Int)), some (fI ka)]) (st' := [fI 0]) (h' := h_345) (cl' := 0) (sl' := 0) rfl ?_
          have et : mx_tm ka (i - fa) = 1 := by unfold mx_tm; (repeat' split) <;> omega
          have hlt : mj_oi (fun x => mx_w cn go ch s x) (pl - 1) 1 (1 <<< (lr.getD (0 + i - 1).toNat 0).toNat) < 2 ^ pl.toNat := mj_oi_lt q4 (by omega) _ _ (mj_shl_lt (by omega))
          have hG : (mj_ok (fun x => mx_w cn go ch s x) pl ka pa fa lr 0) i = false := by
            show (if i < fa then _ else if i = fa then _ else _) = _
            rw [if_neg (by omega), if_neg (by omega), et]
            exact decide_eq_false (fun w => absurd (w.2.2.symm.trans hb22) (by decide))
          exact ik_Wret rfl rfl ⟨_, _, rfl, rfl, rfl, rfl, Or.inr ⟨w'_345, gt'_345, gd'_345, rfl, g_345_66, g_345_77, m_345_77, g_345_78, m_345_78, hG, fr_345⟩⟩
  · refine ik_Wk 3 (pc' := 33) (loc' := [some (.ref 66), some (fI 0), some (fI i), some (fI fa), some (fI (lr.getD (0 + i).toNat 0)), none, none]) (st' := [fI fa, fI i, fI (lr.getD (0 + i).toNat 0)]) (h' := h) (cl' := 0) (sl' := 0) rfl ?_
    refine fw_ic_ge rfl rfl (by omega) (by omega) (by omega) (by omega) (fun hc25 => ?_) (fun hc25 => ?_)
    · refine ik_Wk 1 (pc' := 42) (loc' := [some (.ref 66), some (fI 0), some (fI i), some (fI fa), some (fI (lr.getD (0 + i).toNat 0)), none, none]) (st' := [.ref 66, fI (lr.getD (0 + i).toNat 0)]) (h' := h) (cl' := 0) (sl' := 0) rfl ?_
      refine fw_gf rfl rfl h66 rfl ?_
      refine ik_Wk 2 (pc' := 47) (loc' := [some (.ref 66), some (fI 0), some (fI i), some (fI fa), some (fI (lr.getD (0 + i).toNat 0)), none, none]) (st' := [fI 0, fI 3, .ref 70, fI (lr.getD (0 + i).toNat 0)]) (h' := h) (cl' := 0) (sl' := 0) rfl ?_
      refine fw_mul rfl ?_
      refine ik_Wk 1 (pc' := 49) (loc' := [some (.ref 66), some (fI 0), some (fI i), some (fI fa), some (fI (lr.getD (0 + i).toNat 0)), none, none]) (st' := [fI 1, fI 0, .ref 70, fI (lr.getD (0 + i).toNat 0)]) (h' := h) (cl' := 0) (sl' := 0) rfl ?_
      refine fw_add rfl ?_
      refine fw_ial (z := 1) rfl h70 (by decide) (Nat.le_of_ble_eq_true rfl) (by decide) ?_
      refine ik_Wk 0 (pc' := 51) (loc' := [some (.ref 66), some (fI 0), some (fI i), some (fI fa), some (fI (lr.getD (0 + i).toNat 0)), none, none]) (st' := [fI pa, fI (lr.getD (0 + i).toNat 0)]) (h' := h) (cl' := 0) (sl' := 0) rfl ?_
      refine fw_ic_ne rfl rfl (by omega) (by omega) (by omega) (by omega) (fun hc26 => ?_) (fun hc26 => ?_)
      · refine ik_Wk 2 (pc' := 59) (loc' := [some (.ref 66), some (fI 0), some (fI i), some (fI fa), some (fI (lr.getD (0 + i).toNat 0)), none, none]) (st' := [fI 1]) (h' := h) (cl' := 0) (sl' := 0) rfl ?_
        have hG : (mj_ok (fun x => mx_w cn go ch s x) pl ka pa fa lr 0) i = true := by
          show (if i < fa then _ else if i = fa then _ else _) = _
          split
          · exact decide_eq_true (by omega)
          · first | exact decide_eq_true (by omega) | (rw [if_pos (by omega)]; exact decide_eq_true (by omega))
        exact ik_Wret rfl rfl ⟨_, _, rfl, rfl, rfl, rfl, Or.inl ⟨(f 24), gt, gd, rfl, h66, h77, n77, h78, n78, hG, (hfr_refl [66, 77, 78] h)⟩⟩
      · refine ik_Wk 1 (pc' := 59) (loc' := [some (.ref 66), some (fI 0), some (fI i), some (fI fa), some (fI (lr.getD (0 + i).toNat 0)), none, none]) (st' := [fI 0]) (h' := h) (cl' := 0) (sl' := 0) rfl ?_
        have hG : (mj_ok (fun x => mx_w cn go ch s x) pl ka pa fa lr 0) i = false := by
          show (if i < fa then _ else if i = fa then _ else _) = _
          split
          · exact decide_eq_false (by omega)
          · first | exact decide_eq_false (by omega) | (rw [if_pos (by omega)]; exact decide_eq_false (by omega))
        exact ik_Wret rfl rfl ⟨_, _, rfl, rfl, rfl, rfl, Or.inr ⟨(f 24), gt, gd, rfl, h66, h77, n77, h78, n78, hG, (hfr_refl [66, 77, 78] h)⟩⟩
    · refine fw_bi rfl (by decide) ?_
      refine ik_Wk 1 (pc' := 51) (loc' := [some (.ref 66), some (fI 0), some (fI i), some (fI fa), some (fI (lr.getD (0 + i).toNat 0)), none, none]) (st' := [fI 12, fI (lr.getD (0 + i).toNat 0)]) (h' := h) (cl' := 0) (sl' := 0) rfl ?_
      refine fw_ic_ne rfl rfl (by omega) (by omega) (by omega) (by omega) (fun hc27 => ?_) (fun hc27 => ?_)
      · refine ik_Wk 2 (pc' := 59) (loc' := [some (.ref 66), some (fI 0), some (fI i), some (fI fa), some (fI (lr.getD (0 + i).toNat 0)), none, none]) (st' := [fI 1]) (h' := h) (cl' := 0) (sl' := 0) rfl ?_
        have hG : (mj_ok (fun x => mx_w cn go ch s x) pl ka pa fa lr 0) i = true := by
          show (if i < fa then _ else if i = fa then _ else _) = _
          split
          · exact decide_eq_true (by omega)
          · first | exact decide_eq_true (by omega) | (rw [if_pos (by omega)]; exact decide_eq_true (by omega))
        exact ik_Wret rfl rfl ⟨_, _, rfl, rfl, rfl, rfl, Or.inl ⟨(f 24), gt, gd, rfl, h66, h77, n77, h78, n78, hG, (hfr_refl [66, 77, 78] h)⟩⟩
      · refine ik_Wk 1 (pc' := 59) (loc' := [some (.ref 66), some (fI 0), some (fI i), some (fI fa), some (fI (lr.getD (0 + i).toNat 0)), none, none]) (st' := [fI 0]) (h' := h) (cl' := 0) (sl' := 0) rfl ?_
        have hG : (mj_ok (fun x => mx_w cn go ch s x) pl ka pa fa lr 0) i = false := by
          show (if i < fa then _ else if i = fa then _ else _) = _
          split
          · exact decide_eq_false (by omega)
          · first | exact decide_eq_false (by omega) | (rw [if_pos (by omega)]; exact decide_eq_false (by omega))
        exact ik_Wret rfl rfl ⟨_, _, rfl, rfl, rfl, rfl, Or.inr ⟨(f 24), gt, gd, rfl, h66, h77, n77, h78, n78, hG, (hfr_refl [66, 77, 78] h)⟩⟩

theorem rp_judge0L {h : List ik_E} {pl : Int} {f : Nat → Int} {s : Nat} {cn : List Int} {go : List Int} {ch : List Int} {gt : List Int} {gd : List Int} {ka : Int} {pa : Int} {fa : Int} {kb : Int} {pb : Int} {fb : Int} {lr : List Int} {n0 : Int} {n1 : Int} (q0 : 0 ≤ pl ∧ pl ≤ 12) (q1 : s < 4096) (q2 : ∀ x : Int, 0 ≤ x → x < pl - 1 → 0 ≤ cn.getD x.toNat 0 ∧ cn.getD x.toNat 0 ≤ 4) (q3 : ∀ x : Int, 0 ≤ x → x < pl - 1 → 1 ≤ cn.getD x.toNat 0 ∧ ∀ j : Int, 4 * x ≤ j → j < 4 * x + cn.getD x.toNat 0 → 0 ≤ ch.getD j.toNat 0 ∧ ch.getD j.toNat 0 ≤ 100) (q4 : ∀ x : Int, 0 ≤ x → x < pl - 1 → mx_ok pl (mx_w cn go ch s x)) (q5 : 0 ≤ ka ∧ ka ≤ 2) (q6 : 0 ≤ pa ∧ pa ≤ 11) (q7 : 0 ≤ fa ∧ fa ≤ 30) (q8 : 0 ≤ n0 ∧ n0 ≤ 40) (q9 : ∀ j : Nat, (j : Int) < n0 → lr.getD (0 + j) 0 = 12 ∨ (0 ≤ lr.getD (0 + j) 0 ∧ lr.getD (0 + j) 0 < pl))  : ∀ (k : Nat) (i : Int) (w1 : Int) (g1 : List Int) (d1 : List Int) (u : List ik_E) (u66 : cE u 66 (.inr (10, [fI pl, .ref 67, .ref 68, .ref 69, fI ((s : Nat) : Int), .ref 70, .ref 71, fI (f 7), fI (f 8), .ref 72, fI (f 10), fI (f 11), fI (f 12), fJ (f 13), fI (f 14), fI (f 15), fI (f 16), fI (f 17), .ref 73, .ref 74, .ref 75, .ref 76, .ref 77, .ref 78, fI w1, .ref 79, .ref 80, .ref 81, .ref 82, .ref 83, .ref 84, .ref 85, fJ (f 32), fJ (f 33), .ref 86, .ref 87, fI (f 36), .ref 88, .ref 89, .ref 90, .ref 91, .ref 92, .ref 93]))) (u67 : cE u 67 (.inl (.int, fA cn))) (n67 : cn.length = 12) (u68 : cE u 68 (.inl (.int, fA go))) (n68 : go.length = 48) (u69 : cE u 69 (.inl (.int, fA ch))) (n69 : ch.length = 48) (u77 : cE u 77 (.inl (.int, fA g1))) (n77 : g1.length = 5) (u78 : cE u 78 (.inl (.int, fA d1))) (n78 : d1.length = 5) (u70 : cE u 70 (.inl (.int, fA [ka, pa, fa, kb, pb, fb]))) (u91 : cE u 91 (.inl (.int, fA lr))) (n91 : lr.length = 80) (u90 : cE u 90 (.inl (.int, fA [n0, n1]))) (ul : u.length = 94) (F : hfr [66, 77, 78] h u) (hi : 0 ≤ i ∧ i ≤ n0) (hpv : fa < i → 0 ≤ lr.getD (0 + i - 1).toNat 0 ∧ lr.getD (0 + i - 1).toNat 0 < pl) (he : mj_fw (mj_ok (fun x => mx_w cn go ch s x) pl ka pa fa lr 0) n0.toNat 0 = mj_fw (mj_ok (fun x => mx_w cn go ch s x) pl ka pa fa lr 0) (n0 - i).toNat i) (hk : n0 - i < (k : Int)), ik_G 207 12 [some (.ref 66), some (fI 0), some (fI i)] [] u (fun rv h' => ∃ (w' : Int) (gt' : List Int) (gd' : List Int), rv = [fI (mj_fw (mj_ok (fun x => mx_w cn go ch s x) pl ka pa fa lr 0) n0.toNat 0)] ∧ cE h' 66 (.inr (10, [fI pl, .ref 67, .ref 68, .ref 69, fI ((s : Nat) : Int), .ref 70, .ref 71, fI (f 7), fI (f 8), .ref 72, fI (f 10), fI (f 11), fI (f 12), fJ (f 13), fI (f 14), fI (f 15), fI (f 16), fI (f 17), .ref 73, .ref 74, .ref 75, .ref 76, .ref 77, .ref 78, fI w', .ref 79, .ref 80, .ref 81, .ref 82, .ref 83, .ref 84, .ref 85, fJ (f 32), fJ (f 33), .ref 86, .ref 87, fI (f 36), .ref 88, .ref 89, .ref 90, .ref 91, .ref 92, .ref 93])) ∧ cE h' 77 (.inl (.int, fA gt')) ∧ gt'.length = 5 ∧ cE h' 78 (.inl (.int, fA gd')) ∧ gd'.length = 5 ∧ hfr [66, 77, 78] h h') := by
  intro k
  induction k with
  | zero => intro i w1 g1 d1 u u66 u67 n67 u68 n68 u69 n69 u77 n77 u78 n78 u70 u91 n91 u90 ul F hi hpv he hk; omega
  | succ k ih =>
    intro i w1 g1 d1 u u66 u67 n67 u68 n68 u69 n69 u77 n77 u78 n78 u70 u91 n91 u90 ul F hi hpv he hk
    refine ik_Wk 2 (pc' := 14) (loc' := [some (.ref 66), some (fI 0), some (fI i)]) (st' := [.ref 66, fI i]) (h' := u) (cl' := 0) (sl' := 0) rfl ?_
    refine fw_gf rfl rfl u66 rfl ?_
    refine ik_Wk 1 (pc' := 18) (loc' := [some (.ref 66), some (fI 0), some (fI i)]) (st' := [fI 0, .ref 90, fI i]) (h' := u) (cl' := 0) (sl' := 0) rfl ?_
    refine fw_ial (z := 0) rfl u90 (by decide) (Nat.le_of_ble_eq_true rfl) (by decide) ?_
    refine ik_Wk 0 (pc' := 19) (loc' := [some (.ref 66), some (fI 0), some (fI i)]) (st' := [fI n0, fI i]) (h' := u) (cl' := 0) (sl' := 0) rfl ?_
    refine fw_ic_ge rfl rfl (by omega) (by omega) (by omega) (by omega) (fun hc1 => ?_) (fun hc1 => ?_)
    · refine ik_Wk 1 (pc' := 40) (loc' := [some (.ref 66), some (fI 0), some (fI i)]) (st' := [fI (-1)]) (h' := u) (cl' := 0) (sl' := 0) rfl ?_
      rw [show (n0 - i).toNat = 0 by omega] at he
      exact ik_Wret rfl rfl ⟨_, _, rfl, rfl, rfl, rfl, ⟨w1, g1, d1, (congrArg (fun z => [fI z]) he.symm), u66, u77, n77, u78, n78, F⟩⟩
    · refine ik_Wk 3 (pc' := 25) (loc' := [some (.ref 66), some (fI 0), some (fI i)]) (st' := [fI i, fI 0, .ref 66]) (h' := u) (cl' := 0) (sl' := 0) rfl ?_
      have hent : lr.getD (0 + i).toNat 0 = 12 ∨ (0 ≤ lr.getD (0 + i).toNat 0 ∧ lr.getD (0 + i).toNat 0 < pl) := by
        have z := q9 i.toNat (by omega)
        rw [show 0 + i.toNat = (0 + i).toNat by omega] at z
        exact z
      refine fw_call 206 3 0 [.ref 66, fI 0, fI i] [] rfl rfl rfl (by decide) rfl rfl (fw_rec ul rfl u66 rfl (by decide)) (cr_mayBe0 (pl := pl) (f := fun j => ([0, 0, 0, 0, 0, 0, 0, f 7, f 8, 0, f 10, f 11, f 12, f 13, f 14, f 15, f 16, f 17, 0, 0, 0, 0, 0, 0, w1, 0, 0, 0, 0, 0, 0, 0, f 32, f 33, 0, 0, f 36, 0, 0, 0, 0, 0, 0] : List Int).getD j 0) (s := s) (cn := cn) (go := go) (ch := ch) (gt := g1) (gd := d1) (ka := ka) (pa := pa) (fa := fa) (kb := kb) (pb := pb) (fb := fb) (lr := lr) (i := i) (by omega) (by omega) q2 q3 q4 (by omega) (by omega) (by omega) (by omega) hent hpv u66 u67 n67 u68 n68 u69 n69 u77 n77 u78 n78 u70 u91 n91 ul) ?_
      rintro _ h_347 (⟨w'_347, gt'_347, gd'_347, rfl, e_347_66, e_347_77, m_347_77, e_347_78, m_347_78, p_347_0, F_347⟩ | ⟨w'_347, gt'_347, gd'_347, rfl, e_347_66, e_347_77, m_347_77, e_347_78, m_347_78, p_347_0, F_347⟩)
      · have k_347 := F_347.1.trans ul
        have fr_347 := hfr_c F F_347 (by decide)
        have g_347_67 := (F_347.2 67 (by decide +kernel)).trans u67
        have g_347_68 := (F_347.2 68 (by decide +kernel)).trans u68
        have g_347_69 := (F_347.2 69 (by decide +kernel)).trans u69
        have g_347_70 := (F_347.2 70 (by decide +kernel)).trans u70
        have g_347_91 := (F_347.2 91 (by decide +kernel)).trans u91
        have g_347_90 := (F_347.2 90 (by decide +kernel)).trans u90
        have g_347_66 : cE h_347 66 (.inr (10, [fI pl, .ref 67, .ref 68, .ref 69, fI ((s : Nat) : Int), .ref 70, .ref 71, fI (f 7), fI (f 8), .ref 72, fI (f 10), fI (f 11), fI (f 12), fJ (f 13), fI (f 14), fI (f 15), fI (f 16), fI (f 17), .ref 73, .ref 74, .ref 75, .ref 76, .ref 77, .ref 78, fI w'_347, .ref 79, .ref 80, .ref 81, .ref 82, .ref 83, .ref 84, .ref 85, fJ (f 32), fJ (f 33), .ref 86, .ref 87, fI (f 36), .ref 88, .ref 89, .ref 90, .ref 91, .ref 92, .ref 93])) := e_347_66
        have g_347_77 : cE h_347 77 (.inl (.int, fA gt'_347)) := e_347_77
        have g_347_78 : cE h_347 78 (.inl (.int, fA gd'_347)) := e_347_78
        refine ik_Wk 0 (pc' := 28) (loc' := [some (.ref 66), some (fI 0), some (fI i)]) (st' := [fI 1]) (h' := h_347) (cl' := 0) (sl' := 0) rfl ?_
        refine fw_if_ne rfl rfl (by omega) (by omega) (fun hc2 => absurd hc2 (by omega)) (fun hc2 => ?_)
        refine fw_inc (a := i) (loc' := [some (.ref 66), some (fI 0), some (fI (i + 1))]) rfl rfl (Nat.le_of_ble_eq_true rfl) rfl ?_
        refine ik_Wk 1 (pc' := 12) (loc' := [some (.ref 66), some (fI 0), some (fI (i + 1))]) (st' := []) (h' := h_347) (cl' := 0) (sl' := 0) rfl ?_
        exact ih  (i + 1) w'_347 gt'_347 gd'_347 h_347 g_347_66 g_347_67 n67 g_347_68 n68 g_347_69 n69 g_347_77 m_347_77 g_347_78 m_347_78 g_347_70 g_347_91 n91 g_347_90 k_347 fr_347 (by omega) (fun z => by rw [show 0 + (i + 1) - 1 = 0 + i by omega]; exact mj_ok_pl p_347_0 (by omega) q6 hent) (by rw [he, mj_fw_s (by omega), p_347_0, if_pos rfl]) (by omega)
      · have k_347 := F_347.1.trans ul
        have fr_347 := hfr_c F F_347 (by decide)
        have g_347_67 := (F_347.2 67 (by decide +kernel)).trans u67
        have g_347_68 := (F_347.2 68 (by decide +kernel)).trans u68
        have g_347_69 := (F_347.2 69 (by decide +kernel)).trans u69
        have g_347_70 := (F_347.2 70 (by decide +kernel)).trans u70
        have g_347_91 := (F_347.2 91 (by decide +kernel)).trans u91
        have g_347_90 := (F_347.2 90 (by decide +kernel)).trans u90
        have g_347_66 : cE h_347 66 (.inr (10, [fI pl, .ref 67, .ref 68, .ref 69, fI ((s : Nat) : Int), .ref 70, .ref 71, fI (f 7), fI (f 8), .ref 72, fI (f 10), fI (f 11), fI (f 12), fJ (f 13), fI (f 14), fI (f 15), fI (f 16), fI (f 17), .ref 73, .ref 74, .ref 75, .ref 76, .ref 77, .ref 78, fI w'_347, .ref 79, .ref 80, .ref 81, .ref 82, .ref 83, .ref 84, .ref 85, fJ (f 32), fJ (f 33), .ref 86, .ref 87, fI (f 36), .ref 88, .ref 89, .ref 90, .ref 91, .ref 92, .ref 93])) := e_347_66
        have g_347_77 : cE h_347 77 (.inl (.int, fA gt'_347)) := e_347_77
        have g_347_78 : cE h_347 78 (.inl (.int, fA gd'_347)) := e_347_78
        refine ik_Wk 0 (pc' := 28) (loc' := [some (.ref 66), some (fI 0), some (fI i)]) (st' := [fI 0]) (h' := h_347) (cl' := 0) (sl' := 0) rfl ?_
        refine fw_if_ne rfl rfl (by omega) (by omega) (fun hc3 => ?_) (fun hc3 => absurd hc3 (by omega))
        refine ik_Wk 1 (pc' := 32) (loc' := [some (.ref 66), some (fI 0), some (fI i)]) (st' := [fI i]) (h' := h_347) (cl' := 0) (sl' := 0) rfl ?_
        exact ik_Wret rfl rfl ⟨_, _, rfl, rfl, rfl, rfl, ⟨w'_347, gt'_347, gd'_347, (congrArg (fun z => [fI z]) (by rw [he, mj_fw_s (by omega), p_347_0, if_neg (by decide)])), g_347_66, g_347_77, m_347_77, g_347_78, m_347_78, fr_347⟩⟩

theorem rp_judge0 {h : List ik_E} {pl : Int} {f : Nat → Int} {s : Nat} {cn : List Int} {go : List Int} {ch : List Int} {gt : List Int} {gd : List Int} {ka : Int} {pa : Int} {fa : Int} {kb : Int} {pb : Int} {fb : Int} {lr : List Int} {n0 : Int} {n1 : Int} (q0 : 0 ≤ pl ∧ pl ≤ 12) (q1 : s < 4096) (q2 : ∀ x : Int, 0 ≤ x → x < pl - 1 → 0 ≤ cn.getD x.toNat 0 ∧ cn.getD x.toNat 0 ≤ 4) (q3 : ∀ x : Int, 0 ≤ x → x < pl - 1 → 1 ≤ cn.getD x.toNat 0 ∧ ∀ j : Int, 4 * x ≤ j → j < 4 * x + cn.getD x.toNat 0 → 0 ≤ ch.getD j.toNat 0 ∧ ch.getD j.toNat 0 ≤ 100) (q4 : ∀ x : Int, 0 ≤ x → x < pl - 1 → mx_ok pl (mx_w cn go ch s x)) (q5 : 0 ≤ ka ∧ ka ≤ 2) (q6 : 0 ≤ pa ∧ pa ≤ 11) (q7 : 0 ≤ fa ∧ fa ≤ 30) (q8 : 0 ≤ n0 ∧ n0 ≤ 40) (q9 : ∀ j : Nat, (j : Int) < n0 → lr.getD (0 + j) 0 = 12 ∨ (0 ≤ lr.getD (0 + j) 0 ∧ lr.getD (0 + j) 0 < pl)) (h66 : cE h 66 (.inr (10, [fI pl, .ref 67, .ref 68, .ref 69, fI ((s : Nat) : Int), .ref 70, .ref 71, fI (f 7), fI (f 8), .ref 72, fI (f 10), fI (f 11), fI (f 12), fJ (f 13), fI (f 14), fI (f 15), fI (f 16), fI (f 17), .ref 73, .ref 74, .ref 75, .ref 76, .ref 77, .ref 78, fI (f 24), .ref 79, .ref 80, .ref 81, .ref 82, .ref 83, .ref 84, .ref 85, fJ (f 32), fJ (f 33), .ref 86, .ref 87, fI (f 36), .ref 88, .ref 89, .ref 90, .ref 91, .ref 92, .ref 93]))) (h67 : cE h 67 (.inl (.int, fA cn))) (n67 : cn.length = 12) (h68 : cE h 68 (.inl (.int, fA go))) (n68 : go.length = 48) (h69 : cE h 69 (.inl (.int, fA ch))) (n69 : ch.length = 48) (h77 : cE h 77 (.inl (.int, fA gt))) (n77 : gt.length = 5) (h78 : cE h 78 (.inl (.int, fA gd))) (n78 : gd.length = 5) (h70 : cE h 70 (.inl (.int, fA [ka, pa, fa, kb, pb, fb]))) (h91 : cE h 91 (.inl (.int, fA lr))) (n91 : lr.length = 80) (h90 : cE h 90 (.inl (.int, fA [n0, n1]))) (hl : h.length = 94) : ik_F 207 [.ref 66, fI 0] h (fun rv h' => ∃ (w' : Int) (gt' : List Int) (gd' : List Int), rv = [fI (mj_fw (mj_ok (fun x => mx_w cn go ch s x) pl ka pa fa lr 0) n0.toNat 0)] ∧ cE h' 66 (.inr (10, [fI pl, .ref 67, .ref 68, .ref 69, fI ((s : Nat) : Int), .ref 70, .ref 71, fI (f 7), fI (f 8), .ref 72, fI (f 10), fI (f 11), fI (f 12), fJ (f 13), fI (f 14), fI (f 15), fI (f 16), fI (f 17), .ref 73, .ref 74, .ref 75, .ref 76, .ref 77, .ref 78, fI w', .ref 79, .ref 80, .ref 81, .ref 82, .ref 83, .ref 84, .ref 85, fJ (f 32), fJ (f 33), .ref 86, .ref 87, fI (f 36), .ref 88, .ref 89, .ref 90, .ref 91, .ref 92, .ref 93])) ∧ cE h' 77 (.inl (.int, fA gt')) ∧ gt'.length = 5 ∧ cE h' 78 (.inl (.int, fA gd')) ∧ gd'.length = 5 ∧ hfr [66, 77, 78] h h') := by
  refine ik_Wk 1 (pc' := 1) (loc' := [some (.ref 66), some (fI 0), none]) (st' := [fI 0]) (h' := h) (cl' := 0) (sl' := 0) rfl ?_
  refine ik_Wc 132 1 3 [fI 0] [] rfl rfl rfl (by decide) rfl rfl (fw_sta hl rfl (by decide)) ?_
  refine ik_Wk 0 (pc' := 0) (loc' := [some (fI 0)]) (st' := []) (h' := h) (cl' := 0) (sl' := 0) rfl ?_
  refine ik_Wk 1 (pc' := 1) (loc' := [some (fI 0)]) (st' := [fI 0]) (h' := h) (cl' := 0) (sl' := 0) rfl ?_
  refine fw_i2l rfl (by omega) (by omega) ?_
  refine fw_lc (z := 0) rfl (by decide) ?_
  refine fw_lc (z := 1) rfl (by decide) ?_
  refine fw_call 127 3 3 [fJ 0, fJ 0, fJ 1] [] rfl rfl rfl (by decide) rfl rfl (fw_sta hl rfl (by decide)) (cr_in (v := 0) (a := 0) (b := 1) (by omega) (by omega) (by omega)  hl) ?_
  rintro _ h_348 (⟨rfl, p_348_0, F_348⟩ | ⟨rfl, p_348_0, F_348⟩)
  · have k_348 := F_348.1.trans hl
    have fr_348 := hfr_c (hfr_refl [66, 77, 78] h) F_348 (by decide)
    have g_348_66 := (F_348.2 66 (by decide +kernel)).trans h66
    have g_348_67 := (F_348.2 67 (by decide +kernel)).trans h67
    have g_348_68 := (F_348.2 68 (by decide +kernel)).trans h68
    have g_348_69 := (F_348.2 69 (by decide +kernel)).trans h69
    have g_348_77 := (F_348.2 77 (by decide +kernel)).trans h77
    have g_348_78 := (F_348.2 78 (by decide +kernel)).trans h78
    have g_348_70 := (F_348.2 70 (by decide +kernel)).trans h70
    have g_348_91 := (F_348.2 91 (by decide +kernel)).trans h91
    have g_348_90 := (F_348.2 90 (by decide +kernel)).trans h90
    refine ik_Wk 0 (pc' := 7) (loc' := [some (fI 0)]) (st' := [fI 1]) (h' := h_348) (cl' := 0) (sl' := 0) rfl ?_
    refine ik_Wret rfl rfl ⟨_, _, rfl, rfl, ?_⟩
    refine ik_Wk 0 (pc' := 4) (loc' := [some (.ref 66), some (fI 0), none]) (st' := [fI 1]) (h' := h_348) (cl' := 0) (sl' := 0) rfl ?_
    refine fw_if_ne rfl rfl (by omega) (by omega) (fun hc1 => absurd hc1 (by omega)) (fun hc1 => ?_)
    refine ik_Wk 2 (pc' := 12) (loc' := [some (.ref 66), some (fI 0), some (fI 0)]) (st' := []) (h' := h_348) (cl' := 0) (sl' := 0) rfl ?_
    exact rp_judge0L (pl := pl) (f := f) (s := s) (cn := cn) (go := go) (ch := ch) (gt := gt) (gd := gd) (ka := ka) (pa := pa) (fa := fa) (kb := kb) (pb := pb) (fb := fb) (lr := lr) (n0 := n0) (n1 := n1) q0 q1 q2 q3 q4 q5 q6 q7 q8 q9  (n0.toNat + 1) 0 (f 24) gt gd h_348 g_348_66 g_348_67 n67 g_348_68 n68 g_348_69 n69 g_348_77 n77 g_348_78 n78 g_348_70 g_348_91 n91 g_348_90 k_348 fr_348 (by omega) (by omega) (by rw [Int.sub_zero]) (by omega)
  · have k_348 := F_348.1.trans hl
    have fr_348 := hfr_c (hfr_refl [66, 77, 78] h) F_348 (by decide)
    have g_348_66 := (F_348.2 66 (by decide +kernel)).trans h66
    have g_348_67 := (F_348.2 67 (by decide +kernel)).trans h67
    have g_348_68 := (F_348.2 68 (by decide +kernel)).trans h68
    have g_348_69 := (F_348.2 69 (by decide +kernel)).trans h69
    have g_348_77 := (F_348.2 77 (by decide +kernel)).trans h77
    have g_348_78 := (F_348.2 78 (by decide +kernel)).trans h78
    have g_348_70 := (F_348.2 70 (by decide +kernel)).trans h70
    have g_348_91 := (F_348.2 91 (by decide +kernel)).trans h91
    have g_348_90 := (F_348.2 90 (by decide +kernel)).trans h90
    refine ik_Wk 0 (pc' := 7) (loc' := [some (fI 0)]) (st' := [fI 0]) (h' := h_348) (cl' := 0) (sl' := 0) rfl ?_
    refine ik_Wret rfl rfl ⟨_, _, rfl, rfl, ?_⟩
    refine ik_Wk 0 (pc' := 4) (loc' := [some (.ref 66), some (fI 0), none]) (st' := [fI 0]) (h' := h_348) (cl' := 0) (sl' := 0) rfl ?_
    refine fw_if_ne rfl rfl (by omega) (by omega) (fun hc2 => ?_) (fun hc2 => absurd hc2 (by omega))
    refine fw_ld (-1000000001) rfl rfl (by decide) ?_
    omega

theorem cr_mayBe1 {h : List ik_E} {pl : Int} {f : Nat → Int} {s : Nat} {cn : List Int} {go : List Int} {ch : List Int} {gt : List Int} {gd : List Int} {ka : Int} {pa : Int} {fa : Int} {kb : Int} {pb : Int} {fb : Int} {lr : List Int} {i : Int} (q0 : 0 ≤ pl ∧ pl ≤ 12) (q1 : s < 4096) (q2 : ∀ x : Int, 0 ≤ x → x < pl - 1 → 0 ≤ cn.getD x.toNat 0 ∧ cn.getD x.toNat 0 ≤ 4) (q3 : ∀ x : Int, 0 ≤ x → x < pl - 1 → 1 ≤ cn.getD x.toNat 0 ∧ ∀ j : Int, 4 * x ≤ j → j < 4 * x + cn.getD x.toNat 0 → 0 ≤ ch.getD j.toNat 0 ∧ ch.getD j.toNat 0 ≤ 100) (q4 : ∀ x : Int, 0 ≤ x → x < pl - 1 → mx_ok pl (mx_w cn go ch s x)) (q5 : 0 ≤ kb ∧ kb ≤ 2) (q6 : 0 ≤ pb ∧ pb ≤ 11) (q7 : 0 ≤ fb ∧ fb ≤ 30) (q8 : 0 ≤ i ∧ i < 40) (q9 : lr.getD (40 + i).toNat 0 = 12 ∨ (0 ≤ lr.getD (40 + i).toNat 0 ∧ lr.getD (40 + i).toNat 0 < pl)) (q10 : fb < i → 0 ≤ lr.getD (40 + i - 1).toNat 0 ∧ lr.getD (40 + i - 1).toNat 0 < pl) (h66 : cE h 66 (.inr (10, [fI pl, .ref 67, .ref 68, .ref 69, fI ((s : Nat) : Int), .ref 70, .ref 71, fI (f 7), fI (f 8), .ref 72, fI (f 10), fI (f 11), fI (f 12), fJ (f 13), fI (f 14), fI (f 15), fI (f 16), fI (f 17), .ref 73, .ref 74, .ref 75, .ref 76, .ref 77, .ref 78, fI (f 24), .ref 79, .ref 80, .ref 81, .ref 82, .ref 83, .ref 84, .ref 85, fJ (f 32), fJ (f 33), .ref 86, .ref 87, fI (f 36), .ref 88, .ref 89, .ref 90, .ref 91, .ref 92, .ref 93]))) (h67 : cE h 67 (.inl (.int, fA cn))) (n67 : cn.length = 12) (h68 : cE h 68 (.inl (.int, fA go))) (n68 : go.length = 48) (h69 : cE h 69 (.inl (.int, fA ch))) (n69 : ch.length = 48) (h77 : cE h 77 (.inl (.int, fA gt))) (n77 : gt.length = 5) (h78 : cE h 78 (.inl (.int, fA gd))) (n78 : gd.length = 5) (h70 : cE h 70 (.inl (.int, fA [ka, pa, fa, kb, pb, fb]))) (h91 : cE h 91 (.inl (.int, fA lr))) (n91 : lr.length = 80) (hl : h.length = 94) : ik_F 206 [.ref 66, fI 1, fI i] h (fun rv h' => (∃ (w' : Int) (gt' : List Int) (gd' : List Int), rv = [fI 1] ∧ cE h' 66 (.inr (10, [fI pl, .ref 67, .ref 68, .ref 69, fI ((s : Nat) : Int), .ref 70, .ref 71, fI (f 7), fI (f 8), .ref 72, fI (f 10), fI (f 11), fI (f 12), fJ (f 13), fI (f 14), fI (f 15), fI (f 16), fI (f 17), .ref 73, .ref 74, .ref 75, .ref 76, .ref 77, .ref 78, fI w', .ref 79, .ref 80, .ref 81, .ref 82, .ref 83, .ref 84, .ref 85, fJ (f 32), fJ (f 33), .ref 86, .ref 87, fI (f 36), .ref 88, .ref 89, .ref 90, .ref 91, .ref 92, .ref 93])) ∧ cE h' 77 (.inl (.int, fA gt')) ∧ gt'.length = 5 ∧ cE h' 78 (.inl (.int, fA gd')) ∧ gd'.length = 5 ∧ ((mj_ok (fun x => mx_w cn go ch s x) pl kb pb fb lr 40) i = true) ∧ hfr [66, 77, 78] h h') ∨ (∃ (w' : Int) (gt' : List Int) (gd' : List Int), rv = [fI 0] ∧ cE h' 66 (.inr (10, [fI pl, .ref 67, .ref 68, .ref 69, fI ((s : Nat) : Int), .ref 70, .ref 71, fI (f 7), fI (f 8), .ref 72, fI (f 10), fI (f 11), fI (f 12), fJ (f 13), fI (f 14), fI (f 15), fI (f 16), fI (f 17), .ref 73, .ref 74, .ref 75, .ref 76, .ref 77, .ref 78, fI w', .ref 79, .ref 80, .ref 81, .ref 82, .ref 83, .ref 84, .ref 85, fJ (f 32), fJ (f 33), .ref 86, .ref 87, fI (f 36), .ref 88, .ref 89, .ref 90, .ref 91, .ref 92, .ref 93])) ∧ cE h' 77 (.inl (.int, fA gt')) ∧ gt'.length = 5 ∧ cE h' 78 (.inl (.int, fA gd')) ∧ gd'.length = 5 ∧ ((mj_ok (fun x => mx_w cn go ch s x) pl kb pb fb lr 40) i = false) ∧ hfr [66, 77, 78] h h')) := by
  refine ik_Wk 1 (pc' := 1) (loc' := [some (.ref 66), some (fI 1), some (fI i), none, none, none, none]) (st' := [.ref 66]) (h' := h) (cl' := 0) (sl' := 0) rfl ?_
  refine fw_gf rfl rfl h66 rfl ?_
  refine ik_Wk 2 (pc' := 6) (loc' := [some (.ref 66), some (fI 1), some (fI i), none, none, none, none]) (st' := [fI 1, fI 3, .ref 70]) (h' := h) (cl' := 0) (sl' := 0) rfl ?_
  refine fw_mul rfl ?_
  refine ik_Wk 1 (pc' := 8) (loc' := [some (.ref 66), some (fI 1), some (fI i), none, none, none, none]) (st' := [fI 2, fI 3, .ref 70]) (h' := h) (cl' := 0) (sl' := 0) rfl ?_
  refine fw_add rfl ?_
  refine fw_ial (z := 5) rfl h70 (by decide) (Nat.le_of_ble_eq_true rfl) (by decide) ?_
  refine ik_Wk 0 (pc' := 10) (loc' := [some (.ref 66), some (fI 1), some (fI i), none, none, none, none]) (st' := [fI fb]) (h' := h) (cl' := 0) (sl' := 0) rfl ?_
  refine ik_Wk 2 (pc' := 12) (loc' := [some (.ref 66), some (fI 1), some (fI i), some (fI fb), none, none, none]) (st' := [.ref 66]) (h' := h) (cl' := 0) (sl' := 0) rfl ?_
  refine fw_gf rfl rfl h66 rfl ?_
  refine fw_bi rfl (by decide) ?_
  refine ik_Wk 1 (pc' := 18) (loc' := [some (.ref 66), some (fI 1), some (fI i), some (fI fb), none, none, none]) (st' := [fI 1, fI 40, .ref 91]) (h' := h) (cl' := 0) (sl' := 0) rfl ?_
  refine fw_mul rfl ?_
  refine ik_Wk 1 (pc' := 20) (loc' := [some (.ref 66), some (fI 1), some (fI i), some (fI fb), none, none, none]) (st' := [fI i, fI 40, .ref 91]) (h' := h) (cl' := 0) (sl' := 0) rfl ?_
  refine fw_add rfl ?_
  refine fw_ial rfl h91 (by omega) (by omega) (by omega) ?_
  refine ik_Wk 3 (pc' := 26) (loc' := [some (.ref 66), some (fI 1), some (fI i), some (fI fb), some (fI (lr.getD (40 + i).toNat 0)), none, none]) (st' := [fI fb, fI i]) (h' := h) (cl' := 0) (sl' := 0) rfl ?_
  refine fw_ic_gt rfl rfl (by omega) (by omega) (by omega) (by omega) (fun hc1 => ?_) (fun hc1 => ?_)
  · refine ik_Wk 2 (pc' := 62) (loc' := [some (.ref 66), some (fI 1), some (fI i), some (fI fb), some (fI (lr.getD (40 + i).toNat 0)), none, none]) (st' := [.ref 66, fI 1]) (h' := h) (cl' := 0) (sl' := 0) rfl ?_
    refine fw_gf rfl rfl h66 rfl ?_
    refine fw_bi rfl (by decide) ?_
    refine ik_Wk 1 (pc' := 68) (loc' := [some (.ref 66), some (fI 1), some (fI i), some (fI fb), some (fI (lr.getD (40 + i).toNat 0)), none, none]) (st' := [fI 1, fI 40, .ref 91, fI 1]) (h' := h) (cl' := 0) (sl' := 0) rfl ?_
    refine fw_mul rfl ?_
    refine ik_Wk 1 (pc' := 70) (loc' := [some (.ref 66), some (fI 1), some (fI i), some (fI fb), some (fI (lr.getD (40 + i).toNat 0)), none, none]) (st' := [fI i, fI 40, .ref 91, fI 1]) (h' := h) (cl' := 0) (sl' := 0) rfl ?_
    refine fw_add rfl ?_
    refine ik_Wk 1 (pc' := 72) (loc' := [some (.ref 66), some (fI 1), some (fI i), some (fI fb), some (fI (lr.getD (40 + i).toNat 0)), none, none]) (st' := [fI 1, fI (40 + i), .ref 91, fI 1]) (h' := h) (cl' := 0) (sl' := 0) rfl ?_
    refine fw_sub rfl ?_
    refine fw_ial rfl h91 (by omega) (by omega) (by omega) ?_
    refine fx_shl rfl (by omega) (by omega) ?_
    refine ik_Wk 2 (pc' := 78) (loc' := [some (.ref 66), some (fI 1), some (fI i), some (fI fb), some (fI (lr.getD (40 + i).toNat 0)), some (fI ((1 <<< (lr.getD ((40 + i) - 1).toNat 0).toNat : Nat) : Int)), none]) (st' := [.ref 66]) (h' := h) (cl' := 0) (sl' := 0) rfl ?_
    refine fw_gf rfl rfl h66 rfl ?_
    refine ik_Wk 2 (pc' := 83) (loc' := [some (.ref 66), some (fI 1), some (fI i), some (fI fb), some (fI (lr.getD (40 + i).toNat 0)), some (fI ((1 <<< (lr.getD ((40 + i) - 1).toNat 0).toNat : Nat) : Int)), none]) (st' := [fI 1, fI 3, .ref 70]) (h' := h) (cl' := 0) (sl' := 0) rfl ?_
    refine fw_mul rfl ?_
    refine fw_ial (z := 3) rfl h70 (by decide) (Nat.le_of_ble_eq_true rfl) (by decide) ?_
    refine ik_Wk 0 (pc' := 85) (loc' := [some (.ref 66), some (fI 1), some (fI i), some (fI fb), some (fI (lr.getD (40 + i).toNat 0)), some (fI ((1 <<< (lr.getD ((40 + i) - 1).toNat 0).toNat : Nat) : Int)), none]) (st' := [fI kb]) (h' := h) (cl' := 0) (sl' := 0) rfl ?_
    refine ik_Wk 3 (pc' := 90) (loc' := [some (.ref 66), some (fI 1), some (fI i), some (fI fb), some (fI (lr.getD (40 + i).toNat 0)), some (fI ((1 <<< (lr.getD ((40 + i) - 1).toNat 0).toNat : Nat) : Int)), some (fI kb)]) (st' := [fI 2, fI kb]) (h' := h) (cl' := 0) (sl' := 0) rfl ?_
    have hB0 : 1 <<< (lr.getD (40 + i - 1).toNat 0).toNat < 4096 := mj_12 (pl := pl) (mj_shl_lt (by omega)) (by omega)
    refine fw_ic_ne rfl rfl (by omega) (by omega) (by omega) (by omega) (fun hc2 => ?_) (fun hc2 => ?_)
    · refine ik_Wk 2 (pc' := 95) (loc' := [some (.ref 66), some (fI 1), some (fI i), some (fI fb), some (fI (lr.getD (40 + i).toNat 0)), some (fI ((1 <<< (lr.getD ((40 + i) - 1).toNat 0).toNat : Nat) : Int)), some (fI kb)]) (st' := [fI fb, fI i]) (h' := h) (cl' := 0) (sl' := 0) rfl ?_
      refine fw_sub rfl ?_
      refine ik_Wk 1 (pc' := 97) (loc' := [some (.ref 66), some (fI 1), some (fI i), some (fI fb), some (fI (lr.getD (40 + i).toNat 0)), some (fI ((1 <<< (lr.getD ((40 + i) - 1).toNat 0).toNat : Nat) : Int)), some (fI kb)]) (st' := [fI 2, fI (i - fb)]) (h' := h) (cl' := 0) (sl' := 0) rfl ?_
      refine fx_irem rfl (by omega) (by omega) (by omega) (by omega) ?_
      refine fw_if_ne rfl rfl (by omega) (by omega) (fun hc3 => ?_) (fun hc3 => ?_)
      · refine ik_Wk 2 (pc' := 104) (loc' := [some (.ref 66), some (fI 1), some (fI i), some (fI fb), some (fI (lr.getD (40 + i).toNat 0)), some (fI ((1 <<< (lr.getD ((40 + i) - 1).toNat 0).toNat : Nat) : Int)), some (fI kb)]) (st' := [fI ((1 <<< (lr.getD ((40 + i) - 1).toNat 0).toNat : Nat) : Int), .ref 66]) (h' := h) (cl' := 0) (sl' := 0) rfl ?_
        refine fw_call 205 2 0 [.ref 66, fI ((1 <<< (lr.getD ((40 + i) - 1).toNat 0).toNat : Nat) : Int)] [] rfl rfl rfl (by decide) rfl rfl (fw_rec hl rfl h66 rfl (by decide)) (cr_onFrom (pl := pl) (f := fun j => ([0, 0, 0, 0, 0, 0, 0, f 7, f 8, 0, f 10, f 11, f 12, f 13, f 14, f 15, f 16, f 17, 0, 0, 0, 0, 0, 0, f 24, 0, 0, 0, 0, 0, 0, 0, f 32, f 33, 0, 0, f 36, 0, 0, 0, 0, 0, 0] : List Int).getD j 0) (s := s) (B := 1 <<< (lr.getD ((40 + i) - 1).toNat 0).toNat) (cn := cn) (go := go) (ch := ch) (gt := gt) (gd := gd) (by omega) (by omega) q2 q3 q4 hB0 h66 h67 n67 h68 n68 h69 n69 h77 n77 h78 n78 hl) ?_
        rintro _ h_349 ⟨w'_349, gt'_349, gd'_349, rfl, e_349_66, e_349_77, m_349_77, e_349_78, m_349_78, F_349⟩
        have k_349 := F_349.1.trans hl
        have fr_349 := hfr_c (hfr_refl [66, 77, 78] h) F_349 (by decide)
        have g_349_67 := (F_349.2 67 (by decide +kernel)).trans h67
        have g_349_68 := (F_349.2 68 (by decide +kernel)).trans h68
        have g_349_69 := (F_349.2 69 (by decide +kernel)).trans h69
        have g_349_70 := (F_349.2 70 (by decide +kernel)).trans h70
        have g_349_91 := (F_349.2 91 (by decide +kernel)).trans h91
        have g_349_66 : cE h_349 66 (.inr (10, [fI pl, .ref 67, .ref 68, .ref 69, fI ((s : Nat) : Int), .ref 70, .ref 71, fI (f 7), fI (f 8), .ref 72, fI (f 10), fI (f 11), fI (f 12), fJ (f 13), fI (f 14), fI (f 15), fI (f 16), fI (f 17), .ref 73, .ref 74, .ref 75, .ref 76, .ref 77, .ref 78, fI w'_349, .ref 79, .ref 80, .ref 81, .ref 82, .ref 83, .ref 84, .ref 85, fJ (f 32), fJ (f 33), .ref 86, .ref 87, fI (f 36), .ref 88, .ref 89, .ref 90, .ref 91, .ref 92, .ref 93])) := e_349_66
        have g_349_77 : cE h_349 77 (.inl (.int, fA gt'_349)) := e_349_77
        have g_349_78 : cE h_349 78 (.inl (.int, fA gd'_349)) := e_349_78
        refine ik_Wk 0 (pc' := 107) (loc' := [some (.ref 66), some (fI 1), some (fI i), some (fI fb), some (fI (lr.getD (40 + i).toNat 0)), some (fI ((1 <<< (lr.getD ((40 + i) - 1).toNat 0).toNat : Nat) : Int)), some (fI kb)]) (st' := [fI ((mj_on (fun x => mx_w cn go ch s x) (pl - 1) (1 <<< (lr.getD ((40 + i) - 1).toNat 0).toNat) : Nat) : Int)]) (h' := h_349) (cl' := 0) (sl' := 0) rfl ?_
        have hB1 := mj_12 (mj_on_lt (W := (fun x => mx_w cn go ch s x)) (pl := pl) q4 (by omega) (1 <<< (lr.getD ((40 + i) - 1).toNat 0).toNat)) (by omega)
        refine ik_Wk 4 (pc' := 117) (loc' := [some (.ref 66), some (fI 1), some (fI i), some (fI fb), some (fI (lr.getD (40 + i).toNat 0)), some (fI ((mj_on (fun x => mx_w cn go ch s x) (pl - 1) (1 <<< (lr.getD ((40 + i) - 1).toNat 0).toNat) : Nat) : Int)), some (fI kb)]) (st' := [fI 1, fI kb]) (h' := h_349) (cl' := 0) (sl' := 0) rfl ?_
        refine fw_ic_ne rfl rfl (by omega) (by omega) (by omega) (by omega) (fun hc4 => ?_) (fun hc4 => ?_)
        · refine ik_Wk 2 (pc' := 123) (loc' := [some (.ref 66), some (fI 1), some (fI i), some (fI fb), some (fI (lr.getD (40 + i).toNat 0)), some (fI ((mj_on (fun x => mx_w cn go ch s x) (pl - 1) (1 <<< (lr.getD ((40 + i) - 1).toNat 0).toNat) : Nat) : Int)), some (fI kb)]) (st' := [fI ((mj_on (fun x => mx_w cn go ch s x) (pl - 1) (1 <<< (lr.getD ((40 + i) - 1).toNat 0).toNat) : Nat) : Int), .ref 66]) (h' := h_349) (cl' := 0) (sl' := 0) rfl ?_
          refine fw_call 205 2 0 [.ref 66, fI ((mj_on (fun x => mx_w cn go ch s x) (pl - 1) (1 <<< (lr.getD ((40 + i) - 1).toNat 0).toNat) : Nat) : Int)] [] rfl rfl rfl (by decide) rfl rfl (fw_rec k_349 rfl g_349_66 rfl (by decide)) (cr_onFrom (pl := pl) (f := fun j => ([0, 0, 0, 0, 0, 0, 0, (f 7), (f 8), 0, (f 10), (f 11), (f 12), (f 13), (f 14), (f 15), (f 16), (f 17), 0, 0, 0, 0, 0, 0, w'_349, 0, 0, 0, 0, 0, 0, 0, (f 32), (f 33), 0, 0, (f 36), 0, 0, 0, 0, 0, 0] : List Int).getD j 0) (s := s) (B := mj_on (fun x => mx_w cn go ch s x) (pl - 1) (1 <<< (lr.getD ((40 + i) - 1).toNat 0).toNat)) (cn := cn) (go := go) (ch := ch) (gt := gt'_349) (gd := gd'_349) (by omega) (by omega) q2 q3 q4 hB1 g_349_66 g_349_67 n67 g_349_68 n68 g_349_69 n69 g_349_77 m_349_77 g_349_78 m_349_78 k_349) ?_
          rintro _ h_350 ⟨w'_350, gt'_350, gd'_350, rfl, e_350_66, e_350_77, m_350_77, e_350_78, m_350_78, F_350⟩
          have k_350 := F_350.1.trans k_349
          have fr_350 := hfr_c fr_349 F_350 (by decide)
          have g_350_67 := (F_350.2 67 (by decide +kernel)).trans g_349_67
          have g_350_68 := (F_350.2 68 (by decide +kernel)).trans g_349_68
          have g_350_69 := (F_350.2 69 (by decide +kernel)).trans g_349_69
          have g_350_70 := (F_350.2 70 (by decide +kernel)).trans g_349_70
          have g_350_91 := (F_350.2 91 (by decide +kernel)).trans g_349_91
          have g_350_66 : cE h_350 66 (.inr (10, [fI pl, .ref 67, .ref 68, .ref 69, fI ((s : Nat) : Int), .ref 70, .ref 71, fI (f 7), fI (f 8), .ref 72, fI (f 10), fI (f 11), fI (f 12), fJ (f 13), fI (f 14), fI (f 15), fI (f 16), fI (f 17), .ref 73, .ref 74, .ref 75, .ref 76, .ref 77, .ref 78, fI w'_350, .ref 79, .ref 80, .ref 81, .ref 82, .ref 83, .ref 84, .ref 85, fJ (f 32), fJ (f 33), .ref 86, .ref 87, fI (f 36), .ref 88, .ref 89, .ref 90, .ref 91, .ref 92, .ref 93])) := e_350_66
          have g_350_77 : cE h_350 77 (.inl (.int, fA gt'_350)) := e_350_77
          have g_350_78 : cE h_350 78 (.inl (.int, fA gd'_350)) := e_350_78
          refine ik_Wk 0 (pc' := 126) (loc' := [some (.ref 66), some (fI 1), some (fI i), some (fI fb), some (fI (lr.getD (40 + i).toNat 0)), some (fI ((mj_on (fun x => mx_w cn go ch s x) (pl - 1) (1 <<< (lr.getD ((40 + i) - 1).toNat 0).toNat) : Nat) : Int)), some (fI kb)]) (st' := [fI ((mj_on (fun x => mx_w cn go ch s x) (pl - 1) (mj_on (fun x => mx_w cn go ch s x) (pl - 1) (1 <<< (lr.getD ((40 + i) - 1).toNat 0).toNat)) : Nat) : Int)]) (h' := h_350) (cl' := 0) (sl' := 0) rfl ?_
          have hB2 := mj_12 (mj_on_lt (W := (fun x => mx_w cn go ch s x)) (pl := pl) q4 (by omega) (mj_on (fun x => mx_w cn go ch s x) (pl - 1) (1 <<< (lr.getD ((40 + i) - 1).toNat 0).toNat))) (by omega)
          refine ik_Wk 4 (pc' := 137) (loc' := [some (.ref 66), some (fI 1), some (fI i), some (fI fb), some (fI (lr.getD (40 + i).toNat 0)), some (fI ((mj_on (fun x => mx_w cn go ch s x) (pl - 1) (mj_on (fun x => mx_w cn go ch s x) (pl - 1) (1 <<< (lr.getD ((40 + i) - 1).toNat 0).toNat)) : Nat) : Int)), some (fI kb)]) (st' := [fI (lr.getD (40 + i).toNat 0), fI ((mj_on (fun x => mx_w cn go ch s x) (pl - 1) (mj_on (fun x => mx_w cn go ch s x) (pl - 1) (1 <<< (lr.getD ((40 + i) - 1).toNat 0).toNat)) : Nat) : Int)]) (h' := h_350) (cl' := 0) (sl' := 0) rfl ?_
          refine ik_Wc 128 2 3 [fI ((mj_on (fun x => mx_w cn go ch s x) (pl - 1) (mj_on (fun x => mx_w cn go ch s x) (pl - 1) (1 <<< (lr.getD ((40 + i) - 1).toNat 0).toNat)) : Nat) : Int), fI (lr.getD (40 + i).toNat 0)] [] rfl rfl rfl (by decide) rfl rfl (fw_sta k_350 rfl (by decide)) ?_
          refine ik_Wk 0 (pc' := 0) (loc' := [some (fI ((mj_on (fun x => mx_w cn go ch s x) (pl - 1) (mj_on (fun x => mx_w cn go ch s x) (pl - 1) (1 <<< (lr.getD ((40 + i) - 1).toNat 0).toNat)) : Nat) : Int)), some (fI (lr.getD (40 + i).toNat 0))]) (st' := []) (h' := h_350) (cl' := 0) (sl' := 0) rfl ?_
          refine ik_Wk 2 (pc' := 2) (loc' := [some (fI ((mj_on (fun x => mx_w cn go ch s x) (pl - 1) (mj_on (fun x => mx_w cn go ch s x) (pl - 1) (1 <<< (lr.getD ((40 + i) - 1).toNat 0).toNat)) : Nat) : Int)), some (fI (lr.getD (40 + i).toNat 0))]) (st' := [fI (lr.getD (40 + i).toNat 0), fI ((mj_on (fun x => mx_w cn go ch s x) (pl - 1) (mj_on (fun x => mx_w cn go ch s x) (pl - 1) (1 <<< (lr.getD ((40 + i) - 1).toNat 0).toNat)) : Nat) : Int)]) (h' := h_350) (cl' := 0) (sl' := 0) rfl ?_
          refine fx_shr (n := mj_on (fun x => mx_w cn go ch s x) (pl - 1) (mj_on (fun x => mx_w cn go ch s x) (pl - 1) (1 <<< (lr.getD ((40 + i) - 1).toNat 0).toNat))) rfl (by omega) (by omega) (by omega) ?_
          refine ik_Wk 1 (pc' := 4) (loc' := [some (fI ((mj_on (fun x => mx_w cn go ch s x) (pl - 1) (mj_on (fun x => mx_w cn go ch s x) (pl - 1) (1 <<< (lr.getD ((40 + i) - 1).toNat 0).toNat)) : Nat) : Int)), some (fI (lr.getD (40 + i).toNat 0))]) (st' := [fI 1, fI (((mj_on (fun x => mx_w cn go ch s x) (pl - 1) (mj_on (fun x => mx_w cn go ch s x) (pl - 1) (1 <<< (lr.getD ((40 + i) - 1).toNat 0).toNat))) >>> (lr.getD (40 + i).toNat 0).toNat : Nat) : Int)]) (h' := h_350) (cl' := 0) (sl' := 0) rfl ?_
          refine fx_bit (n := (mj_on (fun x => mx_w cn go ch s x) (pl - 1) (mj_on (fun x => mx_w cn go ch s x) (pl - 1) (1 <<< (lr.getD ((40 + i) - 1).toNat 0).toNat)))) (k := (lr.getD (40 + i).toNat 0).toNat) rfl (fun hb5 => ?_) (fun hb5 => ?_)
          · refine ik_Wk 0 (pc' := 5) (loc' := [some (fI ((mj_on (fun x => mx_w cn go ch s x) (pl - 1) (mj_on (fun x => mx_w cn go ch s x) (pl - 1) (1 <<< (lr.getD ((40 + i) - 1).toNat 0).toNat)) : Nat) : Int)), some (fI (lr.getD (40 + i).toNat 0))]) (st' := [fI 1]) (h' := h_350) (cl' := 0) (sl' := 0) rfl ?_
            refine ik_Wk 1 (pc' := 6) (loc' := [some (fI ((mj_on (fun x => mx_w cn go ch s x) (pl - 1) (mj_on (fun x => mx_w cn go ch s x) (pl - 1) (1 <<< (lr.getD ((40 + i) - 1).toNat 0).toNat)) : Nat) : Int)), some (fI (lr.getD (40 + i).toNat 0))]) (st' := [fI 1, fI 1]) (h' := h_350) (cl' := 0) (sl' := 0) rfl ?_
            refine fw_ic_ne rfl rfl (by omega) (by omega) (by omega) (by omega) (fun hc6 => ?_) (fun hc6 => absurd hc6 (by omega))
            refine ik_Wk 2 (pc' := 14) (loc' := [some (fI ((mj_on (fun x => mx_w cn go ch s x) (pl - 1) (mj_on (fun x => mx_w cn go ch s x) (pl - 1) (1 <<< (lr.getD ((40 + i) - 1).toNat 0).toNat)) : Nat) : Int)), some (fI (lr.getD (40 + i).toNat 0))]) (st' := [fI 1]) (h' := h_350) (cl' := 0) (sl' := 0) rfl ?_
            refine ik_Wret rfl rfl ⟨_, _, rfl, rfl, ?_⟩
            refine ik_Wk 0 (pc' := 140) (loc' := [some (.ref 66), some (fI 1), some (fI i), some (fI fb), some (fI (lr.getD (40 + i).toNat 0)), some (fI ((mj_on (fun x => mx_w cn go ch s x) (pl - 1) (mj_on (fun x => mx_w cn go ch s x) (pl - 1) (1 <<< (lr.getD ((40 + i) - 1).toNat 0).toNat)) : Nat) : Int)), some (fI kb)]) (st' := [fI 1]) (h' := h_350) (cl' := 0) (sl' := 0) rfl ?_
            have et : mx_tm kb (i - fb) = 2 := by unfold mx_tm; (repeat' split) <;> omega
            have hlt : mj_oi (fun x => mx_w cn go ch s x) (pl - 1) 2 (1 <<< (lr.getD (40 + i - 1).toNat 0).toNat) < 2 ^ pl.toNat := mj_oi_lt q4 (by omega) _ _ (mj_shl_lt (by omega))
            have hG : (mj_ok (fun x => mx_w cn go ch s x) pl kb pb fb lr 40) i = true := by
              show (if i < fb then _ else if i = fb then _ else _) = _
              rw [if_neg (by omega), if_neg (by omega), et]
              exact decide_eq_true ⟨by omega, ⟨by omega, mj_tb_lt hlt hb5 (by omega)⟩, hb5⟩
            exact ik_Wret rfl rfl ⟨_, _, rfl, rfl, rfl, rfl, Or.inl ⟨w'_350, gt'_350, gd'_350, rfl, g_350_66, g_350_77, m_350_77, g_350_78, m_350_78, hG, fr_350⟩⟩
          · refine ik_Wk 0 (pc' := 5) (loc' := [some (fI ((mj_on (fun x => mx_w cn go ch s x) (pl - 1) (mj_on (fun x => mx_w cn go ch s x) (pl - 1) (1 <<< (lr.getD ((40 + i) - 1).toNat 0).toNat)) : Nat) : Int)), some (fI (lr.getD (40 + i).toNat 0))]) (st' := [fI 0]) (h' := h_350) (cl' := 0) (sl' := 0) rfl ?_
            refine ik_Wk 1 (pc' := 6) (loc' := [some (fI ((mj_on (fun x => mx_w cn go ch s x) (pl - 1) (mj_on (fun x => mx_w cn go ch s x) (pl - 1) (1 <<< (lr.getD ((40 + i) - 1).toNat 0).toNat)) : Nat) : Int)), some (fI (lr.getD (40 + i).toNat 0))]) (st' := [fI 1, fI 0]) (h' := h_350) (cl' := 0) (sl' := 0) rfl ?_
            refine fw_ic_ne rfl rfl (by omega) (by omega) (by omega) (by omega) (fun hc7 => absurd hc7 (by omega)) (fun hc7 => ?_)
            refine ik_Wk 1 (pc' := 14) (loc' := [some (fI ((mj_on (fun x => mx_w cn go ch s x) (pl - 1) (mj_on (fun x => mx_w cn go ch s x) (pl - 1) (1 <<< (lr.getD ((40 + i) - 1).toNat 0).toNat)) : Nat) : Int)), some (fI (lr.getD (40 + i).toNat 0))]) (st' := [fI 0]) (h' := h_350) (cl' := 0) (sl' := 0) rfl ?_
            refine ik_Wret rfl rfl ⟨_, _, rfl, rfl, ?_⟩
            refine ik_Wk 0 (pc' := 140) (loc' := [some (.ref 66), some (fI 1), some (fI i), some (fI fb), some (fI (lr.getD (40 + i).toNat 0)), some (fI ((mj_on (fun x => mx_w cn go ch s x) (pl - 1) (mj_on (fun x => mx_w cn go ch s x) (pl - 1) (1 <<< (lr.getD ((40 + i) - 1).toNat 0).toNat)) : Nat) : Int)), some (fI kb)]) (st' := [fI 0]) (h' := h_350) (cl' := 0) (sl' := 0) rfl ?_
            have et : mx_tm kb (i - fb) = 2 := by unfold mx_tm; (repeat' split) <;> omega
            have hlt : mj_oi (fun x => mx_w cn go ch s x) (pl - 1) 2 (1 <<< (lr.getD (40 + i - 1).toNat 0).toNat) < 2 ^ pl.toNat := mj_oi_lt q4 (by omega) _ _ (mj_shl_lt (by omega))
            have hG : (mj_ok (fun x => mx_w cn go ch s x) pl kb pb fb lr 40) i = false := by
              show (if i < fb then _ else if i = fb then _ else _) = _
              rw [if_neg (by omega), if_neg (by omega), et]
              exact decide_eq_false (fun w => absurd (w.2.2.symm.trans hb5) (by decide))
            exact ik_Wret rfl rfl ⟨_, _, rfl, rfl, rfl, rfl, Or.inr ⟨w'_350, gt'_350, gd'_350, rfl, g_350_66, g_350_77, m_350_77, g_350_78, m_350_78, hG, fr_350⟩⟩
        · refine ik_Wk 4 (pc' := 137) (loc' := [some (.ref 66), some (fI 1), some (fI i), some (fI fb), some (fI (lr.getD (40 + i).toNat 0)), some (fI ((mj_on (fun x => mx_w cn go ch s x) (pl - 1) (1 <<< (lr.getD ((40 + i) - 1).toNat 0).toNat) : Nat) : Int)), some (fI kb)]) (st' := [fI (lr.getD (40 + i).toNat 0), fI ((mj_on (fun x => mx_w cn go ch s x) (pl - 1) (1 <<< (lr.getD ((40 + i) - 1).toNat 0).toNat) : Nat) : Int)]) (h' := h_349) (cl' := 0) (sl' := 0) rfl ?_
          refine ik_Wc 128 2 3 [fI ((mj_on (fun x => mx_w cn go ch s x) (pl - 1) (1 <<< (lr.getD ((40 + i) - 1).toNat 0).toNat) : Nat) : Int), fI (lr.getD (40 + i).toNat 0)] [] rfl rfl rfl (by decide) rfl rfl (fw_sta k_349 rfl (by decide)) ?_
          refine ik_Wk 0 (pc' := 0) (loc' := [some (fI ((mj_on (fun x => mx_w cn go ch s x) (pl - 1) (1 <<< (lr.getD ((40 + i) - 1).toNat 0).toNat) : Nat) : Int)), some (fI (lr.getD (40 + i).toNat 0))]) (st' := []) (h' := h_349) (cl' := 0) (sl' := 0) rfl ?_
          refine ik_Wk 2 (pc' := 2) (loc' := [some (fI ((mj_on (fun x => mx_w cn go ch s x) (pl - 1) (1 <<< (lr.getD ((40 + i) - 1).toNat 0).toNat) : Nat) : Int)), some (fI (lr.getD (40 + i).toNat 0))]) (st' := [fI (lr.getD (40 + i).toNat 0), fI ((mj_on (fun x => mx_w cn go ch s x) (pl - 1) (1 <<< (lr.getD ((40 + i) - 1).toNat 0).toNat) : Nat) : Int)]) (h' := h_349) (cl' := 0) (sl' := 0) rfl ?_
          refine fx_shr (n := mj_on (fun x => mx_w cn go ch s x) (pl - 1) (1 <<< (lr.getD ((40 + i) - 1).toNat 0).toNat)) rfl (by omega) (by omega) (by omega) ?_
          refine ik_Wk 1 (pc' := 4) (loc' := [some (fI ((mj_on (fun x => mx_w cn go ch s x) (pl - 1) (1 <<< (lr.getD ((40 + i) - 1).toNat 0).toNat) : Nat) : Int)), some (fI (lr.getD (40 + i).toNat 0))]) (st' := [fI 1, fI (((mj_on (fun x => mx_w cn go ch s x) (pl - 1) (1 <<< (lr.getD ((40 + i) - 1).toNat 0).toNat)) >>> (lr.getD (40 + i).toNat 0).toNat : Nat) : Int)]) (h' := h_349) (cl' := 0) (sl' := 0) rfl ?_
          refine fx_bit (n := (mj_on (fun x => mx_w cn go ch s x) (pl - 1) (1 <<< (lr.getD ((40 + i) - 1).toNat 0).toNat))) (k := (lr.getD (40 + i).toNat 0).toNat) rfl (fun hb8 => ?_) (fun hb8 => ?_)
          · refine ik_Wk 0 (pc' := 5) (loc' := [some (fI ((mj_on (fun x => mx_w cn go ch s x) (pl - 1) (1 <<< (lr.getD ((40 + i) - 1).toNat 0).toNat) : Nat) : Int)), some (fI (lr.getD (40 + i).toNat 0))]) (st' := [fI 1]) (h' := h_349) (cl' := 0) (sl' := 0) rfl ?_
            refine ik_Wk 1 (pc' := 6) (loc' := [some (fI ((mj_on (fun x => mx_w cn go ch s x) (pl - 1) (1 <<< (lr.getD ((40 + i) - 1).toNat 0).toNat) : Nat) : Int)), some (fI (lr.getD (40 + i).toNat 0))]) (st' := [fI 1, fI 1]) (h' := h_349) (cl' := 0) (sl' := 0) rfl ?_
            refine fw_ic_ne rfl rfl (by omega) (by omega) (by omega) (by omega) (fun hc9 => ?_) (fun hc9 => absurd hc9 (by omega))
            refine ik_Wk 2 (pc' := 14) (loc' := [some (fI ((mj_on (fun x => mx_w cn go ch s x) (pl - 1) (1 <<< (lr.getD ((40 + i) - 1).toNat 0).toNat) : Nat) : Int)), some (fI (lr.getD (40 + i).toNat 0))]) (st' := [fI 1]) (h' := h_349) (cl' := 0) (sl' := 0) rfl ?_
            refine ik_Wret rfl rfl ⟨_, _, rfl, rfl, ?_⟩
            refine ik_Wk 0 (pc' := 140) (loc' := [some (.ref 66), some (fI 1), some (fI i), some (fI fb), some (fI (lr.getD (40 + i).toNat 0)), some (fI ((mj_on (fun x => mx_w cn go ch s x) (pl - 1) (1 <<< (lr.getD ((40 + i) - 1).toNat 0).toNat) : Nat) : Int)), some (fI kb)]) (st' := [fI 1]) (h' := h_349) (cl' := 0) (sl' := 0) rfl ?_
            have et : mx_tm kb (i - fb) = 1 := by unfold mx_tm; (repeat' split) <;> omega
            have hlt : mj_oi (fun x => mx_w cn go ch s x) (pl - 1) 1 (1 <<< (lr.getD (40 + i - 1).toNat 0).toNat) < 2 ^ pl.toNat := mj_oi_lt q4 (by omega) _ _ (mj_shl_lt (by omega))
            have hG : (mj_ok (fun x => mx_w cn go ch s x) pl kb pb fb lr 40) i = true := by
              show (if i < fb then _ else if i = fb then _ else _) = _
              rw [if_neg (by omega), if_neg (by omega), et]
              exact decide_eq_true ⟨by omega, ⟨by omega, mj_tb_lt hlt hb8 (by omega)⟩, hb8⟩
            exact ik_Wret rfl rfl ⟨_, _, rfl, rfl, rfl, rfl, Or.inl ⟨w'_349, gt'_349, gd'_349, rfl, g_349_66, g_349_77, m_349_77, g_349_78, m_349_78, hG, fr_349⟩⟩
          · refine ik_Wk 0 (pc' := 5) (loc' := [some (fI ((mj_on (fun x => mx_w cn go ch s x) (pl - 1) (1 <<< (lr.getD ((40 + i) - 1).toNat 0).toNat) : Nat) : Int)), some (fI (lr.getD (40 + i).toNat 0))]) (st' := [fI 0]) (h' := h_349) (cl' := 0) (sl' := 0) rfl ?_
            refine ik_Wk 1 (pc' := 6) (loc' := [some (fI ((mj_on (fun x => mx_w cn go ch s x) (pl - 1) (1 <<< (lr.getD ((40 + i) - 1).toNat 0).toNat) : Nat) : Int)), some (fI (lr.getD (40 + i).toNat 0))]) (st' := [fI 1, fI 0]) (h' := h_349) (cl' := 0) (sl' := 0) rfl ?_
            refine fw_ic_ne rfl rfl (by omega) (by omega) (by omega) (by omega) (fun hc10 => absurd hc10 (by omega)) (fun hc10 => ?_)
            refine ik_Wk 1 (pc' := 14) (loc' := [some (fI ((mj_on (fun x => mx_w cn go ch s x) (pl - 1) (1 <<< (lr.getD ((40 + i) - 1).toNat 0).toNat) : Nat) : Int)), some (fI (lr.getD (40 + i).toNat 0))]) (st' := [fI 0]) (h' := h_349) (cl' := 0) (sl' := 0) rfl ?_
            refine ik_Wret rfl rfl ⟨_, _, rfl, rfl, ?_⟩
            refine ik_Wk 0 (pc' := 140) (loc' := [some (.ref 66), some (fI 1), some (fI i), some (fI fb), some (fI (lr.getD (40 + i).toNat 0)), some (fI ((mj_on (fun x => mx_w cn go ch s x) (pl - 1) (1 <<< (lr.getD ((40 + i) - 1).toNat 0).toNat) : Nat) : Int)), some (fI kb)]) (st' := [fI 0]) (h' := h_349) (cl' := 0) (sl' := 0) rfl ?_
            have et : mx_tm kb (i - fb) = 1 := by unfold mx_tm; (repeat' split) <;> omega
            have hlt : mj_oi (fun x => mx_w cn go ch s x) (pl - 1) 1 (1 <<< (lr.getD (40 + i - 1).toNat 0).toNat) < 2 ^ pl.toNat := mj_oi_lt q4 (by omega) _ _ (mj_shl_lt (by omega))
            have hG : (mj_ok (fun x => mx_w cn go ch s x) pl kb pb fb lr 40) i = false := by
              show (if i < fb then _ else if i = fb then _ else _) = _
              rw [if_neg (by omega), if_neg (by omega), et]
              exact decide_eq_false (fun w => absurd (w.2.2.symm.trans hb8) (by decide))
            exact ik_Wret rfl rfl ⟨_, _, rfl, rfl, rfl, rfl, Or.inr ⟨w'_349, gt'_349, gd'_349, rfl, g_349_66, g_349_77, m_349_77, g_349_78, m_349_78, hG, fr_349⟩⟩
      · refine ik_Wk 4 (pc' := 117) (loc' := [some (.ref 66), some (fI 1), some (fI i), some (fI fb), some (fI (lr.getD (40 + i).toNat 0)), some (fI ((1 <<< (lr.getD ((40 + i) - 1).toNat 0).toNat : Nat) : Int)), some (fI kb)]) (st' := [fI 1, fI kb]) (h' := h) (cl' := 0) (sl' := 0) rfl ?_
        refine fw_ic_ne rfl rfl (by omega) (by omega) (by omega) (by omega) (fun hc11 => ?_) (fun hc11 => ?_)
        · refine ik_Wk 2 (pc' := 123) (loc' := [some (.ref 66), some (fI 1), some (fI i), some (fI fb), some (fI (lr.getD (40 + i).toNat 0)), some (fI ((1 <<< (lr.getD ((40 + i) - 1).toNat 0).toNat : Nat) : Int)), some (fI kb)]) (st' := [fI ((1 <<< (lr.getD ((40 + i) - 1).toNat 0).toNat : Nat) : Int), .ref 66]) (h' := h) (cl' := 0) (sl' := 0) rfl ?_
          refine fw_call 205 2 0 [.ref 66, fI ((1 <<< (lr.getD ((40 + i) - 1).toNat 0).toNat : Nat) : Int)] [] rfl rfl rfl (by decide) rfl rfl (fw_rec hl rfl h66 rfl (by decide)) (cr_onFrom (pl := pl) (f := fun j => ([0, 0, 0, 0, 0, 0, 0, f 7, f 8, 0, f 10, f 11, f 12, f 13, f 14, f 15, f 16, f 17, 0, 0, 0, 0, 0, 0, f 24, 0, 0, 0, 0, 0, 0, 0, f 32, f 33, 0, 0, f 36, 0, 0, 0, 0, 0, 0] : List Int).getD j 0) (s := s) (B := 1 <<< (lr.getD ((40 + i) - 1).toNat 0).toNat) (cn := cn) (go := go) (ch := ch) (gt := gt) (gd := gd) (by omega) (by omega) q2 q3 q4 hB0 h66 h67 n67 h68 n68 h69 n69 h77 n77 h78 n78 hl) ?_
          rintro _ h_351 ⟨w'_351, gt'_351, gd'_351, rfl, e_351_66, e_351_77, m_351_77, e_351_78, m_351_78, F_351⟩
          have k_351 := F_351.1.trans hl
          have fr_351 := hfr_c (hfr_refl [66, 77, 78] h) F_351 (by decide)
          have g_351_67 := (F_351.2 67 (by decide +kernel)).trans h67
          have g_351_68 := (F_351.2 68 (by decide +kernel)).trans h68
          have g_351_69 := (F_351.2 69 (by decide +kernel)).trans h69
          have g_351_70 := (F_351.2 70 (by decide +kernel)).trans h70
          have g_351_91 := (F_351.2 91 (by decide +kernel)).trans h91
          have g_351_66 : cE h_351 66 (.inr (10, [fI pl, .ref 67, .ref 68, .ref 69, fI ((s : Nat) : Int), .ref 70, .ref 71, fI (f 7), fI (f 8), .ref 72, fI (f 10), fI (f 11), fI (f 12), fJ (f 13), fI (f 14), fI (f 15), fI (f 16), fI (f 17), .ref 73, .ref 74, .ref 75, .ref 76, .ref 77, .ref 78, fI w'_351, .ref 79, .ref 80, .ref 81, .ref 82, .ref 83, .ref 84, .ref 85, fJ (f 32), fJ (f 33), .ref 86, .ref 87, fI (f 36), .ref 88, .ref 89, .ref 90, .ref 91, .ref 92, .ref 93])) := e_351_66
          have g_351_77 : cE h_351 77 (.inl (.int, fA gt'_351)) := e_351_77
          have g_351_78 : cE h_351 78 (.inl (.int, fA gd'_351)) := e_351_78
          refine ik_Wk 0 (pc' := 126) (loc' := [some (.ref 66), some (fI 1), some (fI i), some (fI fb), some (fI (lr.getD (40 + i).toNat 0)), some (fI ((1 <<< (lr.getD ((40 + i) - 1).toNat 0).toNat : Nat) : Int)), some (fI kb)]) (st' := [fI ((mj_on (fun x => mx_w cn go ch s x) (pl - 1) (1 <<< (lr.getD ((40 + i) - 1).toNat 0).toNat) : Nat) : Int)]) (h' := h_351) (cl' := 0) (sl' := 0) rfl ?_
          have hB1 := mj_12 (mj_on_lt (W := (fun x => mx_w cn go ch s x)) (pl := pl) q4 (by omega) (1 <<< (lr.getD ((40 + i) - 1).toNat 0).toNat)) (by omega)
          refine ik_Wk 4 (pc' := 137) (loc' := [some (.ref 66), some (fI 1), some (fI i), some (fI fb), some (fI (lr.getD (40 + i).toNat 0)), some (fI ((mj_on (fun x => mx_w cn go ch s x) (pl - 1) (1 <<< (lr.getD ((40 + i) - 1).toNat 0).toNat) : Nat) : Int)), some (fI kb)]) (st' := [fI (lr.getD (40 + i).toNat 0), fI ((mj_on (fun x => mx_w cn go ch s x) (pl - 1) (1 <<< (lr.getD ((40 + i) - 1).toNat 0).toNat) : Nat) : Int)]) (h' := h_351) (cl' := 0) (sl' := 0) rfl ?_
          refine ik_Wc 128 2 3 [fI ((mj_on (fun x => mx_w cn go ch s x) (pl - 1) (1 <<< (lr.getD ((40 + i) - 1).toNat 0).toNat) : Nat) : Int), fI (lr.getD (40 + i).toNat 0)] [] rfl rfl rfl (by decide) rfl rfl (fw_sta k_351 rfl (by decide)) ?_
          refine ik_Wk 0 (pc' := 0) (loc' := [some (fI ((mj_on (fun x => mx_w cn go ch s x) (pl - 1) (1 <<< (lr.getD ((40 + i) - 1).toNat 0).toNat) : Nat) : Int)), some (fI (lr.getD (40 + i).toNat 0))]) (st' := []) (h' := h_351) (cl' := 0) (sl' := 0) rfl ?_
          refine ik_Wk 2 (pc' := 2) (loc' := [some (fI ((mj_on (fun x => mx_w cn go ch s x) (pl - 1) (1 <<< (lr.getD ((40 + i) - 1).toNat 0).toNat) : Nat) : Int)), some (fI (lr.getD (40 + i).toNat 0))]) (st' := [fI (lr.getD (40 + i).toNat 0), fI ((mj_on (fun x => mx_w cn go ch s x) (pl - 1) (1 <<< (lr.getD ((40 + i) - 1).toNat 0).toNat) : Nat) : Int)]) (h' := h_351) (cl' := 0) (sl' := 0) rfl ?_
          refine fx_shr (n := mj_on (fun x => mx_w cn go ch s x) (pl - 1) (1 <<< (lr.getD ((40 + i) - 1).toNat 0).toNat)) rfl (by omega) (by omega) (by omega) ?_
          refine ik_Wk 1 (pc' := 4) (loc' := [some (fI ((mj_on (fun x => mx_w cn go ch s x) (pl - 1) (1 <<< (lr.getD ((40 + i) - 1).toNat 0).toNat) : Nat) : Int)), some (fI (lr.getD (40 + i).toNat 0))]) (st' := [fI 1, fI (((mj_on (fun x => mx_w cn go ch s x) (pl - 1) (1 <<< (lr.getD ((40 + i) - 1).toNat 0).toNat)) >>> (lr.getD (40 + i).toNat 0).toNat : Nat) : Int)]) (h' := h_351) (cl' := 0) (sl' := 0) rfl ?_
          refine fx_bit (n := (mj_on (fun x => mx_w cn go ch s x) (pl - 1) (1 <<< (lr.getD ((40 + i) - 1).toNat 0).toNat))) (k := (lr.getD (40 + i).toNat 0).toNat) rfl (fun hb12 => ?_) (fun hb12 => ?_)
          · refine ik_Wk 0 (pc' := 5) (loc' := [some (fI ((mj_on (fun x => mx_w cn go ch s x) (pl - 1) (1 <<< (lr.getD ((40 + i) - 1).toNat 0).toNat) : Nat) : Int)), some (fI (lr.getD (40 + i).toNat 0))]) (st' := [fI 1]) (h' := h_351) (cl' := 0) (sl' := 0) rfl ?_
            refine ik_Wk 1 (pc' := 6) (loc' := [some (fI ((mj_on (fun x => mx_w cn go ch s x) (pl - 1) (1 <<< (lr.getD ((40 + i) - 1).toNat 0).toNat) : Nat) : Int)), some (fI (lr.getD (40 + i).toNat 0))]) (st' := [fI 1, fI 1]) (h' := h_351) (cl' := 0) (sl' := 0) rfl ?_
            refine fw_ic_ne rfl rfl (by omega) (by omega) (by omega) (by omega) (fun hc13 => ?_) (fun hc13 => absurd hc13 (by omega))
            refine ik_Wk 2 (pc' := 14) (loc' := [some (fI ((mj_on (fun x => mx_w cn go ch s x) (pl - 1) (1 <<< (lr.getD ((40 + i) - 1).toNat 0).toNat) : Nat) : Int)), some (fI (lr.getD (40 + i).toNat 0))]) (st' := [fI 1]) (h' := h_351) (cl' := 0) (sl' := 0) rfl ?_
            refine ik_Wret rfl rfl ⟨_, _, rfl, rfl, ?_⟩
            refine ik_Wk 0 (pc' := 140) (loc' := [some (.ref 66), some (fI 1), some (fI i), some (fI fb), some (fI (lr.getD (40 + i).toNat 0)), some (fI ((mj_on (fun x => mx_w cn go ch s x) (pl - 1) (1 <<< (lr.getD ((40 + i) - 1).toNat 0).toNat) : Nat) : Int)), some (fI kb)]) (st' := [fI 1]) (h' := h_351) (cl' := 0) (sl' := 0) rfl ?_
            have et : mx_tm kb (i - fb) = 1 := by unfold mx_tm; (repeat' split) <;> omega
            have hlt : mj_oi (fun x => mx_w cn go ch s x) (pl - 1) 1 (1 <<< (lr.getD (40 + i - 1).toNat 0).toNat) < 2 ^ pl.toNat := mj_oi_lt q4 (by omega) _ _ (mj_shl_lt (by omega))
            have hG : (mj_ok (fun x => mx_w cn go ch s x) pl kb pb fb lr 40) i = true := by
              show (if i < fb then _ else if i = fb then _ else _) = _
              rw [if_neg (by omega), if_neg (by omega), et]
              exact decide_eq_true ⟨by omega, ⟨by omega, mj_tb_lt hlt hb12 (by omega)⟩, hb12⟩
            exact ik_Wret rfl rfl ⟨_, _, rfl, rfl, rfl, rfl, Or.inl ⟨w'_351, gt'_351, gd'_351, rfl, g_351_66, g_351_77, m_351_77, g_351_78, m_351_78, hG, fr_351⟩⟩
          · refine ik_Wk 0 (pc' := 5) (loc' := [some (fI ((mj_on (fun x => mx_w cn go ch s x) (pl - 1) (1 <<< (lr.getD ((40 + i) - 1).toNat 0).toNat) : Nat) : Int)), some (fI (lr.getD (40 + i).toNat 0))]) (st' := [fI 0]) (h' := h_351) (cl' := 0) (sl' := 0) rfl ?_
            refine ik_Wk 1 (pc' := 6) (loc' := [some (fI ((mj_on (fun x => mx_w cn go ch s x) (pl - 1) (1 <<< (lr.getD ((40 + i) - 1).toNat 0).toNat) : Nat) : Int)), some (fI (lr.getD (40 + i).toNat 0))]) (st' := [fI 1, fI 0]) (h' := h_351) (cl' := 0) (sl' := 0) rfl ?_
            refine fw_ic_ne rfl rfl (by omega) (by omega) (by omega) (by omega) (fun hc14 => absurd hc14 (by omega)) (fun hc14 => ?_)
            refine ik_Wk 1 (pc' := 14) (loc' := [some (fI ((mj_on (fun x => mx_w cn go ch s x) (pl - 1) (1 <<< (lr.getD ((40 + i) - 1).toNat 0).toNat) : Nat) : Int)), some (fI (lr.getD (40 + i).toNat 0))]) (st' := [fI 0]) (h' := h_351) (cl' := 0) (sl' := 0) rfl ?_
            refine ik_Wret rfl rfl ⟨_, _, rfl, rfl, ?_⟩
            refine ik_Wk 0 (pc' := 140) (loc' := [some (.ref 66), some (fI 1), some (fI i), some (fI fb), some (fI (lr.getD (40 + i).toNat 0)), some (fI ((mj_on (fun x => mx_w cn go ch s x) (pl - 1) (1 <<< (lr.getD ((40 + i) - 1).toNat 0).toNat) : Nat) : Int)), some (fI kb)]) (st' := [fI 0]) (h' := h_351) (cl' := 0) (sl' := 0) rfl ?_
            have et : mx_tm kb (i - fb) = 1 := by unfold mx_tm; (repeat' split) <;> omega
            have hlt : mj_oi (fun x => mx_w cn go ch s x) (pl - 1) 1 (1 <<< (lr.getD (40 + i - 1).toNat 0).toNat) < 2 ^ pl.toNat := mj_oi_lt q4 (by omega) _ _ (mj_shl_lt (by omega))
            have hG : (mj_ok (fun x => mx_w cn go ch s x) pl kb pb fb lr 40) i = false := by
              show (if i < fb then _ else if i = fb then _ else _) = _
              rw [if_neg (by omega), if_neg (by omega), et]
              exact decide_eq_false (fun w => absurd (w.2.2.symm.trans hb12) (by decide))
            exact ik_Wret rfl rfl ⟨_, _, rfl, rfl, rfl, rfl, Or.inr ⟨w'_351, gt'_351, gd'_351, rfl, g_351_66, g_351_77, m_351_77, g_351_78, m_351_78, hG, fr_351⟩⟩
        · refine ik_Wk 4 (pc' := 137) (loc' := [some (.ref 66), some (fI 1), some (fI i), some (fI fb), some (fI (lr.getD (40 + i).toNat 0)), some (fI ((1 <<< (lr.getD ((40 + i) - 1).toNat 0).toNat : Nat) : Int)), some (fI kb)]) (st' := [fI (lr.getD (40 + i).toNat 0), fI ((1 <<< (lr.getD ((40 + i) - 1).toNat 0).toNat : Nat) : Int)]) (h' := h) (cl' := 0) (sl' := 0) rfl ?_
          refine ik_Wc 128 2 3 [fI ((1 <<< (lr.getD ((40 + i) - 1).toNat 0).toNat : Nat) : Int), fI (lr.getD (40 + i).toNat 0)] [] rfl rfl rfl (by decide) rfl rfl (fw_sta hl rfl (by decide)) ?_
          refine ik_Wk 0 (pc' := 0) (loc' := [some (fI ((1 <<< (lr.getD ((40 + i) - 1).toNat 0).toNat : Nat) : Int)), some (fI (lr.getD (40 + i).toNat 0))]) (st' := []) (h' := h) (cl' := 0) (sl' := 0) rfl ?_
          refine ik_Wk 2 (pc' := 2) (loc' := [some (fI ((1 <<< (lr.getD ((40 + i) - 1).toNat 0).toNat : Nat) : Int)), some (fI (lr.getD (40 + i).toNat 0))]) (st' := [fI (lr.getD (40 + i).toNat 0), fI ((1 <<< (lr.getD ((40 + i) - 1).toNat 0).toNat : Nat) : Int)]) (h' := h) (cl' := 0) (sl' := 0) rfl ?_
          refine fx_shr (n := 1 <<< (lr.getD ((40 + i) - 1).toNat 0).toNat) rfl (by omega) (by omega) (by omega) ?_
          refine ik_Wk 1 (pc' := 4) (loc' := [some (fI ((1 <<< (lr.getD ((40 + i) - 1).toNat 0).toNat : Nat) : Int)), some (fI (lr.getD (40 + i).toNat 0))]) (st' := [fI 1, fI (((1 <<< (lr.getD ((40 + i) - 1).toNat 0).toNat) >>> (lr.getD (40 + i).toNat 0).toNat : Nat) : Int)]) (h' := h) (cl' := 0) (sl' := 0) rfl ?_
          refine fx_bit (n := (1 <<< (lr.getD ((40 + i) - 1).toNat 0).toNat)) (k := (lr.getD (40 + i).toNat 0).toNat) rfl (fun hb15 => ?_) (fun hb15 => ?_)
          · refine ik_Wk 0 (pc' := 5) (loc' := [some (fI ((1 <<< (lr.getD ((40 + i) - 1).toNat 0).toNat : Nat) : Int)), some (fI (lr.getD (40 + i).toNat 0))]) (st' := [fI 1]) (h' := h) (cl' := 0) (sl' := 0) rfl ?_
            refine ik_Wk 1 (pc' := 6) (loc' := [some (fI ((1 <<< (lr.getD ((40 + i) - 1).toNat 0).toNat : Nat) : Int)), some (fI (lr.getD (40 + i).toNat 0))]) (st' := [fI 1, fI 1]) (h' := h) (cl' := 0) (sl' := 0) rfl ?_
            refine fw_ic_ne rfl rfl (by omega) (by omega) (by omega) (by omega) (fun hc16 => ?_) (fun hc16 => absurd hc16 (by omega))
            refine ik_Wk 2 (pc' := 14) (loc' := [some (fI ((1 <<< (lr.getD ((40 + i) - 1).toNat 0).toNat : Nat) : Int)), some (fI (lr.getD (40 + i).toNat 0))]) (st' := [fI 1]) (h' := h) (cl' := 0) (sl' := 0) rfl ?_
            refine ik_Wret rfl rfl ⟨_, _, rfl, rfl, ?_⟩
            refine ik_Wk 0 (pc' := 140) (loc' := [some (.ref 66), some (fI 1), some (fI i), some (fI fb), some (fI (lr.getD (40 + i).toNat 0)), some (fI ((1 <<< (lr.getD ((40 + i) - 1).toNat 0).toNat : Nat) : Int)), some (fI kb)]) (st' := [fI 1]) (h' := h) (cl' := 0) (sl' := 0) rfl ?_
            have et : mx_tm kb (i - fb) = 0 := by unfold mx_tm; (repeat' split) <;> omega
            have hlt : mj_oi (fun x => mx_w cn go ch s x) (pl - 1) 0 (1 <<< (lr.getD (40 + i - 1).toNat 0).toNat) < 2 ^ pl.toNat := mj_oi_lt q4 (by omega) _ _ (mj_shl_lt (by omega))
            have hG : (mj_ok (fun x => mx_w cn go ch s x) pl kb pb fb lr 40) i = true := by
              show (if i < fb then _ else if i = fb then _ else _) = _
              rw [if_neg (by omega), if_neg (by omega), et]
              exact decide_eq_true ⟨by omega, ⟨by omega, mj_tb_lt hlt hb15 (by omega)⟩, hb15⟩
            exact ik_Wret rfl rfl ⟨_, _, rfl, rfl, rfl, rfl, Or.inl ⟨(f 24), gt, gd, rfl, h66, h77, n77, h78, n78, hG, (hfr_refl [66, 77, 78] h)⟩⟩
          · refine ik_Wk 0 (pc' := 5) (loc' := [some (fI ((1 <<< (lr.getD ((40 + i) - 1).toNat 0).toNat : Nat) : Int)), some (fI (lr.getD (40 + i).toNat 0))]) (st' := [fI 0]) (h' := h) (cl' := 0) (sl' := 0) rfl ?_
            refine ik_Wk 1 (pc' := 6) (loc' := [some (fI ((1 <<< (lr.getD ((40 + i) - 1).toNat 0).toNat : Nat) : Int)), some (fI (lr.getD (40 + i).toNat 0))]) (st' := [fI 1, fI 0]) (h' := h) (cl' := 0) (sl' := 0) rfl ?_
            refine fw_ic_ne rfl rfl (by omega) (by omega) (by omega) (by omega) (fun hc17 => absurd hc17 (by omega)) (fun hc17 => ?_)
            refine ik_Wk 1 (pc' := 14) (loc' := [some (fI ((1 <<< (lr.getD ((40 + i) - 1).toNat 0).toNat : Nat) : Int)), some (fI (lr.getD (40 + i).toNat 0))]) (st' := [fI 0]) (h' := h) (cl' := 0) (sl' := 0) rfl ?_
            refine ik_Wret rfl rfl ⟨_, _, rfl, rfl, ?_⟩
            refine ik_Wk 0 (pc' := 140) (loc' := [some (.ref 66), some (fI 1), some (fI i), some (fI fb), some (fI (lr.getD (40 + i).toNat 0)), some (fI ((1 <<< (lr.getD ((40 + i) - 1).toNat 0).toNat : Nat) : Int)), some (fI kb)]) (st' := [fI 0]) (h' := h) (cl' := 0) (sl' := 0) rfl ?_
            have et : mx_tm kb (i - fb) = 0 := by unfold mx_tm; (repeat' split) <;> omega
            have hlt : mj_oi (fun x => mx_w cn go ch s x) (pl - 1) 0 (1 <<< (lr.getD (40 + i - 1).toNat 0).toNat) < 2 ^ pl.toNat := mj_oi_lt q4 (by omega) _ _ (mj_shl_lt (by omega))
            have hG : (mj_ok (fun x => mx_w cn go ch s x) pl kb pb fb lr 40) i = false := by
              show (if i < fb then _ else if i = fb then _ else _) = _
              rw [if_neg (by omega), if_neg (by omega), et]
              exact decide_eq_false (fun w => absurd (w.2.2.symm.trans hb15) (by decide))
            exact ik_Wret rfl rfl ⟨_, _, rfl, rfl, rfl, rfl, Or.inr ⟨(f 24), gt, gd, rfl, h66, h77, n77, h78, n78, hG, (hfr_refl [66, 77, 78] h)⟩⟩
    · refine ik_Wk 2 (pc' := 104) (loc' := [some (.ref 66), some (fI 1), some (fI i), some (fI fb), some (fI (lr.getD (40 + i).toNat 0)), some (fI ((1 <<< (lr.getD ((40 + i) - 1).toNat 0).toNat : Nat) : Int)), some (fI kb)]) (st' := [fI ((1 <<< (lr.getD ((40 + i) - 1).toNat 0).toNat : Nat) : Int), .ref 66]) (h' := h) (cl' := 0) (sl' := 0) rfl ?_
      refine fw_call 205 2 0 [.ref 66, fI ((1 <<< (lr.getD ((40 + i) - 1).toNat 0).toNat : Nat) : Int)] [] rfl rfl rfl (by decide) rfl rfl (fw_rec hl rfl h66 rfl (by decide)) (cr_onFrom (pl := pl) (f := fun j => ([0, 0, 0, 0, 0, 0, 0, f 7, f 8, 0, f 10, f 11, f 12, f 13, f 14, f 15, f 16, f 17, 0, 0, 0, 0, 0, 0, f 24, 0, 0, 0, 0, 0, 0, 0, f 32, f 33, 0, 0, f 36, 0, 0, 0, 0, 0, 0] : List Int).getD j 0) (s := s) (B := 1 <<< (lr.getD ((40 + i) - 1).toNat 0).toNat) (cn := cn) (go := go) (ch := ch) (gt := gt) (gd := gd) (by omega) (by omega) q2 q3 q4 hB0 h66 h67 n67 h68 n68 h69 n69 h77 n77 h78 n78 hl) ?_
      rintro _ h_352 ⟨w'_352, gt'_352, gd'_352, rfl, e_352_66, e_352_77, m_352_77, e_352_78, m_352_78, F_352⟩
      have k_352 := F_352.1.trans hl
      have fr_352 := hfr_c (hfr_refl [66, 77, 78] h) F_352 (by decide)
      have g_352_67 := (F_352.2 67 (by decide +kernel)).trans h67
      have g_352_68 := (F_352.2 68 (by decide +kernel)).trans h68
      have g_352_69 := (F_352.2 69 (by decide +kernel)).trans h69
      have g_352_70 := (F_352.2 70 (by decide +kernel)).trans h70
      have g_352_91 := (F_352.2 91 (by decide +kernel)).trans h91
      have g_352_66 : cE h_352 66 (.inr (10, [fI pl, .ref 67, .ref 68, .ref 69, fI ((s : Nat) : Int), .ref 70, .ref 71, fI (f 7), fI (f 8), .ref 72, fI (f 10), fI (f 11), fI (f 12), fJ (f 13), fI (f 14), fI (f 15), fI (f 16), fI (f 17), .ref 73, .ref 74, .ref 75, .ref 76, .ref 77, .ref 78, fI w'_352, .ref 79, .ref 80, .ref 81, .ref 82, .ref 83, .ref 84, .ref 85, fJ (f 32), fJ (f 33), .ref 86, .ref 87, fI (f 36), .ref 88, .ref 89, .ref 90, .ref 91, .ref 92, .ref 93])) := e_352_66
      have g_352_77 : cE h_352 77 (.inl (.int, fA gt'_352)) := e_352_77
      have g_352_78 : cE h_352 78 (.inl (.int, fA gd'_352)) := e_352_78
      refine ik_Wk 0 (pc' := 107) (loc' := [some (.ref 66), some (fI 1), some (fI i), some (fI fb), some (fI (lr.getD (40 + i).toNat 0)), some (fI ((1 <<< (lr.getD ((40 + i) - 1).toNat 0).toNat : Nat) : Int)), some (fI kb)]) (st' := [fI ((mj_on (fun x => mx_w cn go ch s x) (pl - 1) (1 <<< (lr.getD ((40 + i) - 1).toNat 0).toNat) : Nat) : Int)]) (h' := h_352) (cl' := 0) (sl' := 0) rfl ?_
      have hB1 := mj_12 (mj_on_lt (W := (fun x => mx_w cn go ch s x)) (pl := pl) q4 (by omega) (1 <<< (lr.getD ((40 + i) - 1).toNat 0).toNat)) (by omega)
      refine ik_Wk 4 (pc' := 117) (loc' := [some (.ref 66), some (fI 1), some (fI i), some (fI fb), some (fI (lr.getD (40 + i).toNat 0)), some (fI ((mj_on (fun x => mx_w cn go ch s x) (pl - 1) (1 <<< (lr.getD ((40 + i) - 1).toNat 0).toNat) : Nat) : Int)), some (fI kb)]) (st' := [fI 1, fI kb]) (h' := h_352) (cl' := 0) (sl' := 0) rfl ?_
      refine fw_ic_ne rfl rfl (by omega) (by omega) (by omega) (by omega) (fun hc18 => ?_) (fun hc18 => ?_)
      · refine ik_Wk 2 (pc' := 123) (loc' := [some (.ref 66), some (fI 1), some (fI i), some (fI fb), some (fI (lr.getD (40 + i).toNat 0)), some (fI ((mj_on (fun x => mx_w cn go ch s x) (pl - 1) (1 <<< (lr.getD ((40 + i) - 1).toNat 0).toNat) : Nat) : Int)), some (fI kb)]) (st' := [fI ((mj_on (fun x => mx_w cn go ch s x) (pl - 1) (1 <<< (lr.getD ((40 + i) - 1).toNat 0).toNat) : Nat) : Int), .ref 66]) (h' := h_352) (cl' := 0) (sl' := 0) rfl ?_
        refine fw_call 205 2 0 [.ref 66, fI ((mj_on (fun x => mx_w cn go ch s x) (pl - 1) (1 <<< (lr.getD ((40 + i) - 1).toNat 0).toNat) : Nat) : Int)] [] rfl rfl rfl (by decide) rfl rfl (fw_rec k_352 rfl g_352_66 rfl (by decide)) (cr_onFrom (pl := pl) (f := fun j => ([0, 0, 0, 0, 0, 0, 0, (f 7), (f 8), 0, (f 10), (f 11), (f 12), (f 13), (f 14), (f 15), (f 16), (f 17), 0, 0, 0, 0, 0, 0, w'_352, 0, 0, 0, 0, 0, 0, 0, (f 32), (f 33), 0, 0, (f 36), 0, 0, 0, 0, 0, 0] : List Int).getD j 0) (s := s) (B := mj_on (fun x => mx_w cn go ch s x) (pl - 1) (1 <<< (lr.getD ((40 + i) - 1).toNat 0).toNat)) (cn := cn) (go := go) (ch := ch) (gt := gt'_352) (gd := gd'_352) (by omega) (by omega) q2 q3 q4 hB1 g_352_66 g_352_67 n67 g_352_68 n68 g_352_69 n69 g_352_77 m_352_77 g_352_78 m_352_78 k_352) ?_
        rintro _ h_353 ⟨w'_353, gt'_353, gd'_353, rfl, e_353_66, e_353_77, m_353_77, e_353_78, m_353_78, F_353⟩
        have k_353 := F_353.1.trans k_352
        have fr_353 := hfr_c fr_352 F_353 (by decide)
        have g_353_67 := (F_353.2 67 (by decide +kernel)).trans g_352_67
        have g_353_68 := (F_353.2 68 (by decide +kernel)).trans g_352_68
        have g_353_69 := (F_353.2 69 (by decide +kernel)).trans g_352_69
        have g_353_70 := (F_353.2 70 (by decide +kernel)).trans g_352_70
        have g_353_91 := (F_353.2 91 (by decide +kernel)).trans g_352_91
        have g_353_66 : cE h_353 66 (.inr (10, [fI pl, .ref 67, .ref 68, .ref 69, fI ((s : Nat) : Int), .ref 70, .ref 71, fI (f 7), fI (f 8), .ref 72, fI (f 10), fI (f 11), fI (f 12), fJ (f 13), fI (f 14), fI (f 15), fI (f 16), fI (f 17), .ref 73, .ref 74, .ref 75, .ref 76, .ref 77, .ref 78, fI w'_353, .ref 79, .ref 80, .ref 81, .ref 82, .ref 83, .ref 84, .ref 85, fJ (f 32), fJ (f 33), .ref 86, .ref 87, fI (f 36), .ref 88, .ref 89, .ref 90, .ref 91, .ref 92, .ref 93])) := e_353_66
        have g_353_77 : cE h_353 77 (.inl (.int, fA gt'_353)) := e_353_77
        have g_353_78 : cE h_353 78 (.inl (.int, fA gd'_353)) := e_353_78
        refine ik_Wk 0 (pc' := 126) (loc' := [some (.ref 66), some (fI 1), some (fI i), some (fI fb), some (fI (lr.getD (40 + i).toNat 0)), some (fI ((mj_on (fun x => mx_w cn go ch s x) (pl - 1) (1 <<< (lr.getD ((40 + i) - 1).toNat 0).toNat) : Nat) : Int)), some (fI kb)]) (st' := [fI ((mj_on (fun x => mx_w cn go ch s x) (pl - 1) (mj_on (fun x => mx_w cn go ch s x) (pl - 1) (1 <<< (lr.getD ((40 + i) - 1).toNat 0).toNat)) : Nat) : Int)]) (h' := h_353) (cl' := 0) (sl' := 0) rfl ?_
        have hB2 := mj_12 (mj_on_lt (W := (fun x => mx_w cn go ch s x)) (pl := pl) q4 (by omega) (mj_on (fun x => mx_w cn go ch s x) (pl - 1) (1 <<< (lr.getD ((40 + i) - 1).toNat 0).toNat))) (by omega)
        refine ik_Wk 4 (pc' := 137) (loc' := [some (.ref 66), some (fI 1), some (fI i), some (fI fb), some (fI (lr.getD (40 + i).toNat 0)), some (fI ((mj_on (fun x => mx_w cn go ch s x) (pl - 1) (mj_on (fun x => mx_w cn go ch s x) (pl - 1) (1 <<< (lr.getD ((40 + i) - 1).toNat 0).toNat)) : Nat) : Int)), some (fI kb)]) (st' := [fI (lr.getD (40 + i).toNat 0), fI ((mj_on (fun x => mx_w cn go ch s x) (pl - 1) (mj_on (fun x => mx_w cn go ch s x) (pl - 1) (1 <<< (lr.getD ((40 + i) - 1).toNat 0).toNat)) : Nat) : Int)]) (h' := h_353) (cl' := 0) (sl' := 0) rfl ?_
        refine ik_Wc 128 2 3 [fI ((mj_on (fun x => mx_w cn go ch s x) (pl - 1) (mj_on (fun x => mx_w cn go ch s x) (pl - 1) (1 <<< (lr.getD ((40 + i) - 1).toNat 0).toNat)) : Nat) : Int), fI (lr.getD (40 + i).toNat 0)] [] rfl rfl rfl (by decide) rfl rfl (fw_sta k_353 rfl (by decide)) ?_
        refine ik_Wk 0 (pc' := 0) (loc' := [some (fI ((mj_on (fun x => mx_w cn go ch s x) (pl - 1) (mj_on (fun x => mx_w cn go ch s x) (pl - 1) (1 <<< (lr.getD ((40 + i) - 1).toNat 0).toNat)) : Nat) : Int)), some (fI (lr.getD (40 + i).toNat 0))]) (st' := []) (h' := h_353) (cl' := 0) (sl' := 0) rfl ?_
        refine ik_Wk 2 (pc' := 2) (loc' := [some (fI ((mj_on (fun x => mx_w cn go ch s x) (pl - 1) (mj_on (fun x => mx_w cn go ch s x) (pl - 1) (1 <<< (lr.getD ((40 + i) - 1).toNat 0).toNat)) : Nat) : Int)), some (fI (lr.getD (40 + i).toNat 0))]) (st' := [fI (lr.getD (40 + i).toNat 0), fI ((mj_on (fun x => mx_w cn go ch s x) (pl - 1) (mj_on (fun x => mx_w cn go ch s x) (pl - 1) (1 <<< (lr.getD ((40 + i) - 1).toNat 0).toNat)) : Nat) : Int)]) (h' := h_353) (cl' := 0) (sl' := 0) rfl ?_
        refine fx_shr (n := mj_on (fun x => mx_w cn go ch s x) (pl - 1) (mj_on (fun x => mx_w cn go ch s x) (pl - 1) (1 <<< (lr.getD ((40 + i) - 1).toNat 0).toNat))) rfl (by omega) (by omega) (by omega) ?_
        refine ik_Wk 1 (pc' := 4) (loc' := [some (fI ((mj_on (fun x => mx_w cn go ch s x) (pl - 1) (mj_on (fun x => mx_w cn go ch s x) (pl - 1) (1 <<< (lr.getD ((40 + i) - 1).toNat 0).toNat)) : Nat) : Int)), some (fI (lr.getD (40 + i).toNat 0))]) (st' := [fI 1, fI (((mj_on (fun x => mx_w cn go ch s x) (pl - 1) (mj_on (fun x => mx_w cn go ch s x) (pl - 1) (1 <<< (lr.getD ((40 + i) - 1).toNat 0).toNat))) >>> (lr.getD (40 + i).toNat 0).toNat : Nat) : Int)]) (h' := h_353) (cl' := 0) (sl' := 0) rfl ?_
        refine fx_bit (n := (mj_on (fun x => mx_w cn go ch s x) (pl - 1) (mj_on (fun x => mx_w cn go ch s x) (pl - 1) (1 <<< (lr.getD ((40 + i) - 1).toNat 0).toNat)))) (k := (lr.getD (40 + i).toNat 0).toNat) rfl (fun hb19 => ?_) (fun hb19 => ?_)
        · refine ik_Wk 0 (pc' := 5) (loc' := [some (fI ((mj_on (fun x => mx_w cn go ch s x) (pl - 1) (mj_on (fun x => mx_w cn go ch s x) (pl - 1) (1 <<< (lr.getD ((40 + i) - 1).toNat 0).toNat)) : Nat) : Int)), some (fI (lr.getD (40 + i).toNat 0))]) (st' := [fI 1]) (h' := h_353) (cl' := 0) (sl' := 0) rfl ?_
          refine ik_Wk 1 (pc' := 6) (loc' := [some (fI ((mj_on (fun x => mx_w cn go ch s x) (pl - 1) (mj_on (fun x => mx_w cn go ch s x) (pl - 1) (1 <<< (lr.getD ((40 + i) - 1).toNat 0).toNat)) : Nat) : Int)), some (fI (lr.getD (40 + i).toNat 0))]) (st' := [fI 1, fI 1]) (h' := h_353) (cl' := 0) (sl' := 0) rfl ?_
          refine fw_ic_ne rfl rfl (by omega) (by omega) (by omega) (by omega) (fun hc20 => ?_) (fun hc20 => absurd hc20 (by omega))
          refine ik_Wk 2 (pc' := 14) (loc' := [some (fI ((mj_on (fun x => mx_w cn go ch s x) (pl - 1) (mj_on (fun x => mx_w cn go ch s x) (pl - 1) (1 <<< (lr.getD ((40 + i) - 1).toNat 0).toNat)) : Nat) : Int)), some (fI (lr.getD (40 + i).toNat 0))]) (st' := [fI 1]) (h' := h_353) (cl' := 0) (sl' := 0) rfl ?_
          refine ik_Wret rfl rfl ⟨_, _, rfl, rfl, ?_⟩
          refine ik_Wk 0 (pc' := 140) (loc' := [some (.ref 66), some (fI 1), some (fI i), some (fI fb), some (fI (lr.getD (40 + i).toNat 0)), some (fI ((mj_on (fun x => mx_w cn go ch s x) (pl - 1) (mj_on (fun x => mx_w cn go ch s x) (pl - 1) (1 <<< (lr.getD ((40 + i) - 1).toNat 0).toNat)) : Nat) : Int)), some (fI kb)]) (st' := [fI 1]) (h' := h_353) (cl' := 0) (sl' := 0) rfl ?_
          have et : mx_tm kb (i - fb) = 2 := by unfold mx_tm; (repeat' split) <;> omega
          have hlt : mj_oi (fun x => mx_w cn go ch s x) (pl - 1) 2 (1 <<< (lr.getD (40 + i - 1).toNat 0).toNat) < 2 ^ pl.toNat := mj_oi_lt q4 (by omega) _ _ (mj_shl_lt (by omega))
          have hG : (mj_ok (fun x => mx_w cn go ch s x) pl kb pb fb lr 40) i = true := by
            show (if i < fb then _ else if i = fb then _ else _) = _
            rw [if_neg (by omega), if_neg (by omega), et]
            exact decide_eq_true ⟨by omega, ⟨by omega, mj_tb_lt hlt hb19 (by omega)⟩, hb19⟩
          exact ik_Wret rfl rfl ⟨_, _, rfl, rfl, rfl, rfl, Or.inl ⟨w'_353, gt'_353, gd'_353, rfl, g_353_66, g_353_77, m_353_77, g_353_78, m_353_78, hG, fr_353⟩⟩
        · refine ik_Wk 0 (pc' := 5) (loc' := [some (fI ((mj_on (fun x => mx_w cn go ch s x) (pl - 1) (mj_on (fun x => mx_w cn go ch s x) (pl - 1) (1 <<< (lr.getD ((40 + i) - 1).toNat 0).toNat)) : Nat) : Int)), some (fI (lr.getD (40 + i).toNat 0))]) (st' := [fI 0]) (h' := h_353) (cl' := 0) (sl' := 0) rfl ?_
          refine ik_Wk 1 (pc' := 6) (loc' := [some (fI ((mj_on (fun x => mx_w cn go ch s x) (pl - 1) (mj_on (fun x => mx_w cn go ch s x) (pl - 1) (1 <<< (lr.getD ((40 + i) - 1).toNat 0).toNat)) : Nat) : Int)), some (fI (lr.getD (40 + i).toNat 0))]) (st' := [fI 1, fI 0]) (h' := h_353) (cl' := 0) (sl' := 0) rfl ?_
          refine fw_ic_ne rfl rfl (by omega) (by omega) (by omega) (by omega) (fun hc21 => absurd hc21 (by omega)) (fun hc21 => ?_)
          refine ik_Wk 1 (pc' := 14) (loc' := [some (fI ((mj_on (fun x => mx_w cn go ch s x) (pl - 1) (mj_on (fun x => mx_w cn go ch s x) (pl - 1) (1 <<< (lr.getD ((40 + i) - 1).toNat 0).toNat)) : Nat) : Int)), some (fI (lr.getD (40 + i).toNat 0))]) (st' := [fI 0]) (h' := h_353) (cl' := 0) (sl' := 0) rfl ?_
          refine ik_Wret rfl rfl ⟨_, _, rfl, rfl, ?_⟩
          refine ik_Wk 0 (pc' := 140) (loc' := [some (.ref 66), some (fI 1), some (fI i), some (fI fb), some (fI (lr.getD (40 + i).toNat 0)), some (fI ((mj_on (fun x => mx_w cn go ch s x) (pl - 1) (mj_on (fun x => mx_w cn go ch s x) (pl - 1) (1 <<< (lr.getD ((40 + i) - 1).toNat 0).toNat)) : Nat) : Int)), some (fI kb)]) (st' := [fI 0]) (h' := h_353) (cl' := 0) (sl' := 0) rfl ?_
          have et : mx_tm kb (i - fb) = 2 := by unfold mx_tm; (repeat' split) <;> omega
          have hlt : mj_oi (fun x => mx_w cn go ch s x) (pl - 1) 2 (1 <<< (lr.getD (40 + i - 1).toNat 0).toNat) < 2 ^ pl.toNat := mj_oi_lt q4 (by omega) _ _ (mj_shl_lt (by omega))
          have hG : (mj_ok (fun x => mx_w cn go ch s x) pl kb pb fb lr 40) i = false := by
            show (if i < fb then _ else if i = fb then _ else _) = _
            rw [if_neg (by omega), if_neg (by omega), et]
            exact decide_eq_false (fun w => absurd (w.2.2.symm.trans hb19) (by decide))
          exact ik_Wret rfl rfl ⟨_, _, rfl, rfl, rfl, rfl, Or.inr ⟨w'_353, gt'_353, gd'_353, rfl, g_353_66, g_353_77, m_353_77, g_353_78, m_353_78, hG, fr_353⟩⟩
      · refine ik_Wk 4 (pc' := 137) (loc' := [some (.ref 66), some (fI 1), some (fI i), some (fI fb), some (fI (lr.getD (40 + i).toNat 0)), some (fI ((mj_on (fun x => mx_w cn go ch s x) (pl - 1) (1 <<< (lr.getD ((40 + i) - 1).toNat 0).toNat) : Nat) : Int)), some (fI kb)]) (st' := [fI (lr.getD (40 + i).toNat 0), fI ((mj_on (fun x => mx_w cn go ch s x) (pl - 1) (1 <<< (lr.getD ((40 + i) - 1).toNat 0).toNat) : Nat) : Int)]) (h' := h_352) (cl' := 0) (sl' := 0) rfl ?_
        refine ik_Wc 128 2 3 [fI ((mj_on (fun x => mx_w cn go ch s x) (pl - 1) (1 <<< (lr.getD ((40 + i) - 1).toNat 0).toNat) : Nat) : Int), fI (lr.getD (40 + i).toNat 0)] [] rfl rfl rfl (by decide) rfl rfl (fw_sta k_352 rfl (by decide)) ?_
        refine ik_Wk 0 (pc' := 0) (loc' := [some (fI ((mj_on (fun x => mx_w cn go ch s x) (pl - 1) (1 <<< (lr.getD ((40 + i) - 1).toNat 0).toNat) : Nat) : Int)), some (fI (lr.getD (40 + i).toNat 0))]) (st' := []) (h' := h_352) (cl' := 0) (sl' := 0) rfl ?_
        refine ik_Wk 2 (pc' := 2) (loc' := [some (fI ((mj_on (fun x => mx_w cn go ch s x) (pl - 1) (1 <<< (lr.getD ((40 + i) - 1).toNat 0).toNat) : Nat) : Int)), some (fI (lr.getD (40 + i).toNat 0))]) (st' := [fI (lr.getD (40 + i).toNat 0), fI ((mj_on (fun x => mx_w cn go ch s x) (pl - 1) (1 <<< (lr.getD ((40 + i) - 1).toNat 0).toNat) : Nat) : Int)]) (h' := h_352) (cl' := 0) (sl' := 0) rfl ?_
        refine fx_shr (n := mj_on (fun x => mx_w cn go ch s x) (pl - 1) (1 <<< (lr.getD ((40 + i) - 1).toNat 0).toNat)) rfl (by omega) (by omega) (by omega) ?_
        refine ik_Wk 1 (pc' := 4) (loc' := [some (fI ((mj_on (fun x => mx_w cn go ch s x) (pl - 1) (1 <<< (lr.getD ((40 + i) - 1).toNat 0).toNat) : Nat) : Int)), some (fI (lr.getD (40 + i).toNat 0))]) (st' := [fI 1, fI (((mj_on (fun x => mx_w cn go ch s x) (pl - 1) (1 <<< (lr.getD ((40 + i) - 1).toNat 0).toNat)) >>> (lr.getD (40 + i).toNat 0).toNat : Nat) : Int)]) (h' := h_352) (cl' := 0) (sl' := 0) rfl ?_
        refine fx_bit (n := (mj_on (fun x => mx_w cn go ch s x) (pl - 1) (1 <<< (lr.getD ((40 + i) - 1).toNat 0).toNat))) (k := (lr.getD (40 + i).toNat 0).toNat) rfl (fun hb22 => ?_) (fun hb22 => ?_)
        · refine ik_Wk 0 (pc' := 5) (loc' := [some (fI ((mj_on (fun x => mx_w cn go ch s x) (pl - 1) (1 <<< (lr.getD ((40 + i) - 1).toNat 0).toNat) : Nat) : Int)), some (fI (lr.getD (40 + i).toNat 0))]) (st' := [fI 1]) (h' := h_352) (cl' := 0) (sl' := 0) rfl ?_
          refine ik_Wk 1 (pc' := 6) (loc' := [some (fI ((mj_on (fun x => mx_w cn go ch s x) (pl - 1) (1 <<< (lr.getD ((40 + i) - 1).toNat 0).toNat) : Nat) : Int)), some (fI (lr.getD (40 + i).toNat 0))]) (st' := [fI 1, fI 1]) (h' := h_352) (cl' := 0) (sl' := 0) rfl ?_
          refine fw_ic_ne rfl rfl (by omega) (by omega) (by omega) (by omega) (fun hc23 => ?_) (fun hc23 => absurd hc23 (by omega))
          refine ik_Wk 2 (pc' := 14) (loc' := [some (fI ((mj_on (fun x => mx_w cn go ch s x) (pl - 1) (1 <<< (lr.getD ((40 + i) - 1).toNat 0).toNat) : Nat) : Int)), some (fI (lr.getD (40 + i).toNat 0))]) (st' := [fI 1]) (h' := h_352) (cl' := 0) (sl' := 0) rfl ?_
          refine ik_Wret rfl rfl ⟨_, _, rfl, rfl, ?_⟩
          refine ik_Wk 0 (pc' := 140) (loc' := [some (.ref 66), some (fI 1), some (fI i), some (fI fb), some (fI (lr.getD (40 + i).toNat 0)), some (fI ((mj_on (fun x => mx_w cn go ch s x) (pl - 1) (1 <<< (lr.getD ((40 + i) - 1).toNat 0).toNat) : Nat) : Int)), some (fI kb)]) (st' := [fI 1]) (h' := h_352) (cl' := 0) (sl' := 0) rfl ?_
          have et : mx_tm kb (i - fb) = 1 := by unfold mx_tm; (repeat' split) <;> omega
          have hlt : mj_oi (fun x => mx_w cn go ch s x) (pl - 1) 1 (1 <<< (lr.getD (40 + i - 1).toNat 0).toNat) < 2 ^ pl.toNat := mj_oi_lt q4 (by omega) _ _ (mj_shl_lt (by omega))
          have hG : (mj_ok (fun x => mx_w cn go ch s x) pl kb pb fb lr 40) i = true := by
            show (if i < fb then _ else if i = fb then _ else _) = _
            rw [if_neg (by omega), if_neg (by omega), et]
            exact decide_eq_true ⟨by omega, ⟨by omega, mj_tb_lt hlt hb22 (by omega)⟩, hb22⟩
          exact ik_Wret rfl rfl ⟨_, _, rfl, rfl, rfl, rfl, Or.inl ⟨w'_352, gt'_352, gd'_352, rfl, g_352_66, g_352_77, m_352_77, g_352_78, m_352_78, hG, fr_352⟩⟩
        · refine ik_Wk 0 (pc' := 5) (loc' := [some (fI ((mj_on (fun x => mx_w cn go ch s x) (pl - 1) (1 <<< (lr.getD ((40 + i) - 1).toNat 0).toNat) : Nat) : Int)), some (fI (lr.getD (40 + i).toNat 0))]) (st' := [fI 0]) (h' := h_352) (cl' := 0) (sl' := 0) rfl ?_
          refine ik_Wk 1 (pc' := 6) (loc' := [some (fI ((mj_on (fun x => mx_w cn go ch s x) (pl - 1) (1 <<< (lr.getD ((40 + i) - 1).toNat 0).toNat) : Nat) : Int)), some (fI (lr.getD (40 + i).toNat 0))]) (st' := [fI 1, fI 0]) (h' := h_352) (cl' := 0) (sl' := 0) rfl ?_
          refine fw_ic_ne rfl rfl (by omega) (by omega) (by omega) (by omega) (fun hc24 => absurd hc24 (by omega)) (fun hc24 => ?_)
          refine ik_Wk 1 (pc' := 14) (loc' := [some (fI ((mj_on (fun x => mx_w cn go ch s x) (pl - 1) (1 <<< (lr.getD ((40 + i) - 1).toNat 0).toNat) : Nat) : Int)), some (fI (lr.getD (40 + i).toNat 0))]) (st' := [fI 0]) (h' := h_352) (cl' := 0) (sl' := 0) rfl ?_
          refine ik_Wret rfl rfl ⟨_, _, rfl, rfl, ?_⟩
          refine ik_Wk 0 (pc' := 140) (loc' := [some (.ref 66), some (fI 1), some (fI i), some (fI fb), some (fI (lr.getD (40 + i).toNat 0)), some (fI ((mj_on (fun x => mx_w cn go ch s x) (pl - 1) (1 <<< (lr.getD ((40 + i) - 1).toNat 0).toNat) : Nat) : Int)), some (fI kb)]) (st' := [fI 0]) (h' := h_352) (cl' := 0) (sl' := 0) rfl ?_
          have et : mx_tm kb (i - fb) = 1 := by unfold mx_tm; (repeat' split) <;> omega
          have hlt : mj_oi (fun x => mx_w cn go ch s x) (pl - 1) 1 (1 <<< (lr.getD (40 + i - 1).toNat 0).toNat) < 2 ^ pl.toNat := mj_oi_lt q4 (by omega) _ _ (mj_shl_lt (by omega))
          have hG : (mj_ok (fun x => mx_w cn go ch s x) pl kb pb fb lr 40) i = false := by
            show (if i < fb then _ else if i = fb then _ else _) = _
            rw [if_neg (by omega), if_neg (by omega), et]
            exact decide_eq_false (fun w => absurd (w.2.2.symm.trans hb22) (by decide))
          exact ik_Wret rfl rfl ⟨_, _, rfl, rfl, rfl, rfl, Or.inr ⟨w'_352, gt'_352, gd'_352, rfl, g_352_66, g_352_77, m_352_77, g_352_78, m_352_78, hG, fr_352⟩⟩
  · refine ik_Wk 3 (pc' := 33) (loc' := [some (.ref 66), some (fI 1), some (fI i), some (fI fb), some (fI (lr.getD (40 + i).toNat 0)), none, none]) (st' := [fI fb, fI i, fI (lr.getD (40 + i).toNat 0)]) (h' := h) (cl' := 0) (sl' := 0) rfl ?_
    refine fw_ic_ge rfl rfl (by omega) (by omega) (by omega) (by omega) (fun hc25 => ?_) (fun hc25 => ?_)
    · refine ik_Wk 1 (pc' := 42) (loc' := [some (.ref 66), some (fI 1), some (fI i), some (fI fb), some (fI (lr.getD (40 + i).toNat 0)), none, none]) (st' := [.ref 66, fI (lr.getD (40 + i).toNat 0)]) (h' := h) (cl' := 0) (sl' := 0) rfl ?_
      refine fw_gf rfl rfl h66 rfl ?_
      refine ik_Wk 2 (pc' := 47) (loc' := [some (.ref 66), some (fI 1), some (fI i), some (fI fb), some (fI (lr.getD (40 + i).toNat 0)), none, none]) (st' := [fI 1, fI 3, .ref 70, fI (lr.getD (40 + i).toNat 0)]) (h' := h) (cl' := 0) (sl' := 0) rfl ?_
      refine fw_mul rfl ?_
      refine ik_Wk 1 (pc' := 49) (loc' := [some (.ref 66), some (fI 1), some (fI i), some (fI fb), some (fI (lr.getD (40 + i).toNat 0)), none, none]) (st' := [fI 1, fI 3, .ref 70, fI (lr.getD (40 + i).toNat 0)]) (h' := h) (cl' := 0) (sl' := 0) rfl ?_
      refine fw_add rfl ?_
      refine fw_ial (z := 4) rfl h70 (by decide) (Nat.le_of_ble_eq_true rfl) (by decide) ?_
      refine ik_Wk 0 (pc' := 51) (loc' := [some (.ref 66), some (fI 1), some (fI i), some (fI fb), some (fI (lr.getD (40 + i).toNat 0)), none, none]) (st' := [fI pb, fI (lr.getD (40 + i).toNat 0)]) (h' := h) (cl' := 0) (sl' := 0) rfl ?_
      refine fw_ic_ne rfl rfl (by omega) (by omega) (by omega) (by omega) (fun hc26 => ?_) (fun hc26 => ?_)
      · refine ik_Wk 2 (pc' := 59) (loc' := [some (.ref 66), some (fI 1), some (fI i), some (fI fb), some (fI (lr.getD (40 + i).toNat 0)), none, none]) (st' := [fI 1]) (h' := h) (cl' := 0) (sl' := 0) rfl ?_
        have hG : (mj_ok (fun x => mx_w cn go ch s x) pl kb pb fb lr 40) i = true := by
          show (if i < fb then _ else if i = fb then _ else _) = _
          split
          · exact decide_eq_true (by omega)
          · first | exact decide_eq_true (by omega) | (rw [if_pos (by omega)]; exact decide_eq_true (by omega))
        exact ik_Wret rfl rfl ⟨_, _, rfl, rfl, rfl, rfl, Or.inl ⟨(f 24), gt, gd, rfl, h66, h77, n77, h78, n78, hG, (hfr_refl [66, 77, 78] h)⟩⟩
      · refine ik_Wk 1 (pc' := 59) (loc' := [some (.ref 66), some (fI 1), some (fI i), some (fI fb), some (fI (lr.getD (40 + i).toNat 0)), none, none]) (st' := [fI 0]) (h' := h) (cl' := 0) (sl' := 0) rfl ?_
        have hG : (mj_ok (fun x => mx_w cn go ch s x) pl kb pb fb lr 40) i = false := by
          show (if i < fb then _ else if i = fb then _ else _) = _
          split
          · exact decide_eq_false (by omega)
          · first | exact decide_eq_false (by omega) | (rw [if_pos (by omega)]; exact decide_eq_false (by omega))
        exact ik_Wret rfl rfl ⟨_, _, rfl, rfl, rfl, rfl, Or.inr ⟨(f 24), gt, gd, rfl, h66, h77, n77, h78, n78, hG, (hfr_refl [66, 77, 78] h)⟩⟩
    · refine fw_bi rfl (by decide) ?_
      refine ik_Wk 1 (pc' := 51) (loc' := [some (.ref 66), some (fI 1), some (fI i), some (fI fb), some (fI (lr.getD (40 + i).toNat 0)), none, none]) (st' := [fI 12, fI (lr.getD (40 + i).toNat 0)]) (h' := h) (cl' := 0) (sl' := 0) rfl ?_
      refine fw_ic_ne rfl rfl (by omega) (by omega) (by omega) (by omega) (fun hc27 => ?_) (fun hc27 => ?_)
      · refine ik_Wk 2 (pc' := 59) (loc' := [some (.ref 66), some (fI 1), some (fI i), some (fI fb), some (fI (lr.getD (40 + i).toNat 0)), none, none]) (st' := [fI 1]) (h' := h) (cl' := 0) (sl' := 0) rfl ?_
        have hG : (mj_ok (fun x => mx_w cn go ch s x) pl kb pb fb lr 40) i = true := by
          show (if i < fb then _ else if i = fb then _ else _) = _
          split
          · exact decide_eq_true (by omega)
          · first | exact decide_eq_true (by omega) | (rw [if_pos (by omega)]; exact decide_eq_true (by omega))
        exact ik_Wret rfl rfl ⟨_, _, rfl, rfl, rfl, rfl, Or.inl ⟨(f 24), gt, gd, rfl, h66, h77, n77, h78, n78, hG, (hfr_refl [66, 77, 78] h)⟩⟩
      · refine ik_Wk 1 (pc' := 59) (loc' := [some (.ref 66), some (fI 1), some (fI i), some (fI fb), some (fI (lr.getD (40 + i).toNat 0)), none, none]) (st' := [fI 0]) (h' := h) (cl' := 0) (sl' := 0) rfl ?_
        have hG : (mj_ok (fun x => mx_w cn go ch s x) pl kb pb fb lr 40) i = false := by
          show (if i < fb then _ else if i = fb then _ else _) = _
          split
          · exact decide_eq_false (by omega)
          · first | exact decide_eq_false (by omega) | (rw [if_pos (by omega)]; exact decide_eq_false (by omega))
        exact ik_Wret rfl rfl ⟨_, _, rfl, rfl, rfl, rfl, Or.inr ⟨(f 24), gt, gd, rfl, h66, h77, n77, h78, n78, hG, (hfr_refl [66, 77, 78] h)⟩⟩

theorem rp_judge1L {h : List ik_E} {pl : Int} {f : Nat → Int} {s : Nat} {cn : List Int} {go : List Int} {ch : List Int} {gt : List Int} {gd : List Int} {ka : Int} {pa : Int} {fa : Int} {kb : Int} {pb : Int} {fb : Int} {lr : List Int} {n0 : Int} {n1 : Int} (q0 : 0 ≤ pl ∧ pl ≤ 12) (q1 : s < 4096) (q2 : ∀ x : Int, 0 ≤ x → x < pl - 1 → 0 ≤ cn.getD x.toNat 0 ∧ cn.getD x.toNat 0 ≤ 4) (q3 : ∀ x : Int, 0 ≤ x → x < pl - 1 → 1 ≤ cn.getD x.toNat 0 ∧ ∀ j : Int, 4 * x ≤ j → j < 4 * x + cn.getD x.toNat 0 → 0 ≤ ch.getD j.toNat 0 ∧ ch.getD j.toNat 0 ≤ 100) (q4 : ∀ x : Int, 0 ≤ x → x < pl - 1 → mx_ok pl (mx_w cn go ch s x)) (q5 : 0 ≤ kb ∧ kb ≤ 2) (q6 : 0 ≤ pb ∧ pb ≤ 11) (q7 : 0 ≤ fb ∧ fb ≤ 30) (q8 : 0 ≤ n1 ∧ n1 ≤ 40) (q9 : ∀ j : Nat, (j : Int) < n1 → lr.getD (40 + j) 0 = 12 ∨ (0 ≤ lr.getD (40 + j) 0 ∧ lr.getD (40 + j) 0 < pl))  : ∀ (k : Nat) (i : Int) (w1 : Int) (g1 : List Int) (d1 : List Int) (u : List ik_E) (u66 : cE u 66 (.inr (10, [fI pl, .ref 67, .ref 68, .ref 69, fI ((s : Nat) : Int), .ref 70, .ref 71, fI (f 7), fI (f 8), .ref 72, fI (f 10), fI (f 11), fI (f 12), fJ (f 13), fI (f 14), fI (f 15), fI (f 16), fI (f 17), .ref 73, .ref 74, .ref 75, .ref 76, .ref 77, .ref 78, fI w1, .ref 79, .ref 80, .ref 81, .ref 82, .ref 83, .ref 84, .ref 85, fJ (f 32), fJ (f 33), .ref 86, .ref 87, fI (f 36), .ref 88, .ref 89, .ref 90, .ref 91, .ref 92, .ref 93]))) (u67 : cE u 67 (.inl (.int, fA cn))) (n67 : cn.length = 12) (u68 : cE u 68 (.inl (.int, fA go))) (n68 : go.length = 48) (u69 : cE u 69 (.inl (.int, fA ch))) (n69 : ch.length = 48) (u77 : cE u 77 (.inl (.int, fA g1))) (n77 : g1.length = 5) (u78 : cE u 78 (.inl (.int, fA d1))) (n78 : d1.length = 5) (u70 : cE u 70 (.inl (.int, fA [ka, pa, fa, kb, pb, fb]))) (u91 : cE u 91 (.inl (.int, fA lr))) (n91 : lr.length = 80) (u90 : cE u 90 (.inl (.int, fA [n0, n1]))) (ul : u.length = 94) (F : hfr [66, 77, 78] h u) (hi : 0 ≤ i ∧ i ≤ n1) (hpv : fb < i → 0 ≤ lr.getD (40 + i - 1).toNat 0 ∧ lr.getD (40 + i - 1).toNat 0 < pl) (he : mj_fw (mj_ok (fun x => mx_w cn go ch s x) pl kb pb fb lr 40) n1.toNat 0 = mj_fw (mj_ok (fun x => mx_w cn go ch s x) pl kb pb fb lr 40) (n1 - i).toNat i) (hk : n1 - i < (k : Int)), ik_G 207 12 [some (.ref 66), some (fI 1), some (fI i)] [] u (fun rv h' => ∃ (w' : Int) (gt' : List Int) (gd' : List Int), rv = [fI (mj_fw (mj_ok (fun x => mx_w cn go ch s x) pl kb pb fb lr 40) n1.toNat 0)] ∧ cE h' 66 (.inr (10, [fI pl, .ref 67, .ref 68, .ref 69, fI ((s : Nat) : Int), .ref 70, .ref 71, fI (f 7), fI (f 8), .ref 72, fI (f 10), fI (f 11), fI (f 12), fJ (f 13), fI (f 14), fI (f 15), fI (f 16), fI (f 17), .ref 73, .ref 74, .ref 75, .ref 76, .ref 77, .ref 78, fI w', .ref 79, .ref 80, .ref 81, .ref 82, .ref 83, .ref 84, .ref 85, fJ (f 32), fJ (f 33), .ref 86, .ref 87, fI (f 36), .ref 88, .ref 89, .ref 90, .ref 91, .ref 92, .ref 93])) ∧ cE h' 77 (.inl (.int, fA gt')) ∧ gt'.length = 5 ∧ cE h' 78 (.inl (.int, fA gd')) ∧ gd'.length = 5 ∧ hfr [66, 77, 78] h h') := by
  intro k
  induction k with
  | zero => intro i w1 g1 d1 u u66 u67 n67 u68 n68 u69 n69 u77 n77 u78 n78 u70 u91 n91 u90 ul F hi hpv he hk; omega
  | succ k ih =>
    intro i w1 g1 d1 u u66 u67 n67 u68 n68 u69 n69 u77 n77 u78 n78 u70 u91 n91 u90 ul F hi hpv he hk
    refine ik_Wk 2 (pc' := 14) (loc' := [some (.ref 66), some (fI 1), some (fI i)]) (st' := [.ref 66, fI i]) (h' := u) (cl' := 0) (sl' := 0) rfl ?_
    refine fw_gf rfl rfl u66 rfl ?_
    refine ik_Wk 1 (pc' := 18) (loc' := [some (.ref 66), some (fI 1), some (fI i)]) (st' := [fI 1, .ref 90, fI i]) (h' := u) (cl' := 0) (sl' := 0) rfl ?_
    refine fw_ial (z := 1) rfl u90 (by decide) (Nat.le_of_ble_eq_true rfl) (by decide) ?_
    refine ik_Wk 0 (pc' := 19) (loc' := [some (.ref 66), some (fI 1), some (fI i)]) (st' := [fI n1, fI i]) (h' := u) (cl' := 0) (sl' := 0) rfl ?_
    refine fw_ic_ge rfl rfl (by omega) (by omega) (by omega) (by omega) (fun hc1 => ?_) (fun hc1 => ?_)
    · refine ik_Wk 1 (pc' := 40) (loc' := [some (.ref 66), some (fI 1), some (fI i)]) (st' := [fI (-1)]) (h' := u) (cl' := 0) (sl' := 0) rfl ?_
      rw [show (n1 - i).toNat = 0 by omega] at he
      exact ik_Wret rfl rfl ⟨_, _, rfl, rfl, rfl, rfl, ⟨w1, g1, d1, (congrArg (fun z => [fI z]) he.symm), u66, u77, n77, u78, n78, F⟩⟩
    · refine ik_Wk 3 (pc' := 25) (loc' := [some (.ref 66), some (fI 1), some (fI i)]) (st' := [fI i, fI 1, .ref 66]) (h' := u) (cl' := 0) (sl' := 0) rfl ?_
      have hent : lr.getD (40 + i).toNat 0 = 12 ∨ (0 ≤ lr.getD (40 + i).toNat 0 ∧ lr.getD (40 + i).toNat 0 < pl) := by
        have z := q9 i.toNat (by omega)
        rw [show 40 + i.toNat = (40 + i).toNat by omega] at z
        exact z
      refine fw_call 206 3 0 [.ref 66, fI 1, fI i] [] rfl rfl rfl (by decide) rfl rfl (fw_rec ul rfl u66 rfl (by decide)) (cr_mayBe1 (pl := pl) (f := fun j => ([0, 0, 0, 0, 0, 0, 0, f 7, f 8, 0, f 10, f 11, f 12, f 13, f 14, f 15, f 16, f 17, 0, 0, 0, 0, 0, 0, w1, 0, 0, 0, 0, 0, 0, 0, f 32, f 33, 0, 0, f 36, 0, 0, 0, 0, 0, 0] : List Int).getD j 0) (s := s) (cn := cn) (go := go) (ch := ch) (gt := g1) (gd := d1) (ka := ka) (pa := pa) (fa := fa) (kb := kb) (pb := pb) (fb := fb) (lr := lr) (i := i) (by omega) (by omega) q2 q3 q4 (by omega) (by omega) (by omega) (by omega) hent hpv u66 u67 n67 u68 n68 u69 n69 u77 n77 u78 n78 u70 u91 n91 ul) ?_
      rintro _ h_354 (⟨w'_354, gt'_354, gd'_354, rfl, e_354_66, e_354_77, m_354_77, e_354_78, m_354_78, p_354_0, F_354⟩ | ⟨w'_354, gt'_354, gd'_354, rfl, e_354_66, e_354_77, m_354_77, e_354_78, m_354_78, p_354_0, F_354⟩)
      · have k_354 := F_354.1.trans ul
        have fr_354 := hfr_c F F_354 (by decide)
        have g_354_67 := (F_354.2 67 (by decide +kernel)).trans u67
        have g_354_68 := (F_354.2 68 (by decide +kernel)).trans u68
        have g_354_69 := (F_354.2 69 (by decide +kernel)).trans u69
        have g_354_70 := (F_354.2 70 (by decide +kernel)).trans u70
        have g_354_91 := (F_354.2 91 (by decide +kernel)).trans u91
        have g_354_90 := (F_354.2 90 (by decide +kernel)).trans u90
        have g_354_66 : cE h_354 66 (.inr (10, [fI pl, .ref 67, .ref 68, .ref 69, fI ((s : Nat) : Int), .ref 70, .ref 71, fI (f 7), fI (f 8), .ref 72, fI (f 10), fI (f 11), fI (f 12), fJ (f 13), fI (f 14), fI (f 15), fI (f 16), fI (f 17), .ref 73, .ref 74, .ref 75, .ref 76, .ref 77, .ref 78, fI w'_354, .ref 79, .ref 80, .ref 81, .ref 82, .ref 83, .ref 84, .ref 85, fJ (f 32), fJ (f 33), .ref 86, .ref 87, fI (f 36), .ref 88, .ref 89, .ref 90, .ref 91, .ref 92, .ref 93])) := e_354_66
        have g_354_77 : cE h_354 77 (.inl (.int, fA gt'_354)) := e_354_77
        have g_354_78 : cE h_354 78 (.inl (.int, fA gd'_354)) := e_354_78
        refine ik_Wk 0 (pc' := 28) (loc' := [some (.ref 66), some (fI 1), some (fI i)]) (st' := [fI 1]) (h' := h_354) (cl' := 0) (sl' := 0) rfl ?_
        refine fw_if_ne rfl rfl (by omega) (by omega) (fun hc2 => absurd hc2 (by omega)) (fun hc2 => ?_)
        refine fw_inc (a := i) (loc' := [some (.ref 66), some (fI 1), some (fI (i + 1))]) rfl rfl (Nat.le_of_ble_eq_true rfl) rfl ?_
        refine ik_Wk 1 (pc' := 12) (loc' := [some (.ref 66), some (fI 1), some (fI (i + 1))]) (st' := []) (h' := h_354) (cl' := 0) (sl' := 0) rfl ?_
        exact ih  (i + 1) w'_354 gt'_354 gd'_354 h_354 g_354_66 g_354_67 n67 g_354_68 n68 g_354_69 n69 g_354_77 m_354_77 g_354_78 m_354_78 g_354_70 g_354_91 n91 g_354_90 k_354 fr_354 (by omega) (fun z => by rw [show 40 + (i + 1) - 1 = 40 + i by omega]; exact mj_ok_pl p_354_0 (by omega) q6 hent) (by rw [he, mj_fw_s (by omega), p_354_0, if_pos rfl]) (by omega)
      · have k_354 := F_354.1.trans ul
        have fr_354 := hfr_c F F_354 (by decide)
        have g_354_67 := (F_354.2 67 (by decide +kernel)).trans u67
        have g_354_68 := (F_354.2 68 (by decide +kernel)).trans u68
        have g_354_69 := (F_354.2 69 (by decide +kernel)).trans u69
        have g_354_70 := (F_354.2 70 (by decide +kernel)).trans u70
        have g_354_91 := (F_354.2 91 (by decide +kernel)).trans u91
        have g_354_90 := (F_354.2 90 (by decide +kernel)).trans u90
        have g_354_66 : cE h_354 66 (.inr (10, [fI pl, .ref 67, .ref 68, .ref 69, fI ((s : Nat) : Int), .ref 70, .ref 71, fI (f 7), fI (f 8), .ref 72, fI (f 10), fI (f 11), fI (f 12), fJ (f 13), fI (f 14), fI (f 15), fI (f 16), fI (f 17), .ref 73, .ref 74, .ref 75, .ref 76, .ref 77, .ref 78, fI w'_354, .ref 79, .ref 80, .ref 81, .ref 82, .ref 83, .ref 84, .ref 85, fJ (f 32), fJ (f 33), .ref 86, .ref 87, fI (f 36), .ref 88, .ref 89, .ref 90, .ref 91, .ref 92, .ref 93])) := e_354_66
        have g_354_77 : cE h_354 77 (.inl (.int, fA gt'_354)) := e_354_77
        have g_354_78 : cE h_354 78 (.inl (.int, fA gd'_354)) := e_354_78
        refine ik_Wk 0 (pc' := 28) (loc' := [some (.ref 66), some (fI 1), some (fI i)]) (st' := [fI 0]) (h' := h_354) (cl' := 0) (sl' := 0) rfl ?_
        refine fw_if_ne rfl rfl (by omega) (by omega) (fun hc3 => ?_) (fun hc3 => absurd hc3 (by omega))
        refine ik_Wk 1 (pc' := 32) (loc' := [some (.ref 66), some (fI 1), some (fI i)]) (st' := [fI i]) (h' := h_354) (cl' := 0) (sl' := 0) rfl ?_
        exact ik_Wret rfl rfl ⟨_, _, rfl, rfl, rfl, rfl, ⟨w'_354, gt'_354, gd'_354, (congrArg (fun z => [fI z]) (by rw [he, mj_fw_s (by omega), p_354_0, if_neg (by decide)])), g_354_66, g_354_77, m_354_77, g_354_78, m_354_78, fr_354⟩⟩

theorem rp_judge1 {h : List ik_E} {pl : Int} {f : Nat → Int} {s : Nat} {cn : List Int} {go : List Int} {ch : List Int} {gt : List Int} {gd : List Int} {ka : Int} {pa : Int} {fa : Int} {kb : Int} {pb : Int} {fb : Int} {lr : List Int} {n0 : Int} {n1 : Int} (q0 : 0 ≤ pl ∧ pl ≤ 12) (q1 : s < 4096) (q2 : ∀ x : Int, 0 ≤ x → x < pl - 1 → 0 ≤ cn.getD x.toNat 0 ∧ cn.getD x.toNat 0 ≤ 4) (q3 : ∀ x : Int, 0 ≤ x → x < pl - 1 → 1 ≤ cn.getD x.toNat 0 ∧ ∀ j : Int, 4 * x ≤ j → j < 4 * x + cn.getD x.toNat 0 → 0 ≤ ch.getD j.toNat 0 ∧ ch.getD j.toNat 0 ≤ 100) (q4 : ∀ x : Int, 0 ≤ x → x < pl - 1 → mx_ok pl (mx_w cn go ch s x)) (q5 : 0 ≤ kb ∧ kb ≤ 2) (q6 : 0 ≤ pb ∧ pb ≤ 11) (q7 : 0 ≤ fb ∧ fb ≤ 30) (q8 : 0 ≤ n1 ∧ n1 ≤ 40) (q9 : ∀ j : Nat, (j : Int) < n1 → lr.getD (40 + j) 0 = 12 ∨ (0 ≤ lr.getD (40 + j) 0 ∧ lr.getD (40 + j) 0 < pl)) (h66 : cE h 66 (.inr (10, [fI pl, .ref 67, .ref 68, .ref 69, fI ((s : Nat) : Int), .ref 70, .ref 71, fI (f 7), fI (f 8), .ref 72, fI (f 10), fI (f 11), fI (f 12), fJ (f 13), fI (f 14), fI (f 15), fI (f 16), fI (f 17), .ref 73, .ref 74, .ref 75, .ref 76, .ref 77, .ref 78, fI (f 24), .ref 79, .ref 80, .ref 81, .ref 82, .ref 83, .ref 84, .ref 85, fJ (f 32), fJ (f 33), .ref 86, .ref 87, fI (f 36), .ref 88, .ref 89, .ref 90, .ref 91, .ref 92, .ref 93]))) (h67 : cE h 67 (.inl (.int, fA cn))) (n67 : cn.length = 12) (h68 : cE h 68 (.inl (.int, fA go))) (n68 : go.length = 48) (h69 : cE h 69 (.inl (.int, fA ch))) (n69 : ch.length = 48) (h77 : cE h 77 (.inl (.int, fA gt))) (n77 : gt.length = 5) (h78 : cE h 78 (.inl (.int, fA gd))) (n78 : gd.length = 5) (h70 : cE h 70 (.inl (.int, fA [ka, pa, fa, kb, pb, fb]))) (h91 : cE h 91 (.inl (.int, fA lr))) (n91 : lr.length = 80) (h90 : cE h 90 (.inl (.int, fA [n0, n1]))) (hl : h.length = 94) : ik_F 207 [.ref 66, fI 1] h (fun rv h' => ∃ (w' : Int) (gt' : List Int) (gd' : List Int), rv = [fI (mj_fw (mj_ok (fun x => mx_w cn go ch s x) pl kb pb fb lr 40) n1.toNat 0)] ∧ cE h' 66 (.inr (10, [fI pl, .ref 67, .ref 68, .ref 69, fI ((s : Nat) : Int), .ref 70, .ref 71, fI (f 7), fI (f 8), .ref 72, fI (f 10), fI (f 11), fI (f 12), fJ (f 13), fI (f 14), fI (f 15), fI (f 16), fI (f 17), .ref 73, .ref 74, .ref 75, .ref 76, .ref 77, .ref 78, fI w', .ref 79, .ref 80, .ref 81, .ref 82, .ref 83, .ref 84, .ref 85, fJ (f 32), fJ (f 33), .ref 86, .ref 87, fI (f 36), .ref 88, .ref 89, .ref 90, .ref 91, .ref 92, .ref 93])) ∧ cE h' 77 (.inl (.int, fA gt')) ∧ gt'.length = 5 ∧ cE h' 78 (.inl (.int, fA gd')) ∧ gd'.length = 5 ∧ hfr [66, 77, 78] h h') := by
  refine ik_Wk 1 (pc' := 1) (loc' := [some (.ref 66), some (fI 1), none]) (st' := [fI 1]) (h' := h) (cl' := 0) (sl' := 0) rfl ?_
  refine ik_Wc 132 1 3 [fI 1] [] rfl rfl rfl (by decide) rfl rfl (fw_sta hl rfl (by decide)) ?_
  refine ik_Wk 0 (pc' := 0) (loc' := [some (fI 1)]) (st' := []) (h' := h) (cl' := 0) (sl' := 0) rfl ?_
  refine ik_Wk 1 (pc' := 1) (loc' := [some (fI 1)]) (st' := [fI 1]) (h' := h) (cl' := 0) (sl' := 0) rfl ?_
  refine fw_i2l rfl (by omega) (by omega) ?_
  refine fw_lc (z := 0) rfl (by decide) ?_
  refine fw_lc (z := 1) rfl (by decide) ?_
  refine fw_call 127 3 3 [fJ 1, fJ 0, fJ 1] [] rfl rfl rfl (by decide) rfl rfl (fw_sta hl rfl (by decide)) (cr_in (v := 1) (a := 0) (b := 1) (by omega) (by omega) (by omega)  hl) ?_
  rintro _ h_355 (⟨rfl, p_355_0, F_355⟩ | ⟨rfl, p_355_0, F_355⟩)
  · have k_355 := F_355.1.trans hl
    have fr_355 := hfr_c (hfr_refl [66, 77, 78] h) F_355 (by decide)
    have g_355_66 := (F_355.2 66 (by decide +kernel)).trans h66
    have g_355_67 := (F_355.2 67 (by decide +kernel)).trans h67
    have g_355_68 := (F_355.2 68 (by decide +kernel)).trans h68
    have g_355_69 := (F_355.2 69 (by decide +kernel)).trans h69
    have g_355_77 := (F_355.2 77 (by decide +kernel)).trans h77
    have g_355_78 := (F_355.2 78 (by decide +kernel)).trans h78
    have g_355_70 := (F_355.2 70 (by decide +kernel)).trans h70
    have g_355_91 := (F_355.2 91 (by decide +kernel)).trans h91
    have g_355_90 := (F_355.2 90 (by decide +kernel)).trans h90
    refine ik_Wk 0 (pc' := 7) (loc' := [some (fI 1)]) (st' := [fI 1]) (h' := h_355) (cl' := 0) (sl' := 0) rfl ?_
    refine ik_Wret rfl rfl ⟨_, _, rfl, rfl, ?_⟩
    refine ik_Wk 0 (pc' := 4) (loc' := [some (.ref 66), some (fI 1), none]) (st' := [fI 1]) (h' := h_355) (cl' := 0) (sl' := 0) rfl ?_
    refine fw_if_ne rfl rfl (by omega) (by omega) (fun hc1 => absurd hc1 (by omega)) (fun hc1 => ?_)
    refine ik_Wk 2 (pc' := 12) (loc' := [some (.ref 66), some (fI 1), some (fI 0)]) (st' := []) (h' := h_355) (cl' := 0) (sl' := 0) rfl ?_
    exact rp_judge1L (pl := pl) (f := f) (s := s) (cn := cn) (go := go) (ch := ch) (gt := gt) (gd := gd) (ka := ka) (pa := pa) (fa := fa) (kb := kb) (pb := pb) (fb := fb) (lr := lr) (n0 := n0) (n1 := n1) q0 q1 q2 q3 q4 q5 q6 q7 q8 q9  (n1.toNat + 1) 0 (f 24) gt gd h_355 g_355_66 g_355_67 n67 g_355_68 n68 g_355_69 n69 g_355_77 n77 g_355_78 n78 g_355_70 g_355_91 n91 g_355_90 k_355 fr_355 (by omega) (by omega) (by rw [Int.sub_zero]) (by omega)
  · have k_355 := F_355.1.trans hl
    have fr_355 := hfr_c (hfr_refl [66, 77, 78] h) F_355 (by decide)
    have g_355_66 := (F_355.2 66 (by decide +kernel)).trans h66
    have g_355_67 := (F_355.2 67 (by decide +kernel)).trans h67
    have g_355_68 := (F_355.2 68 (by decide +kernel)).trans h68
    have g_355_69 := (F_355.2 69 (by decide +kernel)).trans h69
    have g_355_77 := (F_355.2 77 (by decide +kernel)).trans h77
    have g_355_78 := (F_355.2 78 (by decide +kernel)).trans h78
    have g_355_70 := (F_355.2 70 (by decide +kernel)).trans h70
    have g_355_91 := (F_355.2 91 (by decide +kernel)).trans h91
    have g_355_90 := (F_355.2 90 (by decide +kernel)).trans h90
    refine ik_Wk 0 (pc' := 7) (loc' := [some (fI 1)]) (st' := [fI 0]) (h' := h_355) (cl' := 0) (sl' := 0) rfl ?_
    refine ik_Wret rfl rfl ⟨_, _, rfl, rfl, ?_⟩
    refine ik_Wk 0 (pc' := 4) (loc' := [some (.ref 66), some (fI 1), none]) (st' := [fI 0]) (h' := h_355) (cl' := 0) (sl' := 0) rfl ?_
    refine fw_if_ne rfl rfl (by omega) (by omega) (fun hc2 => ?_) (fun hc2 => absurd hc2 (by omega))
    refine fw_ld (-1000000001) rfl rfl (by decide) ?_
    omega

end