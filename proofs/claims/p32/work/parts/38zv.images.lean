noncomputable section
/-! drifts, mornings; images (written by wip/fx/u21.py) -/
theorem mi_out {xs : List Int} {k : Nat} (h : xs.length ≤ k) : xs.getD k 0 = 0 := by
  rw [List.getD_eq_getElem?_getD, List.getElem?_eq_none h]
  rfl
theorem mx_wy_next {wg wc we wg' wc' : List Int} {i : Int} {W : Int → List (Int × Int)} (h : ∀ x : Int, 0 ≤ x → x < i → mx_wy wg wc we x (W x)) (h5 : ∀ x : Int, 0 ≤ x → x < i → (W x).length ≤ 5) (hi : 0 ≤ i ∧ i < 12) (hl : we.length = 12) (hat : mx_at (5 * i.toNat) (W i) wg' wc' (W i).length) (o1 : mx_out (5 * i.toNat) (5 * i.toNat + 5) wg wg') (o2 : mx_out (5 * i.toNat) (5 * i.toNat + 5) wc wc') : ∀ x : Int, 0 ≤ x → x < i + 1 → mx_wy wg' wc' (we.set i.toNat (5 * i + ((W i).length : Int))) x (W x) := by
  intro x h0 h1
  by_cases q : x = i
  · subst q
    refine ⟨?_, hat⟩
    rw [fz_getD_set, if_pos ⟨rfl, by omega⟩]
  · have r := h x h0 (by omega)
    have l5 := h5 x h0 (by omega)
    refine ⟨?_, fun k hk => ?_⟩
    · rw [fz_getD_set, if_neg (fun w => q (by omega))]; exact r.1
    · rw [o1 _ (by omega), o2 _ (by omega)]; exact r.2 k hk
/-- entries one behind another -/
def mi_w : List Int → Nat → List Int → List Int
  | im, _, [] => im
  | im, o, v :: vs => mi_w (im.set o v) (o + 1) vs
theorem mi_w_len : ∀ (vs im : List Int) (o : Nat), (mi_w im o vs).length = im.length := by
  intro vs
  induction vs with
  | nil => intro im o; rfl
  | cons v vs ih => intro im o; show (mi_w (im.set o v) (o + 1) vs).length = _; rw [ih, List.length_set]
theorem mi_w_get : ∀ (vs im : List Int) (o k : Nat), o + vs.length ≤ im.length → (mi_w im o vs).getD k 0 = if o ≤ k ∧ k < o + vs.length then vs.getD (k - o) 0 else im.getD k 0 := by
  intro vs
  induction vs with
  | nil => intro im o k h; rw [if_neg (by simp only [List.length_nil]; omega)]; rfl
  | cons v vs ih =>
    intro im o k h
    simp only [List.length_cons] at h ⊢
    show (mi_w (im.set o v) (o + 1) vs).getD k 0 = _
    rw [ih (im.set o v) (o + 1) k (by rw [List.length_set]; omega), fz_getD_set]
    by_cases q : k = o
    · subst q
      rw [if_neg (by omega), if_pos ⟨rfl, by omega⟩, if_pos (by omega), Nat.sub_self]
      rfl
    · by_cases w : o + 1 ≤ k ∧ k < o + 1 + vs.length
      · rw [if_pos w, if_pos (by omega), show k - o = (k - (o + 1)) + 1 by omega]
        rfl
      · rw [if_neg w, if_neg (fun z => q z.1), if_neg (by omega)]
/-- the reference's image at o -/
def mi_ok (im : List Int) (o : Nat) (ch : List Int) (ka pa fa kb pb fb xa xb mi : Int) (s : Nat) (sd : Int) : Prop := (∀ k : Nat, k < 48 → im.getD (o + k) 0 = ch.getD k 0) ∧ ∀ k : Nat, k < 11 → im.getD (o + 48 + k) 0 = ([ka, pa, fa, kb, pb, fb, xa, xb, mi, ((s : Nat) : Int), sd] : List Int).getD k 0
theorem cp_drift {h : List ik_E} {pl : Int} {mi : Int} {sd : Int} {ka : Int} {pa : Int} {fa : Int} {kb : Int} {pb : Int} {fb : Int} {xa : Int} {xb : Int} {s : Nat} {cn : List Int} {go : List Int} {ch : List Int} {n : Int} {lo : Int} {wg : List Int} {wc : List Int} {we : List Int} (q0 : 0 ≤ pl ∧ pl ≤ 12) (q1 : s < 4096) (q2 : 0 ≤ sd ∧ sd < 2147483648) (q3 : 0 ≤ mi ∧ mi < 1999999000) (q4 : ∀ x : Int, 0 ≤ x → x < pl - 1 → mx_wy wg wc we x (mx_w cn go ch s x)) (q5 : ∀ x : Int, 0 ≤ x → x < pl - 1 → mx_ok pl (mx_w cn go ch s x)) (q6 : 0 ≤ ka ∧ ka ≤ 2) (q7 : 0 ≤ kb ∧ kb ≤ 2) (q8 : 0 ≤ fa ∧ fa ≤ 30) (q9 : 0 ≤ fb ∧ fb ≤ 30) (q10 : 1 < pl → 0 ≤ pa ∧ pa < pl - 1) (q11 : 1 < pl → 0 ≤ pb ∧ pb < pl - 1) (q12 : 1 < pl → (fa ≤ mi → 0 ≤ xa) ∧ (fb ≤ mi → 0 ≤ xb) ∧ (-1 ≤ xa ∧ xa < pl) ∧ (-1 ≤ xb ∧ xb < pl)) (q13 : -2147483648 ≤ n ∧ n < 2147483648) (h0 : cE h 0 (.inr (9, [.ref 1, .ref 7, .ref 14, .ref 17, .ref 45, .ref 51, .ref 54, .ref 57]))) (h7 : cE h 7 (.inr (0, [fI pl, fI ((s : Nat) : Int), fI lo, .ref 8, .ref 9, .ref 10, .ref 11, .ref 12, .ref 13]))) (h11 : cE h 11 (.inl (.int, fA wg))) (n11 : wg.length = 60) (h12 : cE h 12 (.inl (.int, fA wc))) (n12 : wc.length = 60) (h13 : cE h 13 (.inl (.int, fA we))) (n13 : we.length = 12) (h14 : cE h 14 (.inr (1, [.ref 7, .ref 15, .ref 16, fI mi, fJ sd]))) (h15 : cE h 15 (.inl (.int, fA [ka, pa, fa, kb, pb, fb]))) (h16 : cE h 16 (.inl (.int, fA [xa, xb]))) (hl : h.length = 94) : ik_F 111 [.ref 0, fI n] h (fun rv h' => (rv = [fI (mx_en (pl - 1) (mx_dr (fun x => mx_w cn go ch s x) (pl - 1) ka pa fa kb pb fb n.toNat xa xb mi sd).1 (mx_dr (fun x => mx_w cn go ch s x) (pl - 1) ka pa fa kb pb fb n.toNat xa xb mi sd).2.1)] ∧ cE h' 14 (.inr (1, [.ref 7, .ref 15, .ref 16, fI ((mx_dr (fun x => mx_w cn go ch s x) (pl - 1) ka pa fa kb pb fb n.toNat xa xb mi sd).2.2.1), fJ ((mx_dr (fun x => mx_w cn go ch s x) (pl - 1) ka pa fa kb pb fb n.toNat xa xb mi sd).2.2.2)])) ∧ cE h' 16 (.inl (.int, fA [(mx_dr (fun x => mx_w cn go ch s x) (pl - 1) ka pa fa kb pb fb n.toNat xa xb mi sd).1, (mx_dr (fun x => mx_w cn go ch s x) (pl - 1) ka pa fa kb pb fb n.toNat xa xb mi sd).2.1])) ∧ ((1 ≤ n ∧ n ≤ 200) ∧ 1 < pl) ∧ hfr [14, 16] h h') ∨ (rv = [fI (an_n 200 n)] ∧ cE h' 14 (.inr (1, [.ref 7, .ref 15, .ref 16, fI mi, fJ sd])) ∧ cE h' 16 (.inl (.int, fA [xa, xb])) ∧ (¬ ((1 ≤ n ∧ n ≤ 200) ∧ 1 < pl)) ∧ hfr [14, 16] h h')) := by
  refine ik_Wk 2 (pc' := 2) (loc' := [some (.ref 0), some (fI n)]) (st' := [fI 1, fI n]) (h' := h) (cl' := 0) (sl' := 0) rfl ?_
  refine fw_ic_lt rfl rfl (by omega) (by omega) (by omega) (by omega) (fun hc1 => ?_) (fun hc1 => ?_)
  · refine fw_ld (-1000000002) rfl rfl (by decide) ?_
    exact ik_Wret rfl rfl ⟨_, _, rfl, rfl, rfl, rfl, Or.inr ⟨(congrArg (fun z => [fI z]) (by unfold an_n; (repeat' split) <;> first | rfl | omega)), h14, h16, (by omega), (hfr_refl [14, 16] h)⟩⟩
  · refine ik_Wk 1 (pc' := 6) (loc' := [some (.ref 0), some (fI n)]) (st' := [fI n]) (h' := h) (cl' := 0) (sl' := 0) rfl ?_
    refine fw_si rfl (by decide) ?_
    refine fw_ic_le rfl rfl (by omega) (by omega) (by omega) (by omega) (fun hc2 => ?_) (fun hc2 => ?_)
    · refine ik_Wk 1 (pc' := 16) (loc' := [some (.ref 0), some (fI n)]) (st' := [.ref 0]) (h' := h) (cl' := 0) (sl' := 0) rfl ?_
      refine fw_gf rfl rfl h0 rfl ?_
      refine ik_Wc 7 1 0 [.ref 7] [] rfl rfl rfl (by decide) rfl rfl (fw_rec hl rfl h7 rfl (by decide)) ?_
      refine ik_Wk 0 (pc' := 0) (loc' := [some (.ref 7)]) (st' := []) (h' := h) (cl' := 0) (sl' := 0) rfl ?_
      refine ik_Wk 1 (pc' := 1) (loc' := [some (.ref 7)]) (st' := [.ref 7]) (h' := h) (cl' := 0) (sl' := 0) rfl ?_
      refine fw_gf rfl rfl h7 rfl ?_
      refine ik_Wk 1 (pc' := 5) (loc' := [some (.ref 7)]) (st' := [fI 1, fI pl]) (h' := h) (cl' := 0) (sl' := 0) rfl ?_
      refine fw_ic_le rfl rfl (by omega) (by omega) (by omega) (by omega) (fun hc3 => ?_) (fun hc3 => ?_)
      · refine ik_Wk 1 (pc' := 13) (loc' := [some (.ref 7)]) (st' := [fI 0]) (h' := h) (cl' := 0) (sl' := 0) rfl ?_
        refine ik_Wret rfl rfl ⟨_, _, rfl, rfl, ?_⟩
        refine ik_Wk 0 (pc' := 22) (loc' := [some (.ref 0), some (fI n)]) (st' := [fI 0]) (h' := h) (cl' := 0) (sl' := 0) rfl ?_
        refine fw_if_ne rfl rfl (by omega) (by omega) (fun hc4 => ?_) (fun hc4 => absurd hc4 (by omega))
        refine fw_ld (-1000000003) rfl rfl (by decide) ?_
        exact ik_Wret rfl rfl ⟨_, _, rfl, rfl, rfl, rfl, Or.inr ⟨(congrArg (fun z => [fI z]) (by unfold an_n; (repeat' split) <;> first | rfl | omega)), h14, h16, (by omega), (hfr_refl [14, 16] h)⟩⟩
      · refine ik_Wk 2 (pc' := 13) (loc' := [some (.ref 7)]) (st' := [fI 1]) (h' := h) (cl' := 0) (sl' := 0) rfl ?_
        refine ik_Wret rfl rfl ⟨_, _, rfl, rfl, ?_⟩
        refine ik_Wk 0 (pc' := 22) (loc' := [some (.ref 0), some (fI n)]) (st' := [fI 1]) (h' := h) (cl' := 0) (sl' := 0) rfl ?_
        refine fw_if_ne rfl rfl (by omega) (by omega) (fun hc5 => absurd hc5 (by omega)) (fun hc5 => ?_)
        refine ik_Wk 1 (pc' := 29) (loc' := [some (.ref 0), some (fI n)]) (st' := [.ref 0]) (h' := h) (cl' := 0) (sl' := 0) rfl ?_
        refine fw_gf rfl rfl h0 rfl ?_
        refine ik_Wk 1 (pc' := 33) (loc' := [some (.ref 0), some (fI n)]) (st' := [fI n, .ref 14]) (h' := h) (cl' := 0) (sl' := 0) rfl ?_
        have hx1 : 1 < pl := by omega
        have hxa := q10 hx1
        have hxb := q11 hx1
        have hxx := q12 hx1
        refine fw_call 25 2 0 [.ref 14, fI n] [] rfl rfl rfl (by decide) rfl rfl (fw_rec hl rfl h14 rfl (by decide)) (cs_drift (pl := pl) (mi := mi) (sd := sd) (ka := ka) (pa := pa) (fa := fa) (kb := kb) (pb := pb) (fb := fb) (xa := xa) (xb := xb) (s := s) (n := n) (lo := lo) (wg := wg) (wc := wc) (we := we) (by omega) (by omega) (by omega) (by omega) q4 q5 (by omega) (by omega) (by omega) (by omega) (by omega) (by omega) (by omega) (by omega) (by omega) (by omega) (by omega) (by omega) h7 h11 n11 h12 n12 h13 n13 h14 h15 h16 hl) ?_
        rintro _ h_497 ⟨rfl, e_497_14, e_497_16, F_497⟩
        have k_497 := F_497.1.trans hl
        have fr_497 := hfr_c (hfr_refl [14, 16] h) F_497 (by decide)
        have g_497_0 := (F_497.2 0 (by decide +kernel)).trans h0
        have g_497_7 := (F_497.2 7 (by decide +kernel)).trans h7
        have g_497_11 := (F_497.2 11 (by decide +kernel)).trans h11
        have g_497_12 := (F_497.2 12 (by decide +kernel)).trans h12
        have g_497_13 := (F_497.2 13 (by decide +kernel)).trans h13
        have g_497_15 := (F_497.2 15 (by decide +kernel)).trans h15
        have g_497_14 : cE h_497 14 (.inr (1, [.ref 7, .ref 15, .ref 16, fI ((mx_dr (fun x => mx_w cn go ch s x) (pl - 1) ka pa fa kb pb fb n.toNat xa xb mi sd).2.2.1), fJ ((mx_dr (fun x => mx_w cn go ch s x) (pl - 1) ka pa fa kb pb fb n.toNat xa xb mi sd).2.2.2)])) := e_497_14
        have g_497_16 : cE h_497 16 (.inl (.int, fA [(mx_dr (fun x => mx_w cn go ch s x) (pl - 1) ka pa fa kb pb fb n.toNat xa xb mi sd).1, (mx_dr (fun x => mx_w cn go ch s x) (pl - 1) ka pa fa kb pb fb n.toNat xa xb mi sd).2.1])) := e_497_16
        refine ik_Wk 0 (pc' := 36) (loc' := [some (.ref 0), some (fI n)]) (st' := []) (h' := h_497) (cl' := 0) (sl' := 0) rfl ?_
        have zi := mx_dr_in (W := (fun x => mx_w cn go ch s x)) (pl := pl) (ka := ka) (kb := kb) (pa := pa) (pb := pb) (fa := fa) (fb := fb) q5 (by omega) (by omega) n.toNat xa xb mi sd (by omega) (by omega) (by omega) (by omega) (by omega)
        refine ik_Wk 1 (pc' := 37) (loc' := [some (.ref 0), some (fI n)]) (st' := [.ref 0]) (h' := h_497) (cl' := 0) (sl' := 0) rfl ?_
        refine fw_gf rfl rfl g_497_0 rfl ?_
        refine ik_Wc 24 1 0 [.ref 14] [] rfl rfl rfl (by decide) rfl rfl (fw_rec k_497 rfl g_497_14 rfl (by decide)) ?_
        refine ik_Wk 0 (pc' := 0) (loc' := [some (.ref 14)]) (st' := []) (h' := h_497) (cl' := 0) (sl' := 0) rfl ?_
        refine ik_Wk 1 (pc' := 1) (loc' := [some (.ref 14)]) (st' := [.ref 14]) (h' := h_497) (cl' := 0) (sl' := 0) rfl ?_
        refine fw_gf rfl rfl g_497_14 rfl ?_
        refine ik_Wk 1 (pc' := 5) (loc' := [some (.ref 14)]) (st' := [fI 0, .ref 16]) (h' := h_497) (cl' := 0) (sl' := 0) rfl ?_
        refine fw_ial (z := 0) rfl g_497_16 (by decide) (Nat.le_of_ble_eq_true rfl) (by decide) ?_
        refine ik_Wk 0 (pc' := 6) (loc' := [some (.ref 14)]) (st' := [fI ((mx_dr (fun x => mx_w cn go ch s x) (pl - 1) ka pa fa kb pb fb n.toNat xa xb mi sd).1)]) (h' := h_497) (cl' := 0) (sl' := 0) rfl ?_
        refine ik_Wk 1 (pc' := 7) (loc' := [some (.ref 14)]) (st' := [.ref 14, fI ((mx_dr (fun x => mx_w cn go ch s x) (pl - 1) ka pa fa kb pb fb n.toNat xa xb mi sd).1)]) (h' := h_497) (cl' := 0) (sl' := 0) rfl ?_
        refine fw_gf rfl rfl g_497_14 rfl ?_
        refine ik_Wc 2 1 0 [.ref 7] [fI ((mx_dr (fun x => mx_w cn go ch s x) (pl - 1) ka pa fa kb pb fb n.toNat xa xb mi sd).1)] rfl rfl rfl (by decide) rfl rfl (fw_rec k_497 rfl g_497_7 rfl (by decide)) ?_
        refine ik_Wk 0 (pc' := 0) (loc' := [some (.ref 7)]) (st' := []) (h' := h_497) (cl' := 0) (sl' := 0) rfl ?_
        refine ik_Wk 1 (pc' := 1) (loc' := [some (.ref 7)]) (st' := [.ref 7]) (h' := h_497) (cl' := 0) (sl' := 0) rfl ?_
        refine fw_gf rfl rfl g_497_7 rfl ?_
        refine ik_Wk 1 (pc' := 5) (loc' := [some (.ref 7)]) (st' := [fI 1, fI pl]) (h' := h_497) (cl' := 0) (sl' := 0) rfl ?_
        refine fw_sub rfl ?_
        refine ik_Wret rfl rfl ⟨_, _, rfl, rfl, ?_⟩
        refine ik_Wk 0 (pc' := 13) (loc' := [some (.ref 14)]) (st' := [fI (pl - 1), fI ((mx_dr (fun x => mx_w cn go ch s x) (pl - 1) ka pa fa kb pb fb n.toNat xa xb mi sd).1)]) (h' := h_497) (cl' := 0) (sl' := 0) rfl ?_
        refine fw_ic_ne rfl rfl (by omega) (by omega) (by omega) (by omega) (fun hc6 => ?_) (fun hc6 => ?_)
        · refine ik_Wk 3 (pc' := 22) (loc' := [some (.ref 14)]) (st' := [.ref 14, fI 1]) (h' := h_497) (cl' := 0) (sl' := 0) rfl ?_
          refine fw_gf rfl rfl g_497_14 rfl ?_
          refine ik_Wk 1 (pc' := 26) (loc' := [some (.ref 14)]) (st' := [fI 1, .ref 16, fI 1]) (h' := h_497) (cl' := 0) (sl' := 0) rfl ?_
          refine fw_ial (z := 1) rfl g_497_16 (by decide) (Nat.le_of_ble_eq_true rfl) (by decide) ?_
          refine ik_Wk 0 (pc' := 27) (loc' := [some (.ref 14)]) (st' := [fI ((mx_dr (fun x => mx_w cn go ch s x) (pl - 1) ka pa fa kb pb fb n.toNat xa xb mi sd).2.1), fI 1]) (h' := h_497) (cl' := 0) (sl' := 0) rfl ?_
          refine ik_Wk 1 (pc' := 28) (loc' := [some (.ref 14)]) (st' := [.ref 14, fI ((mx_dr (fun x => mx_w cn go ch s x) (pl - 1) ka pa fa kb pb fb n.toNat xa xb mi sd).2.1), fI 1]) (h' := h_497) (cl' := 0) (sl' := 0) rfl ?_
          refine fw_gf rfl rfl g_497_14 rfl ?_
          refine ik_Wc 2 1 0 [.ref 7] [fI ((mx_dr (fun x => mx_w cn go ch s x) (pl - 1) ka pa fa kb pb fb n.toNat xa xb mi sd).2.1), fI 1] rfl rfl rfl (by decide) rfl rfl (fw_rec k_497 rfl g_497_7 rfl (by decide)) ?_
          refine ik_Wk 0 (pc' := 0) (loc' := [some (.ref 7)]) (st' := []) (h' := h_497) (cl' := 0) (sl' := 0) rfl ?_
          refine ik_Wk 1 (pc' := 1) (loc' := [some (.ref 7)]) (st' := [.ref 7]) (h' := h_497) (cl' := 0) (sl' := 0) rfl ?_
          refine fw_gf rfl rfl g_497_7 rfl ?_
          refine ik_Wk 1 (pc' := 5) (loc' := [some (.ref 7)]) (st' := [fI 1, fI pl]) (h' := h_497) (cl' := 0) (sl' := 0) rfl ?_
          refine fw_sub rfl ?_
          refine ik_Wret rfl rfl ⟨_, _, rfl, rfl, ?_⟩
          refine ik_Wk 0 (pc' := 34) (loc' := [some (.ref 14)]) (st' := [fI (pl - 1), fI ((mx_dr (fun x => mx_w cn go ch s x) (pl - 1) ka pa fa kb pb fb n.toNat xa xb mi sd).2.1), fI 1]) (h' := h_497) (cl' := 0) (sl' := 0) rfl ?_
          refine fw_ic_ne rfl rfl (by omega) (by omega) (by omega) (by omega) (fun hc7 => ?_) (fun hc7 => ?_)
          · refine ik_Wk 2 (pc' := 42) (loc' := [some (.ref 14)]) (st' := [fI 2, fI 1]) (h' := h_497) (cl' := 0) (sl' := 0) rfl ?_
            refine fw_add rfl ?_
            refine ik_Wret rfl rfl ⟨_, _, rfl, rfl, ?_⟩
            refine ik_Wk 0 (pc' := 43) (loc' := [some (.ref 0), some (fI n)]) (st' := [fI 3]) (h' := h_497) (cl' := 0) (sl' := 0) rfl ?_
            exact ik_Wret rfl rfl ⟨_, _, rfl, rfl, rfl, rfl, Or.inl ⟨(congrArg (fun z => [fI z]) (by unfold mx_en; (repeat' split) <;> omega)), g_497_14, g_497_16, (by omega), fr_497⟩⟩
          · refine ik_Wk 1 (pc' := 42) (loc' := [some (.ref 14)]) (st' := [fI 0, fI 1]) (h' := h_497) (cl' := 0) (sl' := 0) rfl ?_
            refine fw_add rfl ?_
            refine ik_Wret rfl rfl ⟨_, _, rfl, rfl, ?_⟩
            refine ik_Wk 0 (pc' := 43) (loc' := [some (.ref 0), some (fI n)]) (st' := [fI 1]) (h' := h_497) (cl' := 0) (sl' := 0) rfl ?_
            exact ik_Wret rfl rfl ⟨_, _, rfl, rfl, rfl, rfl, Or.inl ⟨(congrArg (fun z => [fI z]) (by unfold mx_en; (repeat' split) <;> omega)), g_497_14, g_497_16, (by omega), fr_497⟩⟩
        · refine ik_Wk 2 (pc' := 22) (loc' := [some (.ref 14)]) (st' := [.ref 14, fI 0]) (h' := h_497) (cl' := 0) (sl' := 0) rfl ?_
          refine fw_gf rfl rfl g_497_14 rfl ?_
          refine ik_Wk 1 (pc' := 26) (loc' := [some (.ref 14)]) (st' := [fI 1, .ref 16, fI 0]) (h' := h_497) (cl' := 0) (sl' := 0) rfl ?_
          refine fw_ial (z := 1) rfl g_497_16 (by decide) (Nat.le_of_ble_eq_true rfl) (by decide) ?_
          refine ik_Wk 0 (pc' := 27) (loc' := [some (.ref 14)]) (st' := [fI ((mx_dr (fun x => mx_w cn go ch s x) (pl - 1) ka pa fa kb pb fb n.toNat xa xb mi sd).2.1), fI 0]) (h' := h_497) (cl' := 0) (sl' := 0) rfl ?_
          refine ik_Wk 1 (pc' := 28) (loc' := [some (.ref 14)]) (st' := [.ref 14, fI ((mx_dr (fun x => mx_w cn go ch s x) (pl - 1) ka pa fa kb pb fb n.toNat xa xb mi sd).2.1), fI 0]) (h' := h_497) (cl' := 0) (sl' := 0) rfl ?_
          refine fw_gf rfl rfl g_497_14 rfl ?_
          refine ik_Wc 2 1 0 [.ref 7] [fI ((mx_dr (fun x => mx_w cn go ch s x) (pl - 1) ka pa fa kb pb fb n.toNat xa xb mi sd).2.1), fI 0] rfl rfl rfl (by decide) rfl rfl (fw_rec k_497 rfl g_497_7 rfl (by decide)) ?_
          refine ik_Wk 0 (pc' := 0) (loc' := [some (.ref 7)]) (st' := []) (h' := h_497) (cl' := 0) (sl' := 0) rfl ?_
          refine ik_Wk 1 (pc' := 1) (loc' := [some (.ref 7)]) (st' := [.ref 7]) (h' := h_497) (cl' := 0) (sl' := 0) rfl ?_
          refine fw_gf rfl rfl g_497_7 rfl ?_
          refine ik_Wk 1 (pc' := 5) (loc' := [some (.ref 7)]) (st' := [fI 1, fI pl]) (h' := h_497) (cl' := 0) (sl' := 0) rfl ?_
          refine fw_sub rfl ?_
          refine ik_Wret rfl rfl ⟨_, _, rfl, rfl, ?_⟩
          refine ik_Wk 0 (pc' := 34) (loc' := [some (.ref 14)]) (st' := [fI (pl - 1), fI ((mx_dr (fun x => mx_w cn go ch s x) (pl - 1) ka pa fa kb pb fb n.toNat xa xb mi sd).2.1), fI 0]) (h' := h_497) (cl' := 0) (sl' := 0) rfl ?_
          refine fw_ic_ne rfl rfl (by omega) (by omega) (by omega) (by omega) (fun hc8 => ?_) (fun hc8 => ?_)
          · refine ik_Wk 2 (pc' := 42) (loc' := [some (.ref 14)]) (st' := [fI 2, fI 0]) (h' := h_497) (cl' := 0) (sl' := 0) rfl ?_
            refine fw_add rfl ?_
            refine ik_Wret rfl rfl ⟨_, _, rfl, rfl, ?_⟩
            refine ik_Wk 0 (pc' := 43) (loc' := [some (.ref 0), some (fI n)]) (st' := [fI 2]) (h' := h_497) (cl' := 0) (sl' := 0) rfl ?_
            exact ik_Wret rfl rfl ⟨_, _, rfl, rfl, rfl, rfl, Or.inl ⟨(congrArg (fun z => [fI z]) (by unfold mx_en; (repeat' split) <;> omega)), g_497_14, g_497_16, (by omega), fr_497⟩⟩
          · refine ik_Wk 1 (pc' := 42) (loc' := [some (.ref 14)]) (st' := [fI 0, fI 0]) (h' := h_497) (cl' := 0) (sl' := 0) rfl ?_
            refine fw_add rfl ?_
            refine ik_Wret rfl rfl ⟨_, _, rfl, rfl, ?_⟩
            refine ik_Wk 0 (pc' := 43) (loc' := [some (.ref 0), some (fI n)]) (st' := [fI 0]) (h' := h_497) (cl' := 0) (sl' := 0) rfl ?_
            exact ik_Wret rfl rfl ⟨_, _, rfl, rfl, rfl, rfl, Or.inl ⟨(congrArg (fun z => [fI z]) (by unfold mx_en; (repeat' split) <;> omega)), g_497_14, g_497_16, (by omega), fr_497⟩⟩
    · refine fw_ld (-1000000002) rfl rfl (by decide) ?_
      exact ik_Wret rfl rfl ⟨_, _, rfl, rfl, rfl, rfl, Or.inr ⟨(congrArg (fun z => [fI z]) (by unfold an_n; (repeat' split) <;> first | rfl | omega)), h14, h16, (by omega), (hfr_refl [14, 16] h)⟩⟩

theorem rp_drift {h : List ik_E} {pl : Int} {mi : Int} {sd : Int} {ka : Int} {pa : Int} {fa : Int} {kb : Int} {pb : Int} {fb : Int} {xa : Int} {xb : Int} {s : Nat} {cn : List Int} {go : List Int} {ch : List Int} {n : Int} {f : Nat → Int} {gt : List Int} {gd : List Int} (q0 : 0 ≤ pl ∧ pl ≤ 12) (q1 : s < 4096) (q2 : 0 ≤ sd ∧ sd < 2147483648) (q3 : 0 ≤ mi ∧ mi < 1999999000) (q4 : ∀ x : Int, 0 ≤ x → x < pl - 1 → 1 ≤ cn.getD x.toNat 0 ∧ ∀ j : Int, 4 * x ≤ j → j < 4 * x + cn.getD x.toNat 0 → 0 ≤ ch.getD j.toNat 0 ∧ ch.getD j.toNat 0 ≤ 100) (q5 : ∀ x : Int, 0 ≤ x → x < pl → 0 ≤ cn.getD x.toNat 0 ∧ cn.getD x.toNat 0 ≤ 4) (q6 : ∀ x : Int, 0 ≤ x → x < pl - 1 → mx_ok pl (mx_w cn go ch s x)) (q7 : 0 ≤ ka ∧ ka ≤ 2) (q8 : 0 ≤ kb ∧ kb ≤ 2) (q9 : 0 ≤ fa ∧ fa ≤ 30) (q10 : 0 ≤ fb ∧ fb ≤ 30) (q11 : 1 < pl → 0 ≤ pa ∧ pa < pl - 1) (q12 : 1 < pl → 0 ≤ pb ∧ pb < pl - 1) (q13 : 1 < pl → (fa ≤ mi → 0 ≤ xa) ∧ (fb ≤ mi → 0 ≤ xb) ∧ (-1 ≤ xa ∧ xa < pl) ∧ (-1 ≤ xb ∧ xb < pl)) (q14 : -2147483648 ≤ n ∧ n < 2147483648) (h66 : cE h 66 (.inr (10, [fI pl, .ref 67, .ref 68, .ref 69, fI ((s : Nat) : Int), .ref 70, .ref 71, fI mi, fI sd, .ref 72, fI (f 10), fI (f 11), fI (f 12), fJ (f 13), fI (f 14), fI (f 15), fI (f 16), fI (f 17), .ref 73, .ref 74, .ref 75, .ref 76, .ref 77, .ref 78, fI (f 24), .ref 79, .ref 80, .ref 81, .ref 82, .ref 83, .ref 84, .ref 85, fJ (f 32), fJ (f 33), .ref 86, .ref 87, fI (f 36), .ref 88, .ref 89, .ref 90, .ref 91, .ref 92, .ref 93]))) (h67 : cE h 67 (.inl (.int, fA cn))) (n67 : cn.length = 12) (h68 : cE h 68 (.inl (.int, fA go))) (n68 : go.length = 48) (h69 : cE h 69 (.inl (.int, fA ch))) (n69 : ch.length = 48) (h70 : cE h 70 (.inl (.int, fA [ka, pa, fa, kb, pb, fb]))) (h71 : cE h 71 (.inl (.int, fA [xa, xb]))) (h77 : cE h 77 (.inl (.int, fA gt))) (n77 : gt.length = 5) (h78 : cE h 78 (.inl (.int, fA gd))) (n78 : gd.length = 5) (hl : h.length = 94) : ik_F 199 [.ref 66, fI n] h (fun rv h' => (∃ (w' : Int) (gt' : List Int) (gd' : List Int), rv = [fI (mx_en (pl - 1) (mx_dr (fun x => mx_w cn go ch s x) (pl - 1) ka pa fa kb pb fb n.toNat xa xb mi sd).1 (mx_dr (fun x => mx_w cn go ch s x) (pl - 1) ka pa fa kb pb fb n.toNat xa xb mi sd).2.1)] ∧ cE h' 66 (.inr (10, [fI pl, .ref 67, .ref 68, .ref 69, fI ((s : Nat) : Int), .ref 70, .ref 71, fI ((mx_dr (fun x => mx_w cn go ch s x) (pl - 1) ka pa fa kb pb fb n.toNat xa xb mi sd).2.2.1), fI ((mx_dr (fun x => mx_w cn go ch s x) (pl - 1) ka pa fa kb pb fb n.toNat xa xb mi sd).2.2.2), .ref 72, fI (f 10), fI (f 11), fI (f 12), fJ (f 13), fI (f 14), fI (f 15), fI (f 16), fI (f 17), .ref 73, .ref 74, .ref 75, .ref 76, .ref 77, .ref 78, fI w', .ref 79, .ref 80, .ref 81, .ref 82, .ref 83, .ref 84, .ref 85, fJ (f 32), fJ (f 33), .ref 86, .ref 87, fI (f 36), .ref 88, .ref 89, .ref 90, .ref 91, .ref 92, .ref 93])) ∧ cE h' 71 (.inl (.int, fA [(mx_dr (fun x => mx_w cn go ch s x) (pl - 1) ka pa fa kb pb fb n.toNat xa xb mi sd).1, (mx_dr (fun x => mx_w cn go ch s x) (pl - 1) ka pa fa kb pb fb n.toNat xa xb mi sd).2.1])) ∧ cE h' 77 (.inl (.int, fA gt')) ∧ gt'.length = 5 ∧ cE h' 78 (.inl (.int, fA gd')) ∧ gd'.length = 5 ∧ ((1 ≤ n ∧ n ≤ 200) ∧ 1 < pl) ∧ hfr [66, 71, 77, 78] h h') ∨ (rv = [fI (an_n 200 n)] ∧ cE h' 66 (.inr (10, [fI pl, .ref 67, .ref 68, .ref 69, fI ((s : Nat) : Int), .ref 70, .ref 71, fI mi, fI sd, .ref 72, fI (f 10), fI (f 11), fI (f 12), fJ (f 13), fI (f 14), fI (f 15), fI (f 16), fI (f 17), .ref 73, .ref 74, .ref 75, .ref 76, .ref 77, .ref 78, fI (f 24), .ref 79, .ref 80, .ref 81, .ref 82, .ref 83, .ref 84, .ref 85, fJ (f 32), fJ (f 33), .ref 86, .ref 87, fI (f 36), .ref 88, .ref 89, .ref 90, .ref 91, .ref 92, .ref 93])) ∧ cE h' 71 (.inl (.int, fA [xa, xb])) ∧ cE h' 77 (.inl (.int, fA gt)) ∧ gt.length = 5 ∧ cE h' 78 (.inl (.int, fA gd)) ∧ gd.length = 5 ∧ (¬ ((1 ≤ n ∧ n ≤ 200) ∧ 1 < pl)) ∧ hfr [66, 71, 77, 78] h h')) := by
  refine ik_Wk 1 (pc' := 1) (loc' := [some (.ref 66), some (fI n)]) (st' := [fI n]) (h' := h) (cl' := 0) (sl' := 0) rfl ?_
  refine fw_i2l rfl (by omega) (by omega) ?_
  refine fw_lc (z := 1) rfl (by decide) ?_
  refine fw_l2 200 rfl rfl (by decide) ?_
  refine fw_call 127 3 3 [fJ n, fJ 1, fJ 200] [] rfl rfl rfl (by decide) rfl rfl (fw_sta hl rfl (by decide)) (cr_in (v := n) (a := 1) (b := 200) (by omega) (by omega) (by omega)  hl) ?_
  rintro _ h_498 (⟨rfl, p_498_0, F_498⟩ | ⟨rfl, p_498_0, F_498⟩)
  · have k_498 := F_498.1.trans hl
    have fr_498 := hfr_c (hfr_refl [66, 71, 77, 78] h) F_498 (by decide)
    have g_498_66 := (F_498.2 66 (by decide +kernel)).trans h66
    have g_498_67 := (F_498.2 67 (by decide +kernel)).trans h67
    have g_498_68 := (F_498.2 68 (by decide +kernel)).trans h68
    have g_498_69 := (F_498.2 69 (by decide +kernel)).trans h69
    have g_498_70 := (F_498.2 70 (by decide +kernel)).trans h70
    have g_498_71 := (F_498.2 71 (by decide +kernel)).trans h71
    have g_498_77 := (F_498.2 77 (by decide +kernel)).trans h77
    have g_498_78 := (F_498.2 78 (by decide +kernel)).trans h78
    refine ik_Wk 0 (pc' := 9) (loc' := [some (.ref 66), some (fI n)]) (st' := [fI 1]) (h' := h_498) (cl' := 0) (sl' := 0) rfl ?_
    refine fw_if_ne rfl rfl (by omega) (by omega) (fun hc1 => absurd hc1 (by omega)) (fun hc1 => ?_)
    refine ik_Wk 1 (pc' := 16) (loc' := [some (.ref 66), some (fI n)]) (st' := [.ref 66]) (h' := h_498) (cl' := 0) (sl' := 0) rfl ?_
    refine ik_Wc 134 1 0 [.ref 66] [] rfl rfl rfl (by decide) rfl rfl (fw_rec k_498 rfl g_498_66 rfl (by decide)) ?_
    refine ik_Wk 0 (pc' := 0) (loc' := [some (.ref 66)]) (st' := []) (h' := h_498) (cl' := 0) (sl' := 0) rfl ?_
    refine ik_Wk 1 (pc' := 1) (loc' := [some (.ref 66)]) (st' := [.ref 66]) (h' := h_498) (cl' := 0) (sl' := 0) rfl ?_
    refine fw_gf rfl rfl g_498_66 rfl ?_
    refine ik_Wk 1 (pc' := 5) (loc' := [some (.ref 66)]) (st' := [fI 1, fI pl]) (h' := h_498) (cl' := 0) (sl' := 0) rfl ?_
    refine fw_ic_le rfl rfl (by omega) (by omega) (by omega) (by omega) (fun hc2 => ?_) (fun hc2 => ?_)
    · refine ik_Wk 1 (pc' := 13) (loc' := [some (.ref 66)]) (st' := [fI 0]) (h' := h_498) (cl' := 0) (sl' := 0) rfl ?_
      refine ik_Wret rfl rfl ⟨_, _, rfl, rfl, ?_⟩
      refine ik_Wk 0 (pc' := 19) (loc' := [some (.ref 66), some (fI n)]) (st' := [fI 0]) (h' := h_498) (cl' := 0) (sl' := 0) rfl ?_
      refine fw_if_eq rfl rfl (by omega) (by omega) (fun hc3 => ?_) (fun hc3 => absurd hc3 (by omega))
      refine fw_ld (-1000000003) rfl rfl (by decide) ?_
      exact ik_Wret rfl rfl ⟨_, _, rfl, rfl, rfl, rfl, Or.inr ⟨(congrArg (fun z => [fI z]) (by unfold an_n; (repeat' split) <;> first | rfl | omega)), g_498_66, g_498_71, g_498_77, n77, g_498_78, n78, (by omega), fr_498⟩⟩
    · refine ik_Wk 2 (pc' := 13) (loc' := [some (.ref 66)]) (st' := [fI 1]) (h' := h_498) (cl' := 0) (sl' := 0) rfl ?_
      refine ik_Wret rfl rfl ⟨_, _, rfl, rfl, ?_⟩
      refine ik_Wk 0 (pc' := 19) (loc' := [some (.ref 66), some (fI n)]) (st' := [fI 1]) (h' := h_498) (cl' := 0) (sl' := 0) rfl ?_
      refine fw_if_eq rfl rfl (by omega) (by omega) (fun hc4 => absurd hc4 (by omega)) (fun hc4 => ?_)
      refine ik_Wk 2 (pc' := 24) (loc' := [some (.ref 66), some (fI n)]) (st' := [fI n, .ref 66]) (h' := h_498) (cl' := 0) (sl' := 0) rfl ?_
      have hx1 : 1 < pl := by omega
      have hxa := q11 hx1
      have hxb := q12 hx1
      have hxx := q13 hx1
      refine fw_call 198 2 0 [.ref 66, fI n] [] rfl rfl rfl (by decide) rfl rfl (fw_rec k_498 rfl g_498_66 rfl (by decide)) (cr_drift (pl := pl) (mi := mi) (sd := sd) (ka := ka) (pa := pa) (fa := fa) (kb := kb) (pb := pb) (fb := fb) (xa := xa) (xb := xb) (s := s) (cn := cn) (go := go) (ch := ch) (n := n) (f := fun j => ([0, 0, 0, 0, 0, 0, 0, 0, 0, 0, f 10, f 11, f 12, f 13, f 14, f 15, f 16, f 17, 0, 0, 0, 0, 0, 0, f 24, 0, 0, 0, 0, 0, 0, 0, f 32, f 33, 0, 0, f 36, 0, 0, 0, 0, 0, 0] : List Int).getD j 0) (gt := gt) (gd := gd) (by omega) (by omega) (by omega) (by omega) q4 q5 q6 (by omega) (by omega) (by omega) (by omega) (by omega) (by omega) (by omega) (by omega) (by omega) (by omega) (by omega) (by omega) g_498_66 g_498_67 n67 g_498_68 n68 g_498_69 n69 g_498_70 g_498_71 g_498_77 n77 g_498_78 n78 k_498) ?_
      rintro _ h_499 ⟨w'_499, gt'_499, gd'_499, rfl, e_499_66, e_499_71, e_499_77, m_499_77, e_499_78, m_499_78, F_499⟩
      have k_499 := F_499.1.trans k_498
      have fr_499 := hfr_c fr_498 F_499 (by decide)
      have g_499_67 := (F_499.2 67 (by decide +kernel)).trans g_498_67
      have g_499_68 := (F_499.2 68 (by decide +kernel)).trans g_498_68
      have g_499_69 := (F_499.2 69 (by decide +kernel)).trans g_498_69
      have g_499_70 := (F_499.2 70 (by decide +kernel)).trans g_498_70
      have g_499_66 : cE h_499 66 (.inr (10, [fI pl, .ref 67, .ref 68, .ref 69, fI ((s : Nat) : Int), .ref 70, .ref 71, fI ((mx_dr (fun x => mx_w cn go ch s x) (pl - 1) ka pa fa kb pb fb n.toNat xa xb mi sd).2.2.1), fI ((mx_dr (fun x => mx_w cn go ch s x) (pl - 1) ka pa fa kb pb fb n.toNat xa xb mi sd).2.2.2), .ref 72, fI (f 10), fI (f 11), fI (f 12), fJ (f 13), fI (f 14), fI (f 15), fI (f 16), fI (f 17), .ref 73, .ref 74, .ref 75, .ref 76, .ref 77, .ref 78, fI w'_499, .ref 79, .ref 80, .ref 81, .ref 82, .ref 83, .ref 84, .ref 85, fJ (f 32), fJ (f 33), .ref 86, .ref 87, fI (f 36), .ref 88, .ref 89, .ref 90, .ref 91, .ref 92, .ref 93])) := e_499_66
      have g_499_71 : cE h_499 71 (.inl (.int, fA [(mx_dr (fun x => mx_w cn go ch s x) (pl - 1) ka pa fa kb pb fb n.toNat xa xb mi sd).1, (mx_dr (fun x => mx_w cn go ch s x) (pl - 1) ka pa fa kb pb fb n.toNat xa xb mi sd).2.1])) := e_499_71
      have g_499_77 : cE h_499 77 (.inl (.int, fA gt'_499)) := e_499_77
      have g_499_78 : cE h_499 78 (.inl (.int, fA gd'_499)) := e_499_78
      refine ik_Wk 0 (pc' := 27) (loc' := [some (.ref 66), some (fI n)]) (st' := [fI (mx_en (pl - 1) (mx_dr (fun x => mx_w cn go ch s x) (pl - 1) ka pa fa kb pb fb n.toNat xa xb mi sd).1 (mx_dr (fun x => mx_w cn go ch s x) (pl - 1) ka pa fa kb pb fb n.toNat xa xb mi sd).2.1)]) (h' := h_499) (cl' := 0) (sl' := 0) rfl ?_
      refine ik_Wk 1 (pc' := 32) (loc' := [some (.ref 66), some (fI n)]) (st' := [fI (mx_en (pl - 1) (mx_dr (fun x => mx_w cn go ch s x) (pl - 1) ka pa fa kb pb fb n.toNat xa xb mi sd).1 (mx_dr (fun x => mx_w cn go ch s x) (pl - 1) ka pa fa kb pb fb n.toNat xa xb mi sd).2.1)]) (h' := h_499) (cl' := 0) (sl' := 0) rfl ?_
      exact ik_Wret rfl rfl ⟨_, _, rfl, rfl, rfl, rfl, Or.inl ⟨w'_499, gt'_499, gd'_499, rfl, g_499_66, g_499_71, g_499_77, m_499_77, g_499_78, m_499_78, (by omega), fr_499⟩⟩
  · have k_498 := F_498.1.trans hl
    have fr_498 := hfr_c (hfr_refl [66, 71, 77, 78] h) F_498 (by decide)
    have g_498_66 := (F_498.2 66 (by decide +kernel)).trans h66
    have g_498_67 := (F_498.2 67 (by decide +kernel)).trans h67
    have g_498_68 := (F_498.2 68 (by decide +kernel)).trans h68
    have g_498_69 := (F_498.2 69 (by decide +kernel)).trans h69
    have g_498_70 := (F_498.2 70 (by decide +kernel)).trans h70
    have g_498_71 := (F_498.2 71 (by decide +kernel)).trans h71
    have g_498_77 := (F_498.2 77 (by decide +kernel)).trans h77
    have g_498_78 := (F_498.2 78 (by decide +kernel)).trans h78
    refine ik_Wk 0 (pc' := 9) (loc' := [some (.ref 66), some (fI n)]) (st' := [fI 0]) (h' := h_498) (cl' := 0) (sl' := 0) rfl ?_
    refine fw_if_ne rfl rfl (by omega) (by omega) (fun hc5 => ?_) (fun hc5 => absurd hc5 (by omega))
    refine fw_ld (-1000000002) rfl rfl (by decide) ?_
    exact ik_Wret rfl rfl ⟨_, _, rfl, rfl, rfl, rfl, Or.inr ⟨(congrArg (fun z => [fI z]) (by unfold an_n; (repeat' split) <;> first | rfl | omega)), g_498_66, g_498_71, g_498_77, n77, g_498_78, n78, (by omega), fr_498⟩⟩

theorem cp_morning {h : List ik_E} {pl : Int} {mi : Int} {sd : Int} {ka : Int} {pa : Int} {fa : Int} {kb : Int} {pb : Int} {fb : Int} {xa : Int} {xb : Int} {s : Nat} {cn : List Int} {go : List Int} {ch : List Int} {n : Int} {lo : Int} {wg : List Int} {wc : List Int} {we : List Int} (q0 : 0 ≤ pl ∧ pl ≤ 12) (q1 : s < 4096) (q2 : 0 ≤ sd ∧ sd < 2147483648) (q3 : 0 ≤ mi ∧ mi < 1999999000) (q4 : ∀ x : Int, 0 ≤ x → x < pl - 1 → mx_wy wg wc we x (mx_w cn go ch s x)) (q5 : ∀ x : Int, 0 ≤ x → x < pl - 1 → mx_ok pl (mx_w cn go ch s x)) (q6 : 0 ≤ ka ∧ ka ≤ 2) (q7 : 0 ≤ kb ∧ kb ≤ 2) (q8 : 0 ≤ fa ∧ fa ≤ 30) (q9 : 0 ≤ fb ∧ fb ≤ 30) (q10 : 1 < pl → 0 ≤ pa ∧ pa < pl - 1) (q11 : 1 < pl → 0 ≤ pb ∧ pb < pl - 1) (q12 : 1 < pl → (fa ≤ mi → 0 ≤ xa) ∧ (fb ≤ mi → 0 ≤ xb) ∧ (-1 ≤ xa ∧ xa < pl) ∧ (-1 ≤ xb ∧ xb < pl)) (q13 : -2147483648 ≤ n ∧ n < 2147483648) (h0 : cE h 0 (.inr (9, [.ref 1, .ref 7, .ref 14, .ref 17, .ref 45, .ref 51, .ref 54, .ref 57]))) (h7 : cE h 7 (.inr (0, [fI pl, fI ((s : Nat) : Int), fI lo, .ref 8, .ref 9, .ref 10, .ref 11, .ref 12, .ref 13]))) (h11 : cE h 11 (.inl (.int, fA wg))) (n11 : wg.length = 60) (h12 : cE h 12 (.inl (.int, fA wc))) (n12 : wc.length = 60) (h13 : cE h 13 (.inl (.int, fA we))) (n13 : we.length = 12) (h14 : cE h 14 (.inr (1, [.ref 7, .ref 15, .ref 16, fI mi, fJ sd]))) (h15 : cE h 15 (.inl (.int, fA [ka, pa, fa, kb, pb, fb]))) (h16 : cE h 16 (.inl (.int, fA [xa, xb]))) (hl : h.length = 94) : ik_F 114 [.ref 0, fI n] h (fun rv h' => (rv = [fI ((mx_mo (fun x => mx_w cn go ch s x) (pl - 1) ka pa fa kb pb fb n.toNat 0 sd).1)] ∧ cE h' 14 (.inr (1, [.ref 7, .ref 15, .ref 16, fI mi, fJ ((mx_mo (fun x => mx_w cn go ch s x) (pl - 1) ka pa fa kb pb fb n.toNat 0 sd).2)])) ∧ cE h' 16 (.inl (.int, fA [xa, xb])) ∧ ((1 ≤ n ∧ n ≤ 40) ∧ 1 < pl) ∧ hfr [14, 16] h h') ∨ (rv = [fI (an_n 40 n)] ∧ cE h' 14 (.inr (1, [.ref 7, .ref 15, .ref 16, fI mi, fJ sd])) ∧ cE h' 16 (.inl (.int, fA [xa, xb])) ∧ (¬ ((1 ≤ n ∧ n ≤ 40) ∧ 1 < pl)) ∧ hfr [14, 16] h h')) := by
  refine ik_Wk 2 (pc' := 2) (loc' := [some (.ref 0), some (fI n)]) (st' := [fI 1, fI n]) (h' := h) (cl' := 0) (sl' := 0) rfl ?_
  refine fw_ic_lt rfl rfl (by omega) (by omega) (by omega) (by omega) (fun hc1 => ?_) (fun hc1 => ?_)
  · refine fw_ld (-1000000002) rfl rfl (by decide) ?_
    exact ik_Wret rfl rfl ⟨_, _, rfl, rfl, rfl, rfl, Or.inr ⟨(congrArg (fun z => [fI z]) (by unfold an_n; (repeat' split) <;> first | rfl | omega)), h14, h16, (by omega), (hfr_refl [14, 16] h)⟩⟩
  · refine ik_Wk 1 (pc' := 6) (loc' := [some (.ref 0), some (fI n)]) (st' := [fI n]) (h' := h) (cl' := 0) (sl' := 0) rfl ?_
    refine fw_bi rfl (by decide) ?_
    refine fw_ic_le rfl rfl (by omega) (by omega) (by omega) (by omega) (fun hc2 => ?_) (fun hc2 => ?_)
    · refine ik_Wk 1 (pc' := 15) (loc' := [some (.ref 0), some (fI n)]) (st' := [.ref 0]) (h' := h) (cl' := 0) (sl' := 0) rfl ?_
      refine fw_gf rfl rfl h0 rfl ?_
      refine ik_Wc 7 1 0 [.ref 7] [] rfl rfl rfl (by decide) rfl rfl (fw_rec hl rfl h7 rfl (by decide)) ?_
      refine ik_Wk 0 (pc' := 0) (loc' := [some (.ref 7)]) (st' := []) (h' := h) (cl' := 0) (sl' := 0) rfl ?_
      refine ik_Wk 1 (pc' := 1) (loc' := [some (.ref 7)]) (st' := [.ref 7]) (h' := h) (cl' := 0) (sl' := 0) rfl ?_
      refine fw_gf rfl rfl h7 rfl ?_
      refine ik_Wk 1 (pc' := 5) (loc' := [some (.ref 7)]) (st' := [fI 1, fI pl]) (h' := h) (cl' := 0) (sl' := 0) rfl ?_
      refine fw_ic_le rfl rfl (by omega) (by omega) (by omega) (by omega) (fun hc3 => ?_) (fun hc3 => ?_)
      · refine ik_Wk 1 (pc' := 13) (loc' := [some (.ref 7)]) (st' := [fI 0]) (h' := h) (cl' := 0) (sl' := 0) rfl ?_
        refine ik_Wret rfl rfl ⟨_, _, rfl, rfl, ?_⟩
        refine ik_Wk 0 (pc' := 21) (loc' := [some (.ref 0), some (fI n)]) (st' := [fI 0]) (h' := h) (cl' := 0) (sl' := 0) rfl ?_
        refine fw_if_ne rfl rfl (by omega) (by omega) (fun hc4 => ?_) (fun hc4 => absurd hc4 (by omega))
        refine fw_ld (-1000000003) rfl rfl (by decide) ?_
        exact ik_Wret rfl rfl ⟨_, _, rfl, rfl, rfl, rfl, Or.inr ⟨(congrArg (fun z => [fI z]) (by unfold an_n; (repeat' split) <;> first | rfl | omega)), h14, h16, (by omega), (hfr_refl [14, 16] h)⟩⟩
      · refine ik_Wk 2 (pc' := 13) (loc' := [some (.ref 7)]) (st' := [fI 1]) (h' := h) (cl' := 0) (sl' := 0) rfl ?_
        refine ik_Wret rfl rfl ⟨_, _, rfl, rfl, ?_⟩
        refine ik_Wk 0 (pc' := 21) (loc' := [some (.ref 0), some (fI n)]) (st' := [fI 1]) (h' := h) (cl' := 0) (sl' := 0) rfl ?_
        refine fw_if_ne rfl rfl (by omega) (by omega) (fun hc5 => absurd hc5 (by omega)) (fun hc5 => ?_)
        refine ik_Wk 1 (pc' := 28) (loc' := [some (.ref 0), some (fI n)]) (st' := [.ref 0]) (h' := h) (cl' := 0) (sl' := 0) rfl ?_
        refine fw_gf rfl rfl h0 rfl ?_
        refine ik_Wk 1 (pc' := 32) (loc' := [some (.ref 0), some (fI n)]) (st' := [fI n, .ref 14]) (h' := h) (cl' := 0) (sl' := 0) rfl ?_
        have hx1 : 1 < pl := by omega
        have hxa := q10 hx1
        have hxb := q11 hx1
        have hxx := q12 hx1
        refine fw_call 28 2 0 [.ref 14, fI n] [] rfl rfl rfl (by decide) rfl rfl (fw_rec hl rfl h14 rfl (by decide)) (cs_morn (pl := pl) (mi := mi) (sd := sd) (ka := ka) (pa := pa) (fa := fa) (kb := kb) (pb := pb) (fb := fb) (xa := xa) (xb := xb) (s := s) (n := n) (lo := lo) (wg := wg) (wc := wc) (we := we) (by omega) (by omega) (by omega) (by omega) q4 q5 (by omega) (by omega) (by omega) (by omega) (by omega) (by omega) (by omega) h7 h11 n11 h12 n12 h13 n13 h14 h15 h16 hl) ?_
        rintro _ h_500 ⟨rfl, e_500_14, e_500_16, F_500⟩
        have k_500 := F_500.1.trans hl
        have fr_500 := hfr_c (hfr_refl [14, 16] h) F_500 (by decide)
        have g_500_0 := (F_500.2 0 (by decide +kernel)).trans h0
        have g_500_7 := (F_500.2 7 (by decide +kernel)).trans h7
        have g_500_11 := (F_500.2 11 (by decide +kernel)).trans h11
        have g_500_12 := (F_500.2 12 (by decide +kernel)).trans h12
        have g_500_13 := (F_500.2 13 (by decide +kernel)).trans h13
        have g_500_15 := (F_500.2 15 (by decide +kernel)).trans h15
        have g_500_14 : cE h_500 14 (.inr (1, [.ref 7, .ref 15, .ref 16, fI mi, fJ ((mx_mo (fun x => mx_w cn go ch s x) (pl - 1) ka pa fa kb pb fb n.toNat 0 sd).2)])) := e_500_14
        have g_500_16 : cE h_500 16 (.inl (.int, fA [xa, xb])) := e_500_16
        refine ik_Wk 0 (pc' := 35) (loc' := [some (.ref 0), some (fI n)]) (st' := [fI ((mx_mo (fun x => mx_w cn go ch s x) (pl - 1) ka pa fa kb pb fb n.toNat 0 sd).1)]) (h' := h_500) (cl' := 0) (sl' := 0) rfl ?_
        exact ik_Wret rfl rfl ⟨_, _, rfl, rfl, rfl, rfl, Or.inl ⟨rfl, g_500_14, g_500_16, (by omega), fr_500⟩⟩
    · refine fw_ld (-1000000002) rfl rfl (by decide) ?_
      exact ik_Wret rfl rfl ⟨_, _, rfl, rfl, rfl, rfl, Or.inr ⟨(congrArg (fun z => [fI z]) (by unfold an_n; (repeat' split) <;> first | rfl | omega)), h14, h16, (by omega), (hfr_refl [14, 16] h)⟩⟩

theorem cs_settleAllL {h : List ik_E} {pl : Int} {lo : Int} {s : Nat} {cn : List Int} {go : List Int} {ch : List Int} {wg : List Int} {wc : List Int} {we : List Int} (q0 : 0 ≤ pl ∧ pl ≤ 12) (q1 : s < 4096) (q2 : mx_rw pl cn go ch) (q3 : 1 ≤ pl → cn.getD (pl - 1).toNat 0 = 0) (q4 : 1 ≤ pl → s.testBit (pl - 1).toNat = false)  : ∀ (k : Nat) (i : Int) (wg1 : List Int) (wc1 : List Int) (we1 : List Int) (u : List ik_E) (u7 : cE u 7 (.inr (0, [fI pl, fI ((s : Nat) : Int), fI lo, .ref 8, .ref 9, .ref 10, .ref 11, .ref 12, .ref 13]))) (u8 : cE u 8 (.inl (.int, fA cn))) (n8 : cn.length = 12) (u9 : cE u 9 (.inl (.int, fA go))) (n9 : go.length = 48) (u10 : cE u 10 (.inl (.int, fA ch))) (n10 : ch.length = 48) (u11 : cE u 11 (.inl (.int, fA wg1))) (n11 : wg1.length = 60) (u12 : cE u 12 (.inl (.int, fA wc1))) (n12 : wc1.length = 60) (u13 : cE u 13 (.inl (.int, fA we1))) (n13 : we1.length = 12) (ul : u.length = 94) (F : hfr [11, 12, 13] h u) (hi : 0 ≤ i ∧ i ≤ pl) (hy : ∀ x : Int, 0 ≤ x → x < i → mx_wy wg1 wc1 we1 x (mx_w cn go ch s x)) (hk : pl - i < (k : Int)), ik_G 11 2 [some (.ref 7), some (fI i)] [] u (fun rv h' => ∃ (wg' : List Int) (wc' : List Int) (we' : List Int), rv = [] ∧ cE h' 11 (.inl (.int, fA wg')) ∧ wg'.length = 60 ∧ cE h' 12 (.inl (.int, fA wc')) ∧ wc'.length = 60 ∧ cE h' 13 (.inl (.int, fA we')) ∧ we'.length = 12 ∧ (∀ x : Int, 0 ≤ x → x < pl - 1 → mx_wy wg' wc' we' x (mx_w cn go ch s x)) ∧ hfr [11, 12, 13] h h') := by
  intro k
  induction k with
  | zero => intro i wg1 wc1 we1 u u7 u8 n8 u9 n9 u10 n10 u11 n11 u12 n12 u13 n13 ul F hi hy hk; omega
  | succ k ih =>
    intro i wg1 wc1 we1 u u7 u8 n8 u9 n9 u10 n10 u11 n11 u12 n12 u13 n13 ul F hi hy hk
    refine ik_Wk 2 (pc' := 4) (loc' := [some (.ref 7), some (fI i)]) (st' := [.ref 7, fI i]) (h' := u) (cl' := 0) (sl' := 0) rfl ?_
    refine fw_gf rfl rfl u7 rfl ?_
    refine fw_ic_ge rfl rfl (by omega) (by omega) (by omega) (by omega) (fun hc1 => ?_) (fun hc1 => ?_)
    · exact ik_Wret rfl rfl ⟨_, _, rfl, rfl, rfl, rfl, ⟨wg1, wc1, we1, rfl, u11, n11, u12, n12, u13, n13, (fun x x0 x1 => hy x x0 (by omega)), F⟩⟩
    · refine ik_Wk 2 (pc' := 12) (loc' := [some (.ref 7), some (fI i)]) (st' := [fI i, .ref 7]) (h' := u) (cl' := 0) (sl' := 0) rfl ?_
      have hcn : ∀ x : Int, 0 ≤ x → x < pl → (0 ≤ cn.getD x.toNat 0 ∧ cn.getD x.toNat 0 ≤ 4) ∧ (∀ j : Int, 4 * x ≤ j → j < 4 * x + cn.getD x.toNat 0 → 0 ≤ ch.getD j.toNat 0 ∧ ch.getD j.toNat 0 ≤ 100) ∧ (s.testBit x.toNat = true → 1 ≤ cn.getD x.toNat 0) := by
        intro x x0 x1
        rcases Int.lt_or_le x (pl - 1) with z | z
        · have r := (q2 x x0 z).1; have c := mx_rw_ch q2 x x0 z; exact ⟨by omega, c.2, fun _ => c.1⟩
        · have e : x = pl - 1 := by omega
          subst e
          have a := q3 (by omega)
          have b := q4 (by omega)
          exact ⟨by omega, fun j j0 j1 => by omega, fun w => by rw [b] at w; cases w⟩
      refine fw_call 12 2 0 [.ref 7, fI i] [] rfl rfl rfl (by decide) rfl rfl (fw_rec ul rfl u7 rfl (by decide)) (cs_settle (p := i) (pl := pl) (lo := lo) (s := s) (cn := cn) (go := go) (ch := ch) (wg := wg1) (wc := wc1) (we := we1) (by omega) (by omega) (by omega) (hcn i (by omega) (by omega)).1 (hcn i (by omega) (by omega)).2.1 (hcn i (by omega) (by omega)).2.2 u7 u8 n8 u9 n9 u10 n10 u11 n11 u12 n12 u13 n13 ul) ?_
      rintro _ h_501 ⟨wg'_501, wc'_501, rfl, e_501_11, m_501_11, e_501_12, m_501_12, e_501_13, m_501_13, p_501_0, p_501_1, p_501_2, F_501⟩
      have k_501 := F_501.1.trans ul
      have fr_501 := hfr_c F F_501 (by decide)
      have g_501_7 := (F_501.2 7 (by decide +kernel)).trans u7
      have g_501_8 := (F_501.2 8 (by decide +kernel)).trans u8
      have g_501_9 := (F_501.2 9 (by decide +kernel)).trans u9
      have g_501_10 := (F_501.2 10 (by decide +kernel)).trans u10
      have g_501_11 : cE h_501 11 (.inl (.int, fA wg'_501)) := e_501_11
      have g_501_12 : cE h_501 12 (.inl (.int, fA wc'_501)) := e_501_12
      have g_501_13 : cE h_501 13 (.inl (.int, fA (we1.set i.toNat (5 * i + ((mx_w cn go ch s i).length : Int))))) := e_501_13
      refine ik_Wk 0 (pc' := 15) (loc' := [some (.ref 7), some (fI i)]) (st' := []) (h' := h_501) (cl' := 0) (sl' := 0) rfl ?_
      refine fw_inc (a := i) (loc' := [some (.ref 7), some (fI (i + 1))]) rfl rfl (Nat.le_of_ble_eq_true rfl) rfl ?_
      refine ik_Wk 1 (pc' := 2) (loc' := [some (.ref 7), some (fI (i + 1))]) (st' := []) (h' := h_501) (cl' := 0) (sl' := 0) rfl ?_
      have h5 : ∀ x : Int, 0 ≤ x → x < i → (mx_w cn go ch s x).length ≤ 5 := by
        intro x x0 x1
        have a := (hcn x x0 (by omega)).1
        have b := mx_o_le (ch := ch) (s := s) (p := x)
        rw [mx_w_len]; omega
      exact ih  (i + 1) wg'_501 wc'_501 (we1.set i.toNat (5 * i + ((mx_w cn go ch s i).length : Int))) h_501 g_501_7 g_501_8 n8 g_501_9 n9 g_501_10 n10 g_501_11 m_501_11 g_501_12 m_501_12 g_501_13 m_501_13 k_501 fr_501 (by omega) (mx_wy_next (W := (fun x => mx_w cn go ch s x)) hy h5 (by omega) n13 p_501_0 p_501_1 p_501_2) (by omega)

theorem cs_settleAll {h : List ik_E} {pl : Int} {lo : Int} {s : Nat} {cn : List Int} {go : List Int} {ch : List Int} {wg : List Int} {wc : List Int} {we : List Int} (q0 : 0 ≤ pl ∧ pl ≤ 12) (q1 : s < 4096) (q2 : mx_rw pl cn go ch) (q3 : 1 ≤ pl → cn.getD (pl - 1).toNat 0 = 0) (q4 : 1 ≤ pl → s.testBit (pl - 1).toNat = false) (h7 : cE h 7 (.inr (0, [fI pl, fI ((s : Nat) : Int), fI lo, .ref 8, .ref 9, .ref 10, .ref 11, .ref 12, .ref 13]))) (h8 : cE h 8 (.inl (.int, fA cn))) (n8 : cn.length = 12) (h9 : cE h 9 (.inl (.int, fA go))) (n9 : go.length = 48) (h10 : cE h 10 (.inl (.int, fA ch))) (n10 : ch.length = 48) (h11 : cE h 11 (.inl (.int, fA wg))) (n11 : wg.length = 60) (h12 : cE h 12 (.inl (.int, fA wc))) (n12 : wc.length = 60) (h13 : cE h 13 (.inl (.int, fA we))) (n13 : we.length = 12) (hl : h.length = 94) : ik_F 11 [.ref 7] h (fun rv h' => ∃ (wg' : List Int) (wc' : List Int) (we' : List Int), rv = [] ∧ cE h' 11 (.inl (.int, fA wg')) ∧ wg'.length = 60 ∧ cE h' 12 (.inl (.int, fA wc')) ∧ wc'.length = 60 ∧ cE h' 13 (.inl (.int, fA we')) ∧ we'.length = 12 ∧ (∀ x : Int, 0 ≤ x → x < pl - 1 → mx_wy wg' wc' we' x (mx_w cn go ch s x)) ∧ hfr [11, 12, 13] h h') := by
  refine ik_Wk 2 (pc' := 2) (loc' := [some (.ref 7), some (fI 0)]) (st' := []) (h' := h) (cl' := 0) (sl' := 0) rfl ?_
  exact cs_settleAllL (pl := pl) (lo := lo) (s := s) (cn := cn) (go := go) (ch := ch) (wg := wg) (wc := wc) (we := we) q0 q1 q2 q3 q4  (pl.toNat + 1) 0 wg wc we h h7 h8 n8 h9 n9 h10 n10 h11 n11 h12 n12 h13 n13 hl (hfr_refl [11, 12, 13] h) (by omega) (fun x x0 x1 => absurd x1 (by omega)) (by omega)

theorem cp_keep0 {h : List ik_E} {pl : Int} {st : Int} {lo : Int} {it : Int} {im_ : Int} {id_ : Int} {is_ : Int} {e0 : Int} {e1 : Int} {e2 : Int} {e3 : Int} {e4 : Int} {e5 : Int} {y0 : Int} {y1 : Int} {ci : List Int} {ka : Int} {pa : Int} {fa : Int} {kb : Int} {pb : Int} {fb : Int} {xa : Int} {xb : Int} {mi : Int} {dr : Int} {ch : List Int}  (h0 : cE h 0 (.inr (9, [.ref 1, .ref 7, .ref 14, .ref 17, .ref 45, .ref 51, .ref 54, .ref 57]))) (h7 : cE h 7 (.inr (0, [fI pl, fI st, fI lo, .ref 8, .ref 9, .ref 10, .ref 11, .ref 12, .ref 13]))) (h10 : cE h 10 (.inl (.int, fA ch))) (n10 : ch.length = 48) (h14 : cE h 14 (.inr (1, [.ref 7, .ref 15, .ref 16, fI mi, fJ dr]))) (h15 : cE h 15 (.inl (.int, fA [ka, pa, fa, kb, pb, fb]))) (h16 : cE h 16 (.inl (.int, fA [xa, xb]))) (h57 : cE h 57 (.inl (.object "SlowerCork$Image", [.ref 58, .ref 62]))) (h58 : cE h 58 (.inr (3, [fI it, .ref 59, .ref 60, fI im_, fJ id_, fI is_, .ref 61]))) (h59 : cE h 59 (.inl (.int, fA [e0, e1, e2, e3, e4, e5]))) (h60 : cE h 60 (.inl (.int, fA [y0, y1]))) (h61 : cE h 61 (.inl (.int, fA ci))) (n61 : ci.length = 48) (hl : h.length = 94) : ik_F 119 [.ref 0, fI 0] h (fun rv h' => rv = [fI 1] ∧ cE h' 58 (.inr (3, [fI 1, .ref 59, .ref 60, fI mi, fJ dr, fI st, .ref 61])) ∧ cE h' 59 (.inl (.int, fA [ka, pa, fa, kb, pb, fb])) ∧ cE h' 60 (.inl (.int, fA [xa, xb])) ∧ cE h' 61 (.inl (.int, fA ch)) ∧ ch.length = 48 ∧ hfr [58, 59, 60, 61] h h') := by
  refine ik_Wk 2 (pc' := 2) (loc' := [some (.ref 0), some (fI 0)]) (st' := [fI 0, .ref 0]) (h' := h) (cl' := 0) (sl' := 0) rfl ?_
  refine ik_Wc 124 2 0 [.ref 0, fI 0] [] rfl rfl rfl (by decide) rfl rfl (fw_rec hl rfl h0 rfl (by decide)) ?_
  refine ik_Wk 0 (pc' := 0) (loc' := [some (.ref 0), some (fI 0)]) (st' := []) (h' := h) (cl' := 0) (sl' := 0) rfl ?_
  refine ik_Wk 1 (pc' := 1) (loc' := [some (.ref 0), some (fI 0)]) (st' := [fI 0]) (h' := h) (cl' := 0) (sl' := 0) rfl ?_
  refine fw_if_lt rfl rfl (by omega) (by omega) (fun hc1 => absurd hc1 (by omega)) (fun hc1 => ?_)
  refine ik_Wk 2 (pc' := 6) (loc' := [some (.ref 0), some (fI 0)]) (st' := [.ref 0, fI 0]) (h' := h) (cl' := 0) (sl' := 0) rfl ?_
  refine fw_gf rfl rfl h0 rfl ?_
  refine fx_aln (L := 2) rfl h57 (rfl : [(.ref 58 : Value), (.ref 62 : Value)].length = 2) (by decide) ?_
  refine fw_ic_ge rfl rfl (by omega) (by omega) (by omega) (by omega) (fun hc2 => absurd hc2 (by omega)) (fun hc2 => ?_)
  refine ik_Wk 2 (pc' := 18) (loc' := [some (.ref 0), some (fI 0)]) (st' := [fI 1]) (h' := h) (cl' := 0) (sl' := 0) rfl ?_
  refine ik_Wret rfl rfl ⟨_, _, rfl, rfl, ?_⟩
  refine ik_Wk 0 (pc' := 5) (loc' := [some (.ref 0), some (fI 0)]) (st' := [fI 1]) (h' := h) (cl' := 0) (sl' := 0) rfl ?_
  refine fw_if_ne rfl rfl (by omega) (by omega) (fun hc3 => absurd hc3 (by omega)) (fun hc3 => ?_)
  refine ik_Wk 1 (pc' := 12) (loc' := [some (.ref 0), some (fI 0)]) (st' := [.ref 0]) (h' := h) (cl' := 0) (sl' := 0) rfl ?_
  refine fw_gf rfl rfl h0 rfl ?_
  refine ik_Wk 1 (pc' := 16) (loc' := [some (.ref 0), some (fI 0)]) (st' := [fI 0, .ref 57]) (h' := h) (cl' := 0) (sl' := 0) rfl ?_
  refine fx_aal (z := 0) rfl h57 (by decide) (by decide) rfl ?_
  refine ik_Wk 1 (pc' := 18) (loc' := [some (.ref 0), some (fI 0)]) (st' := [.ref 0, .ref 58]) (h' := h) (cl' := 0) (sl' := 0) rfl ?_
  refine fw_gf rfl rfl h0 rfl ?_
  refine ik_Wk 1 (pc' := 22) (loc' := [some (.ref 0), some (fI 0)]) (st' := [.ref 0, .ref 7, .ref 58]) (h' := h) (cl' := 0) (sl' := 0) rfl ?_
  refine fw_gf rfl rfl h0 rfl ?_
  refine ik_Wc 34 3 0 [.ref 58, .ref 7, .ref 14] [] rfl rfl rfl (by decide) rfl rfl (fw_rec hl rfl h58 rfl (by decide)) ?_
  refine ik_Wk 0 (pc' := 0) (loc' := [some (.ref 58), some (.ref 7), some (.ref 14)]) (st' := []) (h' := h) (cl' := 0) (sl' := 0) rfl ?_
  refine ik_Wk 2 (pc' := 2) (loc' := [some (.ref 58), some (.ref 7), some (.ref 14)]) (st' := [fI 1, .ref 58]) (h' := h) (cl' := 0) (sl' := 0) rfl ?_
  refine fx_pf rfl rfl h58 (Nat.le_of_ble_eq_true rfl) rfl rfl ?_
  intro h_502 e_502 f_502 l_502
  have k_502 := l_502.trans hl
  have fr_502 := hfr_w (hfr_refl [58, 59, 60, 61] h) f_502 l_502 (by decide)
  have g_502_0 := (f_502 0 (by decide)).trans h0
  have g_502_7 := (f_502 7 (by decide)).trans h7
  have g_502_10 := (f_502 10 (by decide)).trans h10
  have g_502_14 := (f_502 14 (by decide)).trans h14
  have g_502_15 := (f_502 15 (by decide)).trans h15
  have g_502_16 := (f_502 16 (by decide)).trans h16
  have g_502_57 := (f_502 57 (by decide)).trans h57
  have g_502_59 := (f_502 59 (by decide)).trans h59
  have g_502_60 := (f_502 60 (by decide)).trans h60
  have g_502_61 := (f_502 61 (by decide)).trans h61
  have g_502_58 : cE h_502 58 (.inr (3, [fI 1, .ref 59, .ref 60, fI im_, fJ id_, fI is_, .ref 61])) := e_502
  refine ik_Wk 1 (pc' := 6) (loc' := [some (.ref 58), some (.ref 7), some (.ref 14)]) (st' := [.ref 14]) (h' := h_502) (cl' := 0) (sl' := 0) rfl ?_
  refine fw_gf rfl rfl g_502_14 rfl ?_
  refine ik_Wk 2 (pc' := 11) (loc' := [some (.ref 58), some (.ref 7), some (.ref 14)]) (st' := [.ref 58, fI 0, .ref 15]) (h' := h_502) (cl' := 0) (sl' := 0) rfl ?_
  refine fw_gf rfl rfl g_502_58 rfl ?_
  refine ik_Wk 2 (pc' := 16) (loc' := [some (.ref 58), some (.ref 7), some (.ref 14)]) (st' := [.ref 58, fI 0, .ref 59, fI 0, .ref 15]) (h' := h_502) (cl' := 0) (sl' := 0) rfl ?_
  refine fw_gf rfl rfl g_502_58 rfl ?_
  refine fx_aln (L := 6) rfl g_502_59 rfl (by decide) ?_
  refine fx_cpy (xs := [ka, pa, fa, kb, pb, fb]) (ys := [e0, e1, e2, e3, e4, e5]) (n := 6) rfl rfl rfl g_502_15 g_502_59 (by decide) (by decide) rfl rfl (by decide) ⟨Nat.le_of_ble_eq_true rfl, Nat.le_of_ble_eq_true rfl, Nat.le_of_ble_eq_true rfl⟩ ?_
  intro h_503 e_503 f_503 l_503
  have k_503 := l_503.trans k_502
  have fr_503 := hfr_w fr_502 f_503 l_503 (by decide)
  have g_503_0 := (f_503 0 (by decide)).trans g_502_0
  have g_503_7 := (f_503 7 (by decide)).trans g_502_7
  have g_503_10 := (f_503 10 (by decide)).trans g_502_10
  have g_503_14 := (f_503 14 (by decide)).trans g_502_14
  have g_503_15 := (f_503 15 (by decide)).trans g_502_15
  have g_503_16 := (f_503 16 (by decide)).trans g_502_16
  have g_503_57 := (f_503 57 (by decide)).trans g_502_57
  have g_503_58 := (f_503 58 (by decide)).trans g_502_58
  have g_503_60 := (f_503 60 (by decide)).trans g_502_60
  have g_503_61 := (f_503 61 (by decide)).trans g_502_61
  have g_503_59 : cE h_503 59 (.inl (.int, fA [ka, pa, fa, kb, pb, fb])) := e_503
  refine ik_Wk 1 (pc' := 24) (loc' := [some (.ref 58), some (.ref 7), some (.ref 14)]) (st' := [.ref 14]) (h' := h_503) (cl' := 0) (sl' := 0) rfl ?_
  refine fw_gf rfl rfl g_503_14 rfl ?_
  refine ik_Wk 2 (pc' := 29) (loc' := [some (.ref 58), some (.ref 7), some (.ref 14)]) (st' := [.ref 58, fI 0, .ref 16]) (h' := h_503) (cl' := 0) (sl' := 0) rfl ?_
  refine fw_gf rfl rfl g_503_58 rfl ?_
  refine ik_Wk 2 (pc' := 34) (loc' := [some (.ref 58), some (.ref 7), some (.ref 14)]) (st' := [.ref 58, fI 0, .ref 60, fI 0, .ref 16]) (h' := h_503) (cl' := 0) (sl' := 0) rfl ?_
  refine fw_gf rfl rfl g_503_58 rfl ?_
  refine fx_aln (L := 2) rfl g_503_60 rfl (by decide) ?_
  refine fx_cpy (xs := [xa, xb]) (ys := [y0, y1]) (n := 2) rfl rfl rfl g_503_16 g_503_60 (by decide) (by decide) rfl rfl (by decide) ⟨Nat.le_of_ble_eq_true rfl, Nat.le_of_ble_eq_true rfl, Nat.le_of_ble_eq_true rfl⟩ ?_
  intro h_504 e_504 f_504 l_504
  have k_504 := l_504.trans k_503
  have fr_504 := hfr_w fr_503 f_504 l_504 (by decide)
  have g_504_0 := (f_504 0 (by decide)).trans g_503_0
  have g_504_7 := (f_504 7 (by decide)).trans g_503_7
  have g_504_10 := (f_504 10 (by decide)).trans g_503_10
  have g_504_14 := (f_504 14 (by decide)).trans g_503_14
  have g_504_15 := (f_504 15 (by decide)).trans g_503_15
  have g_504_16 := (f_504 16 (by decide)).trans g_503_16
  have g_504_57 := (f_504 57 (by decide)).trans g_503_57
  have g_504_58 := (f_504 58 (by decide)).trans g_503_58
  have g_504_59 := (f_504 59 (by decide)).trans g_503_59
  have g_504_61 := (f_504 61 (by decide)).trans g_503_61
  have g_504_60 : cE h_504 60 (.inl (.int, fA [xa, xb])) := e_504
  refine ik_Wk 2 (pc' := 43) (loc' := [some (.ref 58), some (.ref 7), some (.ref 14)]) (st' := [.ref 14, .ref 58]) (h' := h_504) (cl' := 0) (sl' := 0) rfl ?_
  refine fw_gf rfl rfl g_504_14 rfl ?_
  refine fx_pf rfl rfl g_504_58 (Nat.le_of_ble_eq_true rfl) rfl rfl ?_
  intro h_505 e_505 f_505 l_505
  have k_505 := l_505.trans k_504
  have fr_505 := hfr_w fr_504 f_505 l_505 (by decide)
  have g_505_0 := (f_505 0 (by decide)).trans g_504_0
  have g_505_7 := (f_505 7 (by decide)).trans g_504_7
  have g_505_10 := (f_505 10 (by decide)).trans g_504_10
  have g_505_14 := (f_505 14 (by decide)).trans g_504_14
  have g_505_15 := (f_505 15 (by decide)).trans g_504_15
  have g_505_16 := (f_505 16 (by decide)).trans g_504_16
  have g_505_57 := (f_505 57 (by decide)).trans g_504_57
  have g_505_59 := (f_505 59 (by decide)).trans g_504_59
  have g_505_60 := (f_505 60 (by decide)).trans g_504_60
  have g_505_61 := (f_505 61 (by decide)).trans g_504_61
  have g_505_58 : cE h_505 58 (.inr (3, [fI 1, .ref 59, .ref 60, fI mi, fJ id_, fI is_, .ref 61])) := e_505
  refine ik_Wk 2 (pc' := 51) (loc' := [some (.ref 58), some (.ref 7), some (.ref 14)]) (st' := [.ref 14, .ref 58]) (h' := h_505) (cl' := 0) (sl' := 0) rfl ?_
  refine fw_gf rfl rfl g_505_14 rfl ?_
  refine fx_pf rfl rfl g_505_58 (Nat.le_of_ble_eq_true rfl) rfl rfl ?_
  intro h_506 e_506 f_506 l_506
  have k_506 := l_506.trans k_505
  have fr_506 := hfr_w fr_505 f_506 l_506 (by decide)
  have g_506_0 := (f_506 0 (by decide)).trans g_505_0
  have g_506_7 := (f_506 7 (by decide)).trans g_505_7
  have g_506_10 := (f_506 10 (by decide)).trans g_505_10
  have g_506_14 := (f_506 14 (by decide)).trans g_505_14
  have g_506_15 := (f_506 15 (by decide)).trans g_505_15
  have g_506_16 := (f_506 16 (by decide)).trans g_505_16
  have g_506_57 := (f_506 57 (by decide)).trans g_505_57
  have g_506_59 := (f_506 59 (by decide)).trans g_505_59
  have g_506_60 := (f_506 60 (by decide)).trans g_505_60
  have g_506_61 := (f_506 61 (by decide)).trans g_505_61
  have g_506_58 : cE h_506 58 (.inr (3, [fI 1, .ref 59, .ref 60, fI mi, fJ dr, fI is_, .ref 61])) := e_506
  refine ik_Wk 2 (pc' := 59) (loc' := [some (.ref 58), some (.ref 7), some (.ref 14)]) (st' := [.ref 7, .ref 58]) (h' := h_506) (cl' := 0) (sl' := 0) rfl ?_
  refine fw_gf rfl rfl g_506_7 rfl ?_
  refine fx_pf rfl rfl g_506_58 (Nat.le_of_ble_eq_true rfl) rfl rfl ?_
  intro h_507 e_507 f_507 l_507
  have k_507 := l_507.trans k_506
  have fr_507 := hfr_w fr_506 f_507 l_507 (by decide)
  have g_507_0 := (f_507 0 (by decide)).trans g_506_0
  have g_507_7 := (f_507 7 (by decide)).trans g_506_7
  have g_507_10 := (f_507 10 (by decide)).trans g_506_10
  have g_507_14 := (f_507 14 (by decide)).trans g_506_14
  have g_507_15 := (f_507 15 (by decide)).trans g_506_15
  have g_507_16 := (f_507 16 (by decide)).trans g_506_16
  have g_507_57 := (f_507 57 (by decide)).trans g_506_57
  have g_507_59 := (f_507 59 (by decide)).trans g_506_59
  have g_507_60 := (f_507 60 (by decide)).trans g_506_60
  have g_507_61 := (f_507 61 (by decide)).trans g_506_61
  have g_507_58 : cE h_507 58 (.inr (3, [fI 1, .ref 59, .ref 60, fI mi, fJ dr, fI st, .ref 61])) := e_507
  refine ik_Wk 1 (pc' := 66) (loc' := [some (.ref 58), some (.ref 7), some (.ref 14)]) (st' := [.ref 7]) (h' := h_507) (cl' := 0) (sl' := 0) rfl ?_
  refine fw_gf rfl rfl g_507_7 rfl ?_
  refine ik_Wk 2 (pc' := 71) (loc' := [some (.ref 58), some (.ref 7), some (.ref 14)]) (st' := [.ref 58, fI 0, .ref 10]) (h' := h_507) (cl' := 0) (sl' := 0) rfl ?_
  refine fw_gf rfl rfl g_507_58 rfl ?_
  refine ik_Wk 2 (pc' := 76) (loc' := [some (.ref 58), some (.ref 7), some (.ref 14)]) (st' := [.ref 58, fI 0, .ref 61, fI 0, .ref 10]) (h' := h_507) (cl' := 0) (sl' := 0) rfl ?_
  refine fw_gf rfl rfl g_507_58 rfl ?_
  refine fx_aln rfl g_507_61 ((fA_len _).trans n61) (by decide) ?_
  refine fx_cpy rfl rfl rfl g_507_10 g_507_61 (by decide) (by decide) n10 n61 (by decide) ⟨Nat.le_of_ble_eq_true rfl, Nat.le_of_ble_eq_true rfl, Nat.le_of_ble_eq_true rfl⟩ ?_
  intro h_508 e_508 f_508 l_508
  have k_508 := l_508.trans k_507
  have fr_508 := hfr_w fr_507 f_508 l_508 (by decide)
  have g_508_0 := (f_508 0 (by decide)).trans g_507_0
  have g_508_7 := (f_508 7 (by decide)).trans g_507_7
  have g_508_10 := (f_508 10 (by decide)).trans g_507_10
  have g_508_14 := (f_508 14 (by decide)).trans g_507_14
  have g_508_15 := (f_508 15 (by decide)).trans g_507_15
  have g_508_16 := (f_508 16 (by decide)).trans g_507_16
  have g_508_57 := (f_508 57 (by decide)).trans g_507_57
  have g_508_58 := (f_508 58 (by decide)).trans g_507_58
  have g_508_59 := (f_508 59 (by decide)).trans g_507_59
  have g_508_60 := (f_508 60 (by decide)).trans g_507_60
  have g_508_61 : cE h_508 61 (.inl (.int, fA ch)) := e_508
  refine ik_Wret rfl rfl ⟨_, _, rfl, rfl, ?_⟩
  refine ik_Wk 0 (pc' := 28) (loc' := [some (.ref 0), some (fI 0)]) (st' := []) (h' := h_508) (cl' := 0) (sl' := 0) rfl ?_
  refine ik_Wk 1 (pc' := 29) (loc' := [some (.ref 0), some (fI 0)]) (st' := [fI 1]) (h' := h_508) (cl' := 0) (sl' := 0) rfl ?_
  exact ik_Wret rfl rfl ⟨_, _, rfl, rfl, rfl, rfl, ⟨rfl, g_508_58, g_508_59, g_508_60, g_508_61, n10, fr_508⟩⟩

theorem cp_goBack0T {h : List ik_E} {pl : Int} {s : Nat} {lo : Int} {im_ : Int} {id_ : Int} {s2 : Nat} {e0 : Int} {e1 : Int} {e2 : Int} {e3 : Int} {e4 : Int} {e5 : Int} {y0 : Int} {y1 : Int} {ci : List Int} {ka : Int} {pa : Int} {fa : Int} {kb : Int} {pb : Int} {fb : Int} {xa : Int} {xb : Int} {mi : Int} {dr : Int} {cn : List Int} {go : List Int} {ch : List Int} {wg : List Int} {wc : List Int} {we : List Int} (q0 : 0 ≤ pl ∧ pl ≤ 12) (q1 : s2 < 4096) (q2 : mx_rw pl cn go ci) (q3 : 1 ≤ pl → cn.getD (pl - 1).toNat 0 = 0) (q4 : 1 ≤ pl → s2.testBit (pl - 1).toNat = false) (h0 : cE h 0 (.inr (9, [.ref 1, .ref 7, .ref 14, .ref 17, .ref 45, .ref 51, .ref 54, .ref 57]))) (h7 : cE h 7 (.inr (0, [fI pl, fI ((s : Nat) : Int), fI lo, .ref 8, .ref 9, .ref 10, .ref 11, .ref 12, .ref 13]))) (h8 : cE h 8 (.inl (.int, fA cn))) (n8 : cn.length = 12) (h9 : cE h 9 (.inl (.int, fA go))) (n9 : go.length = 48) (h10 : cE h 10 (.inl (.int, fA ch))) (n10 : ch.length = 48) (h11 : cE h 11 (.inl (.int, fA wg))) (n11 : wg.length = 60) (h12 : cE h 12 (.inl (.int, fA wc))) (n12 : wc.length = 60) (h13 : cE h 13 (.inl (.int, fA we))) (n13 : we.length = 12) (h14 : cE h 14 (.inr (1, [.ref 7, .ref 15, .ref 16, fI mi, fJ dr]))) (h15 : cE h 15 (.inl (.int, fA [ka, pa, fa, kb, pb, fb]))) (h16 : cE h 16 (.inl (.int, fA [xa, xb]))) (h57 : cE h 57 (.inl (.object "SlowerCork$Image", [.ref 58, .ref 62]))) (h58 : cE h 58 (.inr (3, [fI 1, .ref 59, .ref 60, fI im_, fJ id_, fI ((s2 : Nat) : Int), .ref 61]))) (h59 : cE h 59 (.inl (.int, fA [e0, e1, e2, e3, e4, e5]))) (h60 : cE h 60 (.inl (.int, fA [y0, y1]))) (h61 : cE h 61 (.inl (.int, fA ci))) (n61 : ci.length = 48) (hl : h.length = 94) : ik_F 120 [.ref 0, fI 0] h (fun rv h' => ∃ (wg' : List Int) (wc' : List Int) (we' : List Int), rv = [fI 1] ∧ cE h' 7 (.inr (0, [fI pl, fI ((s2 : Nat) : Int), fI lo, .ref 8, .ref 9, .ref 10, .ref 11, .ref 12, .ref 13])) ∧ cE h' 10 (.inl (.int, fA ci)) ∧ ci.length = 48 ∧ cE h' 11 (.inl (.int, fA wg')) ∧ wg'.length = 60 ∧ cE h' 12 (.inl (.int, fA wc')) ∧ wc'.length = 60 ∧ cE h' 13 (.inl (.int, fA we')) ∧ we'.length = 12 ∧ cE h' 14 (.inr (1, [.ref 7, .ref 15, .ref 16, fI im_, fJ id_])) ∧ cE h' 15 (.inl (.int, fA [e0, e1, e2, e3, e4, e5])) ∧ cE h' 16 (.inl (.int, fA [y0, y1])) ∧ (∀ x : Int, 0 ≤ x → x < pl - 1 → mx_wy wg' wc' we' x (mx_w cn go ci s2 x)) ∧ hfr [7, 10, 11, 12, 13, 14, 15, 16] h h') := by
  refine ik_Wk 2 (pc' := 2) (loc' := [some (.ref 0), some (fI 0)]) (st' := [fI 0, .ref 0]) (h' := h) (cl' := 0) (sl' := 0) rfl ?_
  refine ik_Wc 124 2 0 [.ref 0, fI 0] [] rfl rfl rfl (by decide) rfl rfl (fw_rec hl rfl h0 rfl (by decide)) ?_
  refine ik_Wk 0 (pc' := 0) (loc' := [some (.ref 0), some (fI 0)]) (st' := []) (h' := h) (cl' := 0) (sl' := 0) rfl ?_
  refine ik_Wk 1 (pc' := 1) (loc' := [some (.ref 0), some (fI 0)]) (st' := [fI 0]) (h' := h) (cl' := 0) (sl' := 0) rfl ?_
  refine fw_if_lt rfl rfl (by omega) (by omega) (fun hc1 => absurd hc1 (by omega)) (fun hc1 => ?_)
  refine ik_Wk 2 (pc' := 6) (loc' := [some (.ref 0), some (fI 0)]) (st' := [.ref 0, fI 0]) (h' := h) (cl' := 0) (sl' := 0) rfl ?_
  refine fw_gf rfl rfl h0 rfl ?_
  refine fx_aln (L := 2) rfl h57 (rfl : [(.ref 58 : Value), (.ref 62 : Value)].length = 2) (by decide) ?_
  refine fw_ic_ge rfl rfl (by omega) (by omega) (by omega) (by omega) (fun hc2 => absurd hc2 (by omega)) (fun hc2 => ?_)
  refine ik_Wk 2 (pc' := 18) (loc' := [some (.ref 0), some (fI 0)]) (st' := [fI 1]) (h' := h) (cl' := 0) (sl' := 0) rfl ?_
  refine ik_Wret rfl rfl ⟨_, _, rfl, rfl, ?_⟩
  refine ik_Wk 0 (pc' := 5) (loc' := [some (.ref 0), some (fI 0)]) (st' := [fI 1]) (h' := h) (cl' := 0) (sl' := 0) rfl ?_
  refine fw_if_ne rfl rfl (by omega) (by omega) (fun hc3 => absurd hc3 (by omega)) (fun hc3 => ?_)
  refine ik_Wk 1 (pc' := 12) (loc' := [some (.ref 0), some (fI 0)]) (st' := [.ref 0]) (h' := h) (cl' := 0) (sl' := 0) rfl ?_
  refine fw_gf rfl rfl h0 rfl ?_
  refine ik_Wk 1 (pc' := 16) (loc' := [some (.ref 0), some (fI 0)]) (st' := [fI 0, .ref 57]) (h' := h) (cl' := 0) (sl' := 0) rfl ?_
  refine fx_aal (z := 0) rfl h57 (by decide) (by decide) rfl ?_
  refine fw_gf rfl rfl h58 rfl ?_
  refine fw_if_ne rfl rfl (by omega) (by omega) (fun hc4 => absurd hc4 (by omega)) (fun hc4 => ?_)
  refine ik_Wk 1 (pc' := 27) (loc' := [some (.ref 0), some (fI 0)]) (st' := [.ref 0]) (h' := h) (cl' := 0) (sl' := 0) rfl ?_
  refine fw_gf rfl rfl h0 rfl ?_
  refine ik_Wk 1 (pc' := 31) (loc' := [some (.ref 0), some (fI 0)]) (st' := [fI 0, .ref 57]) (h' := h) (cl' := 0) (sl' := 0) rfl ?_
  refine fx_aal (z := 0) rfl h57 (by decide) (by decide) rfl ?_
  refine ik_Wk 1 (pc' := 33) (loc' := [some (.ref 0), some (fI 0)]) (st' := [.ref 0, .ref 58]) (h' := h) (cl' := 0) (sl' := 0) rfl ?_
  refine fw_gf rfl rfl h0 rfl ?_
  refine ik_Wk 1 (pc' := 37) (loc' := [some (.ref 0), some (fI 0)]) (st' := [.ref 0, .ref 7, .ref 58]) (h' := h) (cl' := 0) (sl' := 0) rfl ?_
  refine fw_gf rfl rfl h0 rfl ?_
  refine ik_Wc 35 3 0 [.ref 58, .ref 7, .ref 14] [] rfl rfl rfl (by decide) rfl rfl (fw_rec hl rfl h58 rfl (by decide)) ?_
  refine ik_Wk 0 (pc' := 0) (loc' := [some (.ref 58), some (.ref 7), some (.ref 14)]) (st' := []) (h' := h) (cl' := 0) (sl' := 0) rfl ?_
  refine ik_Wk 1 (pc' := 1) (loc' := [some (.ref 58), some (.ref 7), some (.ref 14)]) (st' := [.ref 58]) (h' := h) (cl' := 0) (sl' := 0) rfl ?_
  refine fw_gf rfl rfl h58 rfl ?_
  refine ik_Wk 2 (pc' := 6) (loc' := [some (.ref 58), some (.ref 7), some (.ref 14)]) (st' := [.ref 14, fI 0, .ref 59]) (h' := h) (cl' := 0) (sl' := 0) rfl ?_
  refine fw_gf rfl rfl h14 rfl ?_
  refine ik_Wk 2 (pc' := 11) (loc' := [some (.ref 58), some (.ref 7), some (.ref 14)]) (st' := [.ref 58, fI 0, .ref 15, fI 0, .ref 59]) (h' := h) (cl' := 0) (sl' := 0) rfl ?_
  refine fw_gf rfl rfl h58 rfl ?_
  refine fx_aln (L := 6) rfl h59 rfl (by decide) ?_
  refine fx_cpy (xs := [e0, e1, e2, e3, e4, e5]) (ys := [ka, pa, fa, kb, pb, fb]) (n := 6) rfl rfl rfl h59 h15 (by decide) (by decide) rfl rfl (by decide) ⟨Nat.le_of_ble_eq_true rfl, Nat.le_of_ble_eq_true rfl, Nat.le_of_ble_eq_true rfl⟩ ?_
  intro h_509 e_509 f_509 l_509
  have k_509 := l_509.trans hl
  have fr_509 := hfr_w (hfr_refl [7, 10, 11, 12, 13, 14, 15, 16] h) f_509 l_509 (by decide)
  have g_509_0 := (f_509 0 (by decide)).trans h0
  have g_509_7 := (f_509 7 (by decide)).trans h7
  have g_509_8 := (f_509 8 (by decide)).trans h8
  have g_509_9 := (f_509 9 (by decide)).trans h9
  have g_509_10 := (f_509 10 (by decide)).trans h10
  have g_509_11 := (f_509 11 (by decide)).trans h11
  have g_509_12 := (f_509 12 (by decide)).trans h12
  have g_509_13 := (f_509 13 (by decide)).trans h13
  have g_509_14 := (f_509 14 (by decide)).trans h14
  have g_509_16 := (f_509 16 (by decide)).trans h16
  have g_509_57 := (f_509 57 (by decide)).trans h57
  have g_509_58 := (f_509 58 (by decide)).trans h58
  have g_509_59 := (f_509 59 (by decide)).trans h59
  have g_509_60 := (f_509 60 (by decide)).trans h60
  have g_509_61 := (f_509 61 (by decide)).trans h61
  have g_509_15 : cE h_509 15 (.inl (.int, fA [e0, e1, e2, e3, e4, e5])) := e_509
  refine ik_Wk 1 (pc' := 19) (loc' := [some (.ref 58), some (.ref 7), some (.ref 14)]) (st' := [.ref 58]) (h' := h_509) (cl' := 0) (sl' := 0) rfl ?_
  refine fw_gf rfl rfl g_509_58 rfl ?_
  refine ik_Wk 2 (pc' := 24) (loc' := [some (.ref 58), some (.ref 7), some (.ref 14)]) (st' := [.ref 14, fI 0, .ref 60]) (h' := h_509) (cl' := 0) (sl' := 0) rfl ?_
  refine fw_gf rfl rfl g_509_14 rfl ?_
  refine ik_Wk 2 (pc' := 29) (loc' := [some (.ref 58), some (.ref 7), some (.ref 14)]) (st' := [.ref 58, fI 0, .ref 16, fI 0, .ref 60]) (h' := h_509) (cl' := 0) (sl' := 0) rfl ?_
  refine fw_gf rfl rfl g_509_58 rfl ?_
  refine fx_aln (L := 2) rfl g_509_60 rfl (by decide) ?_
  refine fx_cpy (xs := [y0, y1]) (ys := [xa, xb]) (n := 2) rfl rfl rfl g_509_60 g_509_16 (by decide) (by decide) rfl rfl (by decide) ⟨Nat.le_of_ble_eq_true rfl, Nat.le_of_ble_eq_true rfl, Nat.le_of_ble_eq_true rfl⟩ ?_
  intro h_510 e_510 f_510 l_510
  have k_510 := l_510.trans k_509
  have fr_510 := hfr_w fr_509 f_510 l_510 (by decide)
  have g_510_0 := (f_510 0 (by decide)).trans g_509_0
  have g_510_7 := (f_510 7 (by decide)).trans g_509_7
  have g_510_8 := (f_510 8 (by decide)).trans g_509_8
  have g_510_9 := (f_510 9 (by decide)).trans g_509_9
  have g_510_10 := (f_510 10 (by decide)).trans g_509_10
  have g_510_11 := (f_510 11 (by decide)).trans g_509_11
  have g_510_12 := (f_510 12 (by decide)).trans g_509_12
  have g_510_13 := (f_510 13 (by decide)).trans g_509_13
  have g_510_14 := (f_510 14 (by decide)).trans g_509_14
  have g_510_15 := (f_510 15 (by decide)).trans g_509_15
  have g_510_57 := (f_510 57 (by decide)).trans g_509_57
  have g_510_58 := (f_510 58 (by decide)).trans g_509_58
  have g_510_59 := (f_510 59 (by decide)).trans g_509_59
  have g_510_60 := (f_510 60 (by decide)).trans g_509_60
  have g_510_61 := (f_510 61 (by decide)).trans g_509_61
  have g_510_16 : cE h_510 16 (.inl (.int, fA [y0, y1])) := e_510
  refine ik_Wk 2 (pc' := 38) (loc' := [some (.ref 58), some (.ref 7), some (.ref 14)]) (st' := [.ref 58, .ref 14]) (h' := h_510) (cl' := 0) (sl' := 0) rfl ?_
  refine fw_gf rfl rfl g_510_58 rfl ?_
  refine fx_pf rfl rfl g_510_14 (Nat.le_of_ble_eq_true rfl) rfl rfl ?_
  intro h_511 e_511 f_511 l_511
  have k_511 := l_511.trans k_510
  have fr_511 := hfr_w fr_510 f_511 l_511 (by decide)
  have g_511_0 := (f_511 0 (by decide)).trans g_510_0
  have g_511_7 := (f_511 7 (by decide)).trans g_510_7
  have g_511_8 := (f_511 8 (by decide)).trans g_510_8
  have g_511_9 := (f_511 9 (by decide)).trans g_510_9
  have g_511_10 := (f_511 10 (by decide)).trans g_510_10
  have g_511_11 := (f_511 11 (by decide)).trans g_510_11
  have g_511_12 := (f_511 12 (by decide)).trans g_510_12
  have g_511_13 := (f_511 13 (by decide)).trans g_510_13
  have g_511_15 := (f_511 15 (by decide)).trans g_510_15
  have g_511_16 := (f_511 16 (by decide)).trans g_510_16
  have g_511_57 := (f_511 57 (by decide)).trans g_510_57
  have g_511_58 := (f_511 58 (by decide)).trans g_510_58
  have g_511_59 := (f_511 59 (by decide)).trans g_510_59
  have g_511_60 := (f_511 60 (by decide)).trans g_510_60
  have g_511_61 := (f_511 61 (by decide)).trans g_510_61
  have g_511_14 : cE h_511 14 (.inr (1, [.ref 7, .ref 15, .ref 16, fI im_, fJ dr])) := e_511
  refine ik_Wk 2 (pc' := 46) (loc' := [some (.ref 58), some (.ref 7), some (.ref 14)]) (st' := [.ref 58, .ref 14]) (h' := h_511) (cl' := 0) (sl' := 0) rfl ?_
  refine fw_gf rfl rfl g_511_58 rfl ?_
  refine fx_pf rfl rfl g_511_14 (Nat.le_of_ble_eq_true rfl) rfl rfl ?_
  intro h_512 e_512 f_512 l_512
  have k_512 := l_512.trans k_511
  have fr_512 := hfr_w fr_511 f_512 l_512 (by decide)
  have g_512_0 := (f_512 0 (by decide)).trans g_511_0
  have g_512_7 := (f_512 7 (by decide)).trans g_511_7
  have g_512_8 := (f_512 8 (by decide)).trans g_511_8
  have g_512_9 := (f_512 9 (by decide)).trans g_511_9
  have g_512_10 := (f_512 10 (by decide)).trans g_511_10
  have g_512_11 := (f_512 11 (by decide)).trans g_511_11
  have g_512_12 := (f_512 12 (by decide)).trans g_511_12
  have g_512_13 := (f_512 13 (by decide)).trans g_511_13
  have g_512_15 := (f_512 15 (by decide)).trans g_511_15
  have g_512_16 := (f_512 16 (by decide)).trans g_511_16
  have g_512_57 := (f_512 57 (by decide)).trans g_511_57
  have g_512_58 := (f_512 58 (by decide)).trans g_511_58
  have g_512_59 := (f_512 59 (by decide)).trans g_511_59
  have g_512_60 := (f_512 60 (by decide)).trans g_511_60
  have g_512_61 := (f_512 61 (by decide)).trans g_511_61
  have g_512_14 : cE h_512 14 (.inr (1, [.ref 7, .ref 15, .ref 16, fI im_, fJ id_])) := e_512
  refine ik_Wk 2 (pc' := 54) (loc' := [some (.ref 58), some (.ref 7), some (.ref 14)]) (st' := [.ref 58, .ref 7]) (h' := h_512) (cl' := 0) (sl' := 0) rfl ?_
  refine fw_gf rfl rfl g_512_58 rfl ?_
  refine fx_pf rfl rfl g_512_7 (Nat.le_of_ble_eq_true rfl) rfl rfl ?_
  intro h_513 e_513 f_513 l_513
  have k_513 := l_513.trans k_512
  have fr_513 := hfr_w fr_512 f_513 l_513 (by decide)
  have g_513_0 := (f_513 0 (by decide)).trans g_512_0
  have g_513_8 := (f_513 8 (by decide)).trans g_512_8
  have g_513_9 := (f_513 9 (by decide)).trans g_512_9
  have g_513_10 := (f_513 10 (by decide)).trans g_512_10
  have g_513_11 := (f_513 11 (by decide)).trans g_512_11
  have g_513_12 := (f_513 12 (by decide)).trans g_512_12
  have g_513_13 := (f_513 13 (by decide)).trans g_512_13
  have g_513_14 := (f_513 14 (by decide)).trans g_512_14
  have g_513_15 := (f_513 15 (by decide)).trans g_512_15
  have g_513_16 := (f_513 16 (by decide)).trans g_512_16
  have g_513_57 := (f_513 57 (by decide)).trans g_512_57
  have g_513_58 := (f_513 58 (by decide)).trans g_512_58
  have g_513_59 := (f_513 59 (by decide)).trans g_512_59
  have g_513_60 := (f_513 60 (by decide)).trans g_512_60
  have g_513_61 := (f_513 61 (by decide)).trans g_512_61
  have g_513_7 : cE h_513 7 (.inr (0, [fI pl, fI ((s2 : Nat) : Int), fI lo, .ref 8, .ref 9, .ref 10, .ref 11, .ref 12, .ref 13])) := e_513
  refine ik_Wk 1 (pc' := 61) (loc' := [some (.ref 58), some (.ref 7), some (.ref 14)]) (st' := [.ref 58]) (h' := h_513) (cl' := 0) (sl' := 0) rfl ?_
  refine fw_gf rfl rfl g_513_58 rfl ?_
  refine ik_Wk 2 (pc' := 66) (loc' := [some (.ref 58), some (.ref 7), some (.ref 14)]) (st' := [.ref 7, fI 0, .ref 61]) (h' := h_513) (cl' := 0) (sl' := 0) rfl ?_
  refine fw_gf rfl rfl g_513_7 rfl ?_
  refine ik_Wk 2 (pc' := 71) (loc' := [some (.ref 58), some (.ref 7), some (.ref 14)]) (st' := [.ref 58, fI 0, .ref 10, fI 0, .ref 61]) (h' := h_513) (cl' := 0) (sl' := 0) rfl ?_
  refine fw_gf rfl rfl g_513_58 rfl ?_
  refine fx_aln rfl g_513_61 ((fA_len _).trans n61) (by decide) ?_
  refine fx_cpy rfl rfl rfl g_513_61 g_513_10 (by decide) (by decide) n61 n10 (by decide) ⟨Nat.le_of_ble_eq_true rfl, Nat.le_of_ble_eq_true rfl, Nat.le_of_ble_eq_true rfl⟩ ?_
  intro h_514 e_514 f_514 l_514
  have k_514 := l_514.trans k_513
  have fr_514 := hfr_w fr_513 f_514 l_514 (by decide)
  have g_514_0 := (f_514 0 (by decide)).trans g_513_0
  have g_514_7 := (f_514 7 (by decide)).trans g_513_7
  have g_514_8 := (f_514 8 (by decide)).trans g_513_8
  have g_514_9 := (f_514 9 (by decide)).trans g_513_9
  have g_514_11 := (f_514 11 (by decide)).trans g_513_11
  have g_514_12 := (f_514 12 (by decide)).trans g_513_12
  have g_514_13 := (f_514 13 (by decide)).trans g_513_13
  have g_514_14 := (f_514 14 (by decide)).trans g_513_14
  have g_514_15 := (f_514 15 (by decide)).trans g_513_15
  have g_514_16 := (f_514 16 (by decide)).trans g_513_16
  have g_514_57 := (f_514 57 (by decide)).trans g_513_57
  have g_514_58 := (f_514 58 (by decide)).trans g_513_58
  have g_514_59 := (f_514 59 (by decide)).trans g_513_59
  have g_514_60 := (f_514 60 (by decide)).trans g_513_60
  have g_514_61 := (f_514 61 (by decide)).trans g_513_61
  have g_514_10 : cE h_514 10 (.inl (.int, fA ci)) := e_514
  refine ik_Wk 1 (pc' := 79) (loc' := [some (.ref 58), some (.ref 7), some (.ref 14)]) (st' := [.ref 7]) (h' := h_514) (cl' := 0) (sl' := 0) rfl ?_
  refine fw_call 11 1 0 [.ref 7] [] rfl rfl rfl (by decide) rfl rfl (fw_rec k_514 rfl g_514_7 rfl (by decide)) (cs_settleAll (pl := pl) (lo := lo) (s := s2) (cn := cn) (go := go) (ch := ci) (wg := wg) (wc := wc) (we := we) (by omega) q1 q2 q3 q4 g_514_7 g_514_8 n8 g_514_9 n9 g_514_10 n61 g_514_11 n11 g_514_12 n12 g_514_13 n13 k_514) ?_
  rintro _ h_515 ⟨wg'_515, wc'_515, we'_515, rfl, e_515_11, m_515_11, e_515_12, m_515_12, e_515_13, m_515_13, p_515_0, F_515⟩
  have k_515 := F_515.1.trans k_514
  have fr_515 := hfr_c fr_514 F_515 (by decide)
  have g_515_0 := (F_515.2 0 (by decide +kernel)).trans g_514_0
  have g_515_7 := (F_515.2 7 (by decide +kernel)).trans g_514_7
  have g_515_8 := (F_515.2 8 (by decide +kernel)).trans g_514_8
  have g_515_9 := (F_515.2 9 (by decide +kernel)).trans g_514_9
  have g_515_10 := (F_515.2 10 (by decide +kernel)).trans g_514_10
  have g_515_14 := (F_515.2 14 (by decide +kernel)).trans g_514_14
  have g_515_15 := (F_515.2 15 (by decide +kernel)).trans g_514_15
  have g_515_16 := (F_515.2 16 (by decide +kernel)).trans g_514_16
  have g_515_57 := (F_515.2 57 (by decide +kernel)).trans g_514_57
  have g_515_58 := (F_515.2 58 (by decide +kernel)).trans g_514_58
  have g_515_59 := (F_515.2 59 (by decide +kernel)).trans g_514_59
  have g_515_60 := (F_515.2 60 (by decide +kernel)).trans g_514_60
  have g_515_61 := (F_515.2 61 (by decide +kernel)).trans g_514_61
  have g_515_11 : cE h_515 11 (.inl (.int, fA wg'_515)) := e_515_11
  have g_515_12 : cE h_515 12 (.inl (.int, fA wc'_515)) := e_515_12
  have g_515_13 : cE h_515 13 (.inl (.int, fA we'_515)) := e_515_13
  refine ik_Wk 0 (pc' := 82) (loc' := [some (.ref 58), some (.ref 7), some (.ref 14)]) (st' := []) (h' := h_515) (cl' := 0) (sl' := 0) rfl ?_
  refine ik_Wret rfl rfl ⟨_, _, rfl, rfl, ?_⟩
  refine ik_Wk 0 (pc' := 43) (loc' := [some (.ref 0), some (fI 0)]) (st' := []) (h' := h_515) (cl' := 0) (sl' := 0) rfl ?_
  refine ik_Wk 1 (pc' := 44) (loc' := [some (.ref 0), some (fI 0)]) (st' := [fI 1]) (h' := h_515) (cl' := 0) (sl' := 0) rfl ?_
  exact ik_Wret rfl rfl ⟨_, _, rfl, rfl, rfl, rfl, ⟨wg'_515, wc'_515, we'_515, rfl, g_515_7, g_515_10, n61, g_515_11, m_515_11, g_515_12, m_515_12, g_515_13, m_515_13, g_515_14, g_515_15, g_515_16, p_515_0, fr_515⟩⟩

theorem cp_goBack0N {h : List ik_E} {im_ : Int} {id_ : Int} {is_ : Int}  (h0 : cE h 0 (.inr (9, [.ref 1, .ref 7, .ref 14, .ref 17, .ref 45, .ref 51, .ref 54, .ref 57]))) (h57 : cE h 57 (.inl (.object "SlowerCork$Image", [.ref 58, .ref 62]))) (h58 : cE h 58 (.inr (3, [fI 0, .ref 59, .ref 60, fI im_, fJ id_, fI is_, .ref 61]))) (hl : h.length = 94) : ik_F 120 [.ref 0, fI 0] h (fun rv h' => rv = [fI (-1000000003)] ∧ hfr [] h h') := by
  refine ik_Wk 2 (pc' := 2) (loc' := [some (.ref 0), some (fI 0)]) (st' := [fI 0, .ref 0]) (h' := h) (cl' := 0) (sl' := 0) rfl ?_
  refine ik_Wc 124 2 0 [.ref 0, fI 0] [] rfl rfl rfl (by decide) rfl rfl (fw_rec hl rfl h0 rfl (by decide)) ?_
  refine ik_Wk 0 (pc' := 0) (loc' := [some (.ref 0), some (fI 0)]) (st' := []) (h' := h) (cl' := 0) (sl' := 0) rfl ?_
  refine ik_Wk 1 (pc' := 1) (loc' := [some (.ref 0), some (fI 0)]) (st' := [fI 0]) (h' := h) (cl' := 0) (sl' := 0) rfl ?_
  refine fw_if_lt rfl rfl (by omega) (by omega) (fun hc1 => absurd hc1 (by omega)) (fun hc1 => ?_)
  refine ik_Wk 2 (pc' := 6) (loc' := [some (.ref 0), some (fI 0)]) (st' := [.ref 0, fI 0]) (h' := h) (cl' := 0) (sl' := 0) rfl ?_
  refine fw_gf rfl rfl h0 rfl ?_
  refine fx_aln (L := 2) rfl h57 (rfl : [(.ref 58 : Value), (.ref 62 : Value)].length = 2) (by decide) ?_
  refine fw_ic_ge rfl rfl (by omega) (by omega) (by omega) (by omega) (fun hc2 => absurd hc2 (by omega)) (fun hc2 => ?_)
  refine ik_Wk 2 (pc' := 18) (loc' := [some (.ref 0), some (fI 0)]) (st' := [fI 1]) (h' := h) (cl' := 0) (sl' := 0) rfl ?_
  refine ik_Wret rfl rfl ⟨_, _, rfl, rfl, ?_⟩
  refine ik_Wk 0 (pc' := 5) (loc' := [some (.ref 0), some (fI 0)]) (st' := [fI 1]) (h' := h) (cl' := 0) (sl' := 0) rfl ?_
  refine fw_if_ne rfl rfl (by omega) (by omega) (fun hc3 => absurd hc3 (by omega)) (fun hc3 => ?_)
  refine ik_Wk 1 (pc' := 12) (loc' := [some (.ref 0), some (fI 0)]) (st' := [.ref 0]) (h' := h) (cl' := 0) (sl' := 0) rfl ?_
  refine fw_gf rfl rfl h0 rfl ?_
  refine ik_Wk 1 (pc' := 16) (loc' := [some (.ref 0), some (fI 0)]) (st' := [fI 0, .ref 57]) (h' := h) (cl' := 0) (sl' := 0) rfl ?_
  refine fx_aal (z := 0) rfl h57 (by decide) (by decide) rfl ?_
  refine fw_gf rfl rfl h58 rfl ?_
  refine fw_if_ne rfl rfl (by omega) (by omega) (fun hc4 => ?_) (fun hc4 => absurd hc4 (by omega))
  refine fw_ld (-1000000003) rfl rfl (by decide) ?_
  exact ik_Wret rfl rfl ⟨_, _, rfl, rfl, rfl, rfl, ⟨rfl, (hfr_refl [] h)⟩⟩

theorem rp_keep0L {h : List ik_E} {f : Nat → Int} {s : Nat} {t0 : Int} {t1 : Int} {ka : Int} {pa : Int} {fa : Int} {kb : Int} {pb : Int} {fb : Int} {xa : Int} {xb : Int} {mi : Int} {sd : Int} {ch : List Int} {im : List Int}   : ∀ (k : Nat) (i : Int) (m1 : List Int) (u : List ik_E) (u66 : cE u 66 (.inr (10, [fI (f 0), .ref 67, .ref 68, .ref 69, fI ((s : Nat) : Int), .ref 70, .ref 71, fI mi, fI sd, .ref 72, fI (f 10), fI (f 11), fI (f 12), fJ (f 13), fI (f 14), fI (f 15), fI (f 16), fI (f 17), .ref 73, .ref 74, .ref 75, .ref 76, .ref 77, .ref 78, fI (f 24), .ref 79, .ref 80, .ref 81, .ref 82, .ref 83, .ref 84, .ref 85, fJ (f 32), fJ (f 33), .ref 86, .ref 87, fI (f 36), .ref 88, .ref 89, .ref 90, .ref 91, .ref 92, .ref 93]))) (u69 : cE u 69 (.inl (.int, fA ch))) (n69 : ch.length = 48) (u70 : cE u 70 (.inl (.int, fA [ka, pa, fa, kb, pb, fb]))) (u71 : cE u 71 (.inl (.int, fA [xa, xb]))) (u92 : cE u 92 (.inl (.int, fA m1))) (n92 : m1.length = 160) (u93 : cE u 93 (.inl (.boolean, fA [t0, t1]))) (ul : u.length = 94) (F : hfr [92, 93] h u) (hi : 0 ≤ i ∧ i ≤ 48) (hc : ∀ j : Nat, (j : Int) < i → m1.getD (0 + j) 0 = ch.getD j 0) (ho : mx_out 0 80 im m1) (hk : 48 - i < (k : Int)), ik_G 209 20 [some (.ref 66), some (fI 0), some (fI 0), some (fI i)] [] u (fun rv h' => ∃ (im' : List Int), rv = [fI 1] ∧ cE h' 92 (.inl (.int, fA im')) ∧ im'.length = 160 ∧ cE h' 93 (.inl (.boolean, fA [1, t1])) ∧ (mi_ok im' 0 ch ka pa fa kb pb fb xa xb mi s sd) ∧ (mx_out 0 80 im im') ∧ hfr [92, 93] h h') := by
  intro k
  induction k with
  | zero => intro i m1 u u66 u69 n69 u70 u71 u92 n92 u93 ul F hi hc ho hk; omega
  | succ k ih =>
    intro i m1 u u66 u69 n69 u70 u71 u92 n92 u93 ul F hi hc ho hk
    refine ik_Wk 1 (pc' := 21) (loc' := [some (.ref 66), some (fI 0), some (fI 0), some (fI i)]) (st' := [fI i]) (h' := u) (cl' := 0) (sl' := 0) rfl ?_
    refine fw_bi rfl (by decide) ?_
    refine fw_ic_ge rfl rfl (by omega) (by omega) (by omega) (by omega) (fun hc1 => ?_) (fun hc1 => ?_)
    · refine ik_Wk 3 (pc' := 49) (loc' := [some (.ref 66), some (fI 0), some (fI 0), some (fI 0)]) (st' := [fI 0]) (h' := u) (cl' := 0) (sl' := 0) rfl ?_
      refine fw_bi rfl (by decide) ?_
      refine fw_ic_ge rfl rfl (by omega) (by omega) (by omega) (by omega) (fun hc2 => absurd hc2 (by omega)) (fun hc2 => ?_)
      refine ik_Wk 1 (pc' := 55) (loc' := [some (.ref 66), some (fI 0), some (fI 0), some (fI 0)]) (st' := [.ref 66]) (h' := u) (cl' := 0) (sl' := 0) rfl ?_
      refine fw_gf rfl rfl u66 rfl ?_
      refine ik_Wk 1 (pc' := 59) (loc' := [some (.ref 66), some (fI 0), some (fI 0), some (fI 0)]) (st' := [fI 0, .ref 92]) (h' := u) (cl' := 0) (sl' := 0) rfl ?_
      refine fw_bi rfl (by decide) ?_
      refine fw_add rfl ?_
      refine ik_Wk 1 (pc' := 63) (loc' := [some (.ref 66), some (fI 0), some (fI 0), some (fI 0)]) (st' := [fI 0, fI 48, .ref 92]) (h' := u) (cl' := 0) (sl' := 0) rfl ?_
      refine fw_add rfl ?_
      refine ik_Wk 1 (pc' := 65) (loc' := [some (.ref 66), some (fI 0), some (fI 0), some (fI 0)]) (st' := [.ref 66, fI 48, .ref 92]) (h' := u) (cl' := 0) (sl' := 0) rfl ?_
      refine fw_gf rfl rfl u66 rfl ?_
      refine ik_Wk 1 (pc' := 69) (loc' := [some (.ref 66), some (fI 0), some (fI 0), some (fI 0)]) (st' := [fI 0, .ref 70, fI 48, .ref 92]) (h' := u) (cl' := 0) (sl' := 0) rfl ?_
      refine fw_ial (z := 0) rfl u70 (by decide) (Nat.le_of_ble_eq_true rfl) (by decide) ?_
      refine ik_Wk 0 (pc' := 70) (loc' := [some (.ref 66), some (fI 0), some (fI 0), some (fI 0)]) (st' := [fI ka, fI 48, .ref 92]) (h' := u) (cl' := 0) (sl' := 0) rfl ?_
      have hl3 : (m1.set (48 : Int).toNat ka).length = 160 := (List.length_set ..).trans n92
      refine fx_ias rfl u92 (by omega) (by omega) (by omega) ?_
      intro h_516 e_516 f_516 l_516
      have k_516 := l_516.trans ul
      have fr_516 := hfr_w F f_516 l_516 (by decide)
      have g_516_66 := (f_516 66 (by decide)).trans u66
      have g_516_69 := (f_516 69 (by decide)).trans u69
      have g_516_70 := (f_516 70 (by decide)).trans u70
      have g_516_71 := (f_516 71 (by decide)).trans u71
      have g_516_93 := (f_516 93 (by decide)).trans u93
      have g_516_92 : cE h_516 92 (.inl (.int, fA (m1.set (48 : Int).toNat ka))) := e_516
      refine fw_inc (a := 0) (loc' := [some (.ref 66), some (fI 0), some (fI 0), some (fI 1)]) rfl rfl (Nat.le_of_ble_eq_true rfl) rfl ?_
      refine ik_Wk 2 (pc' := 49) (loc' := [some (.ref 66), some (fI 0), some (fI 0), some (fI 1)]) (st' := [fI 1]) (h' := h_516) (cl' := 0) (sl' := 0) rfl ?_
      refine fw_bi rfl (by decide) ?_
      refine fw_ic_ge rfl rfl (by omega) (by omega) (by omega) (by omega) (fun hc4 => absurd hc4 (by omega)) (fun hc4 => ?_)
      refine ik_Wk 1 (pc' := 55) (loc' := [some (.ref 66), some (fI 0), some (fI 0), some (fI 1)]) (st' := [.ref 66]) (h' := h_516) (cl' := 0) (sl' := 0) rfl ?_
      refine fw_gf rfl rfl g_516_66 rfl ?_
      refine ik_Wk 1 (pc' := 59) (loc' := [some (.ref 66), some (fI 0), some (fI 0), some (fI 1)]) (st' := [fI 0, .ref 92]) (h' := h_516) (cl' := 0) (sl' := 0) rfl ?_
      refine fw_bi rfl (by decide) ?_
      refine fw_add rfl ?_
      refine ik_Wk 1 (pc' := 63) (loc' := [some (.ref 66), some (fI 0), some (fI 0), some (fI 1)]) (st' := [fI 1, fI 48, .ref 92]) (h' := h_516) (cl' := 0) (sl' := 0) rfl ?_
      refine fw_add rfl ?_
      refine ik_Wk 1 (pc' := 65) (loc' := [some (.ref 66), some (fI 0), some (fI 0), some (fI 1)]) (st' := [.ref 66, fI 49, .ref 92]) (h' := h_516) (cl' := 0) (sl' := 0) rfl ?_
      refine fw_gf rfl rfl g_516_66 rfl ?_
      refine ik_Wk 1 (pc' := 69) (loc' := [some (.ref 66), some (fI 0), some (fI 0), some (fI 1)]) (st' := [fI 1, .ref 70, fI 49, .ref 92]) (h' := h_516) (cl' := 0) (sl' := 0) rfl ?_
      refine fw_ial (z := 1) rfl g_516_70 (by decide) (Nat.le_of_ble_eq_true rfl) (by decide) ?_
      refine ik_Wk 0 (pc' := 70) (loc' := [some (.ref 66), some (fI 0), some (fI 0), some (fI 1)]) (st' := [fI pa, fI 49, .ref 92]) (h' := h_516) (cl' := 0) (sl' := 0) rfl ?_
      have hl5 : ((m1.set (48 : Int).toNat ka).set (49 : Int).toNat pa).length = 160 := (List.length_set ..).trans hl3
      refine fx_ias rfl g_516_92 (by omega) (by omega) (by omega) ?_
      intro h_517 e_517 f_517 l_517
      have k_517 := l_517.trans k_516
      have fr_517 := hfr_w fr_516 f_517 l_517 (by decide)
      have g_517_66 := (f_517 66 (by decide)).trans g_516_66
      have g_517_69 := (f_517 69 (by decide)).trans g_516_69
      have g_517_70 := (f_517 70 (by decide)).trans g_516_70
      have g_517_71 := (f_517 71 (by decide)).trans g_516_71
      have g_517_93 := (f_517 93 (by decide)).trans g_516_93
      have g_517_92 : cE h_517 92 (.inl (.int, fA ((m1.set (48 : Int).toNat ka).set (49 : Int).toNat pa))) := e_517
      refine fw_inc (a := 1) (loc' := [some (.ref 66), some (fI 0), some (fI 0), some (fI 2)]) rfl rfl (Nat.le_of_ble_eq_true rfl) rfl ?_
      refine ik_Wk 2 (pc' := 49) (loc' := [some (.ref 66), some (fI 0), some (fI 0), some (fI 2)]) (st' := [fI 2]) (h' := h_517) (cl' := 0) (sl' := 0) rfl ?_
      refine fw_bi rfl (by decide) ?_
      refine fw_ic_ge rfl rfl (by omega) (by omega) (by omega) (by omega) (fun hc6 => absurd hc6 (by omega)) (fun hc6 => ?_)
      refine ik_Wk 1 (pc' := 55) (loc' := [some (.ref 66), some (fI 0), some (fI 0), some (fI 2)]) (st' := [.ref 66]) (h' := h_517) (cl' := 0) (sl' := 0) rfl ?_
      refine fw_gf rfl rfl g_517_66 rfl ?_
      refine ik_Wk 1 (pc' := 59) (loc' := [some (.ref 66), some (fI 0), some (fI 0), some (fI 2)]) (st' := [fI 0, .ref 92]) (h' := h_517) (cl' := 0) (sl' := 0) rfl ?_
      refine fw_bi rfl (by decide) ?_
      refine fw_add rfl ?_
      refine ik_Wk 1 (pc' := 63) (loc' := [some (.ref 66), some (fI 0), some (fI 0), some (fI 2)]) (st' := [fI 2, fI 48, .ref 92]) (h' := h_517) (cl' := 0) (sl' := 0) rfl ?_
      refine fw_add rfl ?_
      refine ik_Wk 1 (pc' := 65) (loc' := [some (.ref 66), some (fI 0), some (fI 0), some (fI 2)]) (st' := [.ref 66, fI 50, .ref 92]) (h' := h_517) (cl' := 0) (sl' := 0) rfl ?_
      refine fw_gf rfl rfl g_517_66 rfl ?_
      refine ik_Wk 1 (pc' := 69) (loc' := [some (.ref 66), some (fI 0), some (fI 0), some (fI 2)]) (st' := [fI 2, .ref 70, fI 50, .ref 92]) (h' := h_517) (cl' := 0) (sl' := 0) rfl ?_
      refine fw_ial (z := 2) rfl g_517_70 (by decide) (Nat.le_of_ble_eq_true rfl) (by decide) ?_
      refine ik_Wk 0 (pc' := 70) (loc' := [some (.ref 66), some (fI 0), some (fI 0), some (fI 2)]) (st' := [fI fa, fI 50, .ref 92]) (h' := h_517) (cl' := 0) (sl' := 0) rfl ?_
      have hl7 : (((m1.set (48 : Int).toNat ka).set (49 : Int).toNat pa).set (50 : Int).toNat fa).length = 160 := (List.length_set ..).trans hl5
      refine fx_ias rfl g_517_92 (by omega) (by omega) (by omega) ?_
      intro h_518 e_518 f_518 l_518
      have k_518 := l_518.trans k_517
      have fr_518 := hfr_w fr_517 f_518 l_518 (by decide)
      have g_518_66 := (f_518 66 (by decide)).trans g_517_66
      have g_518_69 := (f_518 69 (by decide)).trans g_517_69
      have g_518_70 := (f_518 70 (by decide)).trans g_517_70
      have g_518_71 := (f_518 71 (by decide)).trans g_517_71
      have g_518_93 := (f_518 93 (by decide)).trans g_517_93
      have g_518_92 : cE h_518 92 (.inl (.int, fA (((m1.set (48 : Int).toNat ka).set (49 : Int).toNat pa).set (50 : Int).toNat fa))) := e_518
      refine fw_inc (a := 2) (loc' := [some (.ref 66), some (fI 0), some (fI 0), some (fI 3)]) rfl rfl (Nat.le_of_ble_eq_true rfl) rfl ?_
      refine ik_Wk 2 (pc' := 49) (loc' := [some (.ref 66), some (fI 0), some (fI 0), some (fI 3)]) (st' := [fI 3]) (h' := h_518) (cl' := 0) (sl' := 0) rfl ?_
      refine fw_bi rfl (by decide) ?_
      refine fw_ic_ge rfl rfl (by omega) (by omega) (by omega) (by omega) (fun hc8 => absurd hc8 (by omega)) (fun hc8 => ?_)
      refine ik_Wk 1 (pc' := 55) (loc' := [some (.ref 66), some (fI 0), some (fI 0), some (fI 3)]) (st' := [.ref 66]) (h' := h_518) (cl' := 0) (sl' := 0) rfl ?_
      refine fw_gf rfl rfl g_518_66 rfl ?_
      refine ik_Wk 1 (pc' := 59) (loc' := [some (.ref 66), some (fI 0), some (fI 0), some (fI 3)]) (st' := [fI 0, .ref 92]) (h' := h_518) (cl' := 0) (sl' := 0) rfl ?_
      refine fw_bi rfl (by decide) ?_
      refine fw_add rfl ?_
      refine ik_Wk 1 (pc' := 63) (loc' := [some (.ref 66), some (fI 0), some (fI 0), some (fI 3)]) (st' := [fI 3, fI 48, .ref 92]) (h' := h_518) (cl' := 0) (sl' := 0) rfl ?_
      refine fw_add rfl ?_
      refine ik_Wk 1 (pc' := 65) (loc' := [some (.ref 66), some (fI 0), some (fI 0), some (fI 3)]) (st' := [.ref 66, fI 51, .ref 92]) (h' := h_518) (cl' := 0) (sl' := 0) rfl ?_
      refine fw_gf rfl rfl g_518_66 rfl ?_
      refine ik_Wk 1 (pc' := 69) (loc' := [some (.ref 66), some (fI 0), some (fI 0), some (fI 3)]) (st' := [fI 3, .ref 70, fI 51, .ref 92]) (h' := h_518) (cl' := 0) (sl' := 0) rfl ?_
      refine fw_ial (z := 3) rfl g_518_70 (by decide) (Nat.le_of_ble_eq_true rfl) (by decide) ?_
      refine ik_Wk 0 (pc' := 70) (loc' := [some (.ref 66), some (fI 0), some (fI 0), some (fI 3)]) (st' := [fI kb, fI 51, .ref 92]) (h' := h_518) (cl' := 0) (sl' := 0) rfl ?_
      have hl9 : ((((m1.set (48 : Int).toNat ka).set (49 : Int).toNat pa).set (50 : Int).toNat fa).set (51 : Int).toNat kb).length = 160 := (List.length_set ..).trans hl7
      refine fx_ias rfl g_518_92 (by omega) (by omega) (by omega) ?_
      intro h_519 e_519 f_519 l_519
      have k_519 := l_519.trans k_518
      have fr_519 := hfr_w fr_518 f_519 l_519 (by decide)
      have g_519_66 := (f_519 66 (by decide)).trans g_518_66
      have g_519_69 := (f_519 69 (by decide)).trans g_518_69
      have g_519_70 := (f_519 70 (by decide)).trans g_518_70
      have g_519_71 := (f_519 71 (by decide)).trans g_518_71
      have g_519_93 := (f_519 93 (by decide)).trans g_518_93
      have g_519_92 : cE h_519 92 (.inl (.int, fA ((((m1.set (48 : Int).toNat ka).set (49 : Int).toNat pa).set (50 : Int).toNat fa).set (51 : Int).toNat kb))) := e_519
      refine fw_inc (a := 3) (loc' := [some (.ref 66), some (fI 0), some (fI 0), some (fI 4)]) rfl rfl (Nat.le_of_ble_eq_true rfl) rfl ?_
      refine ik_Wk 2 (pc' := 49) (loc' := [some (.ref 66), some (fI 0), some (fI 0), some (fI 4)]) (st' := [fI 4]) (h' := h_519) (cl' := 0) (sl' := 0) rfl ?_
      refine fw_bi rfl (by decide) ?_
      refine fw_ic_ge rfl rfl (by omega) (by omega) (by omega) (by omega) (fun hc10 => absurd hc10 (by omega)) (fun hc10 => ?_)
      refine ik_Wk 1 (pc' := 55) (loc' := [some (.ref 66), some (fI 0), some (fI 0), some (fI 4)]) (st' := [.ref 66]) (h' := h_519) (cl' := 0) (sl' := 0) rfl ?_
      refine fw_gf rfl rfl g_519_66 rfl ?_
      refine ik_Wk 1 (pc' := 59) (loc' := [some (.ref 66), some (fI 0), some (fI 0), some (fI 4)]) (st' := [fI 0, .ref 92]) (h' := h_519) (cl' := 0) (sl' := 0) rfl ?_
      refine fw_bi rfl (by decide) ?_
      refine fw_add rfl ?_
      refine ik_Wk 1 (pc' := 63) (loc' := [some (.ref 66), some (fI 0), some (fI 0), some (fI 4)]) (st' := [fI 4, fI 48, .ref 92]) (h' := h_519) (cl' := 0) (sl' := 0) rfl ?_
      refine fw_add rfl ?_
      refine ik_Wk 1 (pc' := 65) (loc' := [some (.ref 66), some (fI 0), some (fI 0), some (fI 4)]) (st' := [.ref 66, fI 52, .ref 92]) (h' := h_519) (cl' := 0) (sl' := 0) rfl ?_
      refine fw_gf rfl rfl g_519_66 rfl ?_
      refine ik_Wk 1 (pc' := 69) (loc' := [some (.ref 66), some (fI 0), some (fI 0), some (fI 4)]) (st' := [fI 4, .ref 70, fI 52, .ref 92]) (h' := h_519) (cl' := 0) (sl' := 0) rfl ?_
      refine fw_ial (z := 4) rfl g_519_70 (by decide) (Nat.le_of_ble_eq_true rfl) (by decide) ?_
      refine ik_Wk 0 (pc' := 70) (loc' := [some (.ref 66), some (fI 0), some (fI 0), some (fI 4)]) (st' := [fI pb, fI 52, .ref 92]) (h' := h_519) (cl' := 0) (sl' := 0) rfl ?_
      have hl11 : (((((m1.set (48 : Int).toNat ka).set (49 : Int).toNat pa).set (50 : Int).toNat fa).set (51 : Int).toNat kb).set (52 : Int).toNat pb).length = 160 := (List.length_set ..).trans hl9
      refine fx_ias rfl g_519_92 (by omega) (by omega) (by omega) ?_
      intro h_520 e_520 f_520 l_520
      have k_520 := l_520.trans k_519
      have fr_520 := hfr_w fr_519 f_520 l_520 (by decide)
      have g_520_66 := (f_520 66 (by decide)).trans g_519_66
      have g_520_69 := (f_520 69 (by decide)).trans g_519_69
      have g_520_70 := (f_520 70 (by decide)).trans g_519_70
      have g_520_71 := (f_520 71 (by decide)).trans g_519_71
      have g_520_93 := (f_520 93 (by decide)).trans g_519_93
      have g_520_92 : cE h_520 92 (.inl (.int, fA (((((m1.set (48 : Int).toNat ka).set (49 : Int).toNat pa).set (50 : Int).toNat fa).set (51 : Int).toNat kb).set (52 : Int).toNat pb))) := e_520
      refine fw_inc (a := 4) (loc' := [some (.ref 66), some (fI 0), some (fI 0), some (fI 5)]) rfl rfl (Nat.le_of_ble_eq_true rfl) rfl ?_
      refine ik_Wk 2 (pc' := 49) (loc' := [some (.ref 66), some (fI 0), some (fI 0), some (fI 5)]) (st' := [fI 5]) (h' := h_520) (cl' := 0) (sl' := 0) rfl ?_
      refine fw_bi rfl (by decide) ?_
      refine fw_ic_ge rfl rfl (by omega) (by omega) (by omega) (by omega) (fun hc12 => absurd hc12 (by omega)) (fun hc12 => ?_)
      refine ik_Wk 1 (pc' := 55) (loc' := [some (.ref 66), some (fI 0), some (fI 0), some (fI 5)]) (st' := [.ref 66]) (h' := h_520) (cl' := 0) (sl' := 0) rfl ?_
      refine fw_gf rfl rfl g_520_66 rfl ?_
      refine ik_Wk 1 (pc' := 59) (loc' := [some (.ref 66), some (fI 0), some (fI 0), some (fI 5)]) (st' := [fI 0, .ref 92]) (h' := h_520) (cl' := 0) (sl' := 0) rfl ?_
      refine fw_bi rfl (by decide) ?_
      refine fw_add rfl ?_
      refine ik_Wk 1 (pc' := 63) (loc' := [some (.ref 66), some (fI 0), some (fI 0), some (fI 5)]) (st' := [fI 5, fI 48, .ref 92]) (h' := h_520) (cl' := 0) (sl' := 0) rfl ?_
      refine fw_add rfl ?_
      refine ik_Wk 1 (pc' := 65) (loc' := [some (.ref 66), some (fI 0), some (fI 0), some (fI 5)]) (st' := [.ref 66, fI 53, .ref 92]) (h' := h_520) (cl' := 0) (sl' := 0) rfl ?_
      refine fw_gf rfl rfl g_520_66 rfl ?_
      refine ik_Wk 1 (pc' := 69) (loc' := [some (.ref 66), some (fI 0), some (fI 0), some (fI 5)]) (st' := [fI 5, .ref 70, fI 53, .ref 92]) (h' := h_520) (cl' := 0) (sl' := 0) rfl ?_
      refine fw_ial (z := 5) rfl g_520_70 (by decide) (Nat.le_of_ble_eq_true rfl) (by decide) ?_
      refine ik_Wk 0 (pc' := 70) (loc' := [some (.ref 66), some (fI 0), some (fI 0), some (fI 5)]) (st' := [fI fb, fI 53, .ref 92]) (h' := h_520) (cl' := 0) (sl' := 0) rfl ?_
      have hl13 : ((((((m1.set (48 : Int).toNat ka).set (49 : Int).toNat pa).set (50 : Int).toNat fa).set (51 : Int).toNat kb).set (52 : Int).toNat pb).set (53 : Int).toNat fb).length = 160 := (List.length_set ..).trans hl11
      refine fx_ias rfl g_520_92 (by omega) (by omega) (by omega) ?_
      intro h_521 e_521 f_521 l_521
      have k_521 := l_521.trans k_520
      have fr_521 := hfr_w fr_520 f_521 l_521 (by decide)
      have g_521_66 := (f_521 66 (by decide)).trans g_520_66
      have g_521_69 := (f_521 69 (by decide)).trans g_520_69
      have g_521_70 := (f_521 70 (by decide)).trans g_520_70
      have g_521_71 := (f_521 71 (by decide)).trans g_520_71
      have g_521_93 := (f_521 93 (by decide)).trans g_520_93
      have g_521_92 : cE h_521 92 (.inl (.int, fA ((((((m1.set (48 : Int).toNat ka).set (49 : Int).toNat pa).set (50 : Int).toNat fa).set (51 : Int).toNat kb).set (52 : Int).toNat pb).set (53 : Int).toNat fb))) := e_521
      refine fw_inc (a := 5) (loc' := [some (.ref 66), some (fI 0), some (fI 0), some (fI 6)]) rfl rfl (Nat.le_of_ble_eq_true rfl) rfl ?_
      refine ik_Wk 2 (pc' := 49) (loc' := [some (.ref 66), some (fI 0), some (fI 0), some (fI 6)]) (st' := [fI 6]) (h' := h_521) (cl' := 0) (sl' := 0) rfl ?_
      refine fw_bi rfl (by decide) ?_
      refine fw_ic_ge rfl rfl (by omega) (by omega) (by omega) (by omega) (fun hc14 => ?_) (fun hc14 => absurd hc14 (by omega))
      refine ik_Wk 1 (pc' := 78) (loc' := [some (.ref 66), some (fI 0), some (fI 0), some (fI 6)]) (st' := [.ref 66]) (h' := h_521) (cl' := 0) (sl' := 0) rfl ?_
      refine fw_gf rfl rfl g_521_66 rfl ?_
      refine ik_Wk 1 (pc' := 82) (loc' := [some (.ref 66), some (fI 0), some (fI 0), some (fI 6)]) (st' := [fI 0, .ref 92]) (h' := h_521) (cl' := 0) (sl' := 0) rfl ?_
      refine fw_bi rfl (by decide) ?_
      refine fw_add rfl ?_
      refine ik_Wk 1 (pc' := 86) (loc' := [some (.ref 66), some (fI 0), some (fI 0), some (fI 6)]) (st' := [.ref 66, fI 54, .ref 92]) (h' := h_521) (cl' := 0) (sl' := 0) rfl ?_
      refine fw_gf rfl rfl g_521_66 rfl ?_
      refine ik_Wk 1 (pc' := 90) (loc' := [some (.ref 66), some (fI 0), some (fI 0), some (fI 6)]) (st' := [fI 0, .ref 71, fI 54, .ref 92]) (h' := h_521) (cl' := 0) (sl' := 0) rfl ?_
      refine fw_ial (z := 0) rfl g_521_71 (by decide) (Nat.le_of_ble_eq_true rfl) (by decide) ?_
      refine ik_Wk 0 (pc' := 91) (loc' := [some (.ref 66), some (fI 0), some (fI 0), some (fI 6)]) (st' := [fI xa, fI 54, .ref 92]) (h' := h_521) (cl' := 0) (sl' := 0) rfl ?_
      have hl15 : (((((((m1.set (48 : Int).toNat ka).set (49 : Int).toNat pa).set (50 : Int).toNat fa).set (51 : Int).toNat kb).set (52 : Int).toNat pb).set (53 : Int).toNat fb).set (54 : Int).toNat xa).length = 160 := (List.length_set ..).trans hl13
      refine fx_ias rfl g_521_92 (by omega) (by omega) (by omega) ?_
      intro h_522 e_522 f_522 l_522
      have k_522 := l_522.trans k_521
      have fr_522 := hfr_w fr_521 f_522 l_522 (by decide)
      have g_522_66 := (f_522 66 (by decide)).trans g_521_66
      have g_522_69 := (f_522 69 (by decide)).trans g_521_69
      have g_522_70 := (f_522 70 (by decide)).trans g_521_70
      have g_522_71 := (f_522 71 (by decide)).trans g_521_71
      have g_522_93 := (f_522 93 (by decide)).trans g_521_93
      have g_522_92 : cE h_522 92 (.inl (.int, fA (((((((m1.set (48 : Int).toNat ka).set (49 : Int).toNat pa).set (50 : Int).toNat fa).set (51 : Int).toNat kb).set (52 : Int).toNat pb).set (53 : Int).toNat fb).set (54 : Int).toNat xa))) := e_522
      refine ik_Wk 1 (pc' := 93) (loc' := [some (.ref 66), some (fI 0), some (fI 0), some (fI 6)]) (st' := [.ref 66]) (h' := h_522) (cl' := 0) (sl' := 0) rfl ?_
      refine fw_gf rfl rfl g_522_66 rfl ?_
      refine ik_Wk 1 (pc' := 97) (loc' := [some (.ref 66), some (fI 0), some (fI 0), some (fI 6)]) (st' := [fI 0, .ref 92]) (h' := h_522) (cl' := 0) (sl' := 0) rfl ?_
      refine fw_bi rfl (by decide) ?_
      refine fw_add rfl ?_
      refine ik_Wk 1 (pc' := 101) (loc' := [some (.ref 66), some (fI 0), some (fI 0), some (fI 6)]) (st' := [.ref 66, fI 55, .ref 92]) (h' := h_522) (cl' := 0) (sl' := 0) rfl ?_
      refine fw_gf rfl rfl g_522_66 rfl ?_
      refine ik_Wk 1 (pc' := 105) (loc' := [some (.ref 66), some (fI 0), some (fI 0), some (fI 6)]) (st' := [fI 1, .ref 71, fI 55, .ref 92]) (h' := h_522) (cl' := 0) (sl' := 0) rfl ?_
      refine fw_ial (z := 1) rfl g_522_71 (by decide) (Nat.le_of_ble_eq_true rfl) (by decide) ?_
      refine ik_Wk 0 (pc' := 106) (loc' := [some (.ref 66), some (fI 0), some (fI 0), some (fI 6)]) (st' := [fI xb, fI 55, .ref 92]) (h' := h_522) (cl' := 0) (sl' := 0) rfl ?_
      have hl16 : ((((((((m1.set (48 : Int).toNat ka).set (49 : Int).toNat pa).set (50 : Int).toNat fa).set (51 : Int).toNat kb).set (52 : Int).toNat pb).set (53 : Int).toNat fb).set (54 : Int).toNat xa).set (55 : Int).toNat xb).length = 160 := (List.length_set ..).trans hl15
      refine fx_ias rfl g_522_92 (by omega) (by omega) (by omega) ?_
      intro h_523 e_523 f_523 l_523
      have k_523 := l_523.trans k_522
      have fr_523 := hfr_w fr_522 f_523 l_523 (by decide)
      have g_523_66 := (f_523 66 (by decide)).trans g_522_66
      have g_523_69 := (f_523 69 (by decide)).trans g_522_69
      have g_523_70 := (f_523 70 (by decide)).trans g_522_70
      have g_523_71 := (f_523 71 (by decide)).trans g_522_71
      have g_523_93 := (f_523 93 (by decide)).trans g_522_93
      have g_523_92 : cE h_523 92 (.inl (.int, fA ((((((((m1.set (48 : Int).toNat ka).set (49 : Int).toNat pa).set (50 : Int).toNat fa).set (51 : Int).toNat kb).set (52 : Int).toNat pb).set (53 : Int).toNat fb).set (54 : Int).toNat xa).set (55 : Int).toNat xb))) := e_523
      refine ik_Wk 1 (pc' := 108) (loc' := [some (.ref 66), some (fI 0), some (fI 0), some (fI 6)]) (st' := [.ref 66]) (h' := h_523) (cl' := 0) (sl' := 0) rfl ?_
      refine fw_gf rfl rfl g_523_66 rfl ?_
      refine ik_Wk 1 (pc' := 112) (loc' := [some (.ref 66), some (fI 0), some (fI 0), some (fI 6)]) (st' := [fI 0, .ref 92]) (h' := h_523) (cl' := 0) (sl' := 0) rfl ?_
      refine fw_bi rfl (by decide) ?_
      refine fw_add rfl ?_
      refine ik_Wk 1 (pc' := 116) (loc' := [some (.ref 66), some (fI 0), some (fI 0), some (fI 6)]) (st' := [.ref 66, fI 56, .ref 92]) (h' := h_523) (cl' := 0) (sl' := 0) rfl ?_
      refine fw_gf rfl rfl g_523_66 rfl ?_
      have hl17 : (((((((((m1.set (48 : Int).toNat ka).set (49 : Int).toNat pa).set (50 : Int).toNat fa).set (51 : Int).toNat kb).set (52 : Int).toNat pb).set (53 : Int).toNat fb).set (54 : Int).toNat xa).set (55 : Int).toNat xb).set (56 : Int).toNat mi).length = 160 := (List.length_set ..).trans hl16
      refine fx_ias rfl g_523_92 (by omega) (by omega) (by omega) ?_
      intro h_524 e_524 f_524 l_524
      have k_524 := l_524.trans k_523
      have fr_524 := hfr_w fr_523 f_524 l_524 (by decide)
      have g_524_66 := (f_524 66 (by decide)).trans g_523_66
      have g_524_69 := (f_524 69 (by decide)).trans g_523_69
      have g_524_70 := (f_524 70 (by decide)).trans g_523_70
      have g_524_71 := (f_524 71 (by decide)).trans g_523_71
      have g_524_93 := (f_524 93 (by decide)).trans g_523_93
      have g_524_92 : cE h_524 92 (.inl (.int, fA (((((((((m1.set (48 : Int).toNat ka).set (49 : Int).toNat pa).set (50 : Int).toNat fa).set (51 : Int).toNat kb).set (52 : Int).toNat pb).set (53 : Int).toNat fb).set (54 : Int).toNat xa).set (55 : Int).toNat xb).set (56 : Int).toNat mi))) := e_524
      refine ik_Wk 1 (pc' := 121) (loc' := [some (.ref 66), some (fI 0), some (fI 0), some (fI 6)]) (st' := [.ref 66]) (h' := h_524) (cl' := 0) (sl' := 0) rfl ?_
      refine fw_gf rfl rfl g_524_66 rfl ?_
      refine ik_Wk 1 (pc' := 125) (loc' := [some (.ref 66), some (fI 0), some (fI 0), some (fI 6)]) (st' := [fI 0, .ref 92]) (h' := h_524) (cl' := 0) (sl' := 0) rfl ?_
      refine fw_bi rfl (by decide) ?_
      refine fw_add rfl ?_
      refine ik_Wk 1 (pc' := 129) (loc' := [some (.ref 66), some (fI 0), some (fI 0), some (fI 6)]) (st' := [.ref 66, fI 57, .ref 92]) (h' := h_524) (cl' := 0) (sl' := 0) rfl ?_
      refine fw_gf rfl rfl g_524_66 rfl ?_
      have hl18 : ((((((((((m1.set (48 : Int).toNat ka).set (49 : Int).toNat pa).set (50 : Int).toNat fa).set (51 : Int).toNat kb).set (52 : Int).toNat pb).set (53 : Int).toNat fb).set (54 : Int).toNat xa).set (55 : Int).toNat xb).set (56 : Int).toNat mi).set (57 : Int).toNat ((s : Nat) : Int)).length = 160 := (List.length_set ..).trans hl17
      refine fx_ias rfl g_524_92 (by omega) (by omega) (by omega) ?_
      intro h_525 e_525 f_525 l_525
      have k_525 := l_525.trans k_524
      have fr_525 := hfr_w fr_524 f_525 l_525 (by decide)
      have g_525_66 := (f_525 66 (by decide)).trans g_524_66
      have g_525_69 := (f_525 69 (by decide)).trans g_524_69
      have g_525_70 := (f_525 70 (by decide)).trans g_524_70
      have g_525_71 := (f_525 71 (by decide)).trans g_524_71
      have g_525_93 := (f_525 93 (by decide)).trans g_524_93
      have g_525_92 : cE h_525 92 (.inl (.int, fA ((((((((((m1.set (48 : Int).toNat ka).set (49 : Int).toNat pa).set (50 : Int).toNat fa).set (51 : Int).toNat kb).set (52 : Int).toNat pb).set (53 : Int).toNat fb).set (54 : Int).toNat xa).set (55 : Int).toNat xb).set (56 : Int).toNat mi).set (57 : Int).toNat ((s : Nat) : Int)))) := e_525
      refine ik_Wk 1 (pc' := 134) (loc' := [some (.ref 66), some (fI 0), some (fI 0), some (fI 6)]) (st' := [.ref 66]) (h' := h_525) (cl' := 0) (sl' := 0) rfl ?_
      refine fw_gf rfl rfl g_525_66 rfl ?_
      refine ik_Wk 1 (pc' := 138) (loc' := [some (.ref 66), some (fI 0), some (fI 0), some (fI 6)]) (st' := [fI 0, .ref 92]) (h' := h_525) (cl' := 0) (sl' := 0) rfl ?_
      refine fw_bi rfl (by decide) ?_
      refine fw_add rfl ?_
      refine ik_Wk 1 (pc' := 142) (loc' := [some (.ref 66), some (fI 0), some (fI 0), some (fI 6)]) (st' := [.ref 66, fI 58, .ref 92]) (h' := h_525) (cl' := 0) (sl' := 0) rfl ?_
      refine fw_gf rfl rfl g_525_66 rfl ?_
      have hl19 : (((((((((((m1.set (48 : Int).toNat ka).set (49 : Int).toNat pa).set (50 : Int).toNat fa).set (51 : Int).toNat kb).set (52 : Int).toNat pb).set (53 : Int).toNat fb).set (54 : Int).toNat xa).set (55 : Int).toNat xb).set (56 : Int).toNat mi).set (57 : Int).toNat ((s : Nat) : Int)).set (58 : Int).toNat sd).length = 160 := (List.length_set ..).trans hl18
      refine fx_ias rfl g_525_92 (by omega) (by omega) (by omega) ?_
      intro h_526 e_526 f_526 l_526
      have k_526 := l_526.trans k_525
      have fr_526 := hfr_w fr_525 f_526 l_526 (by decide)
      have g_526_66 := (f_526 66 (by decide)).trans g_525_66
      have g_526_69 := (f_526 69 (by decide)).trans g_525_69
      have g_526_70 := (f_526 70 (by decide)).trans g_525_70
      have g_526_71 := (f_526 71 (by decide)).trans g_525_71
      have g_526_93 := (f_526 93 (by decide)).trans g_525_93
      have g_526_92 : cE h_526 92 (.inl (.int, fA (((((((((((m1.set (48 : Int).toNat ka).set (49 : Int).toNat pa).set (50 : Int).toNat fa).set (51 : Int).toNat kb).set (52 : Int).toNat pb).set (53 : Int).toNat fb).set (54 : Int).toNat xa).set (55 : Int).toNat xb).set (56 : Int).toNat mi).set (57 : Int).toNat ((s : Nat) : Int)).set (58 : Int).toNat sd))) := e_526
      refine ik_Wk 1 (pc' := 147) (loc' := [some (.ref 66), some (fI 0), some (fI 0), some (fI 6)]) (st' := [.ref 66]) (h' := h_526) (cl' := 0) (sl' := 0) rfl ?_
      refine fw_gf rfl rfl g_526_66 rfl ?_
      refine ik_Wk 2 (pc' := 152) (loc' := [some (.ref 66), some (fI 0), some (fI 0), some (fI 6)]) (st' := [fI 1, fI 0, .ref 93]) (h' := h_526) (cl' := 0) (sl' := 0) rfl ?_
      refine fx_bsb (z := 0) (v := 1) rfl g_526_93 (by decide) (Nat.le_of_ble_eq_true rfl) (by decide) (by decide) ?_
      intro h_527 e_527 f_527 l_527
      have k_527 := l_527.trans k_526
      have fr_527 := hfr_w fr_526 f_527 l_527 (by decide)
      have g_527_66 := (f_527 66 (by decide)).trans g_526_66
      have g_527_69 := (f_527 69 (by decide)).trans g_526_69
      have g_527_70 := (f_527 70 (by decide)).trans g_526_70
      have g_527_71 := (f_527 71 (by decide)).trans g_526_71
      have g_527_92 := (f_527 92 (by decide)).trans g_526_92
      have g_527_93 : cE h_527 93 (.inl (.boolean, fA [1, t1])) := e_527
      refine ik_Wk 1 (pc' := 154) (loc' := [some (.ref 66), some (fI 0), some (fI 0), some (fI 6)]) (st' := [fI 1]) (h' := h_527) (cl' := 0) (sl' := 0) rfl ?_
      have ew : ((((((((((m1.set (48 : Int).toNat ka).set (49 : Int).toNat pa).set (50 : Int).toNat fa).set (51 : Int).toNat kb).set (52 : Int).toNat pb).set (53 : Int).toNat fb).set (54 : Int).toNat xa).set (55 : Int).toNat xb).set (56 : Int).toNat mi).set (57 : Int).toNat ((s : Nat) : Int)).set (58 : Int).toNat sd = mi_w m1 48 [ka, pa, fa, kb, pb, fb, xa, xb, mi, ((s : Nat) : Int), sd] := rfl
      have gw := mi_w_get [ka, pa, fa, kb, pb, fb, xa, xb, mi, ((s : Nat) : Int), sd] m1 48
      exact ik_Wret rfl rfl ⟨_, _, rfl, rfl, rfl, rfl, ⟨(((((((((((m1.set (48 : Int).toNat ka).set (49 : Int).toNat pa).set (50 : Int).toNat fa).set (51 : Int).toNat kb).set (52 : Int).toNat pb).set (53 : Int).toNat fb).set (54 : Int).toNat xa).set (55 : Int).toNat xb).set (56 : Int).toNat mi).set (57 : Int).toNat ((s : Nat) : Int)).set (58 : Int).toNat sd), rfl, g_527_92, hl19, g_527_93, (by rw [ew]; exact ⟨fun j hj => by rw [gw _ (by simp only [List.length_cons, List.length_nil]; omega), if_neg (by omega)]; exact hc j (by omega), fun j hj => by rw [gw _ (by simp only [List.length_cons, List.length_nil]; omega), if_pos (by simp only [List.length_cons, List.length_nil]; omega), show 0 + 48 + j - 48 = j by omega]⟩), (by rw [ew]; intro j hj; rw [gw _ (by simp only [List.length_cons, List.length_nil]; omega), if_neg (by simp only [List.length_cons, List.length_nil]; omega)]; exact ho j hj), fr_527⟩⟩
    · refine ik_Wk 1 (pc' := 27) (loc' := [some (.ref 66), some (fI 0), some (fI 0), some (fI i)]) (st' := [.ref 66]) (h' := u) (cl' := 0) (sl' := 0) rfl ?_
      refine fw_gf rfl rfl u66 rfl ?_
      refine ik_Wk 2 (pc' := 32) (loc' := [some (.ref 66), some (fI 0), some (fI 0), some (fI i)]) (st' := [fI i, fI 0, .ref 92]) (h' := u) (cl' := 0) (sl' := 0) rfl ?_
      refine fw_add rfl ?_
      refine ik_Wk 1 (pc' := 34) (loc' := [some (.ref 66), some (fI 0), some (fI 0), some (fI i)]) (st' := [.ref 66, fI (0 + i), .ref 92]) (h' := u) (cl' := 0) (sl' := 0) rfl ?_
      refine fw_gf rfl rfl u66 rfl ?_
      refine ik_Wk 1 (pc' := 38) (loc' := [some (.ref 66), some (fI 0), some (fI 0), some (fI i)]) (st' := [fI i, .ref 69, fI (0 + i), .ref 92]) (h' := u) (cl' := 0) (sl' := 0) rfl ?_
      refine fw_ial rfl u69 (by omega) (by omega) (by omega) ?_
      have hl20 : (m1.set (0 + i).toNat (ch.getD i.toNat 0)).length = 160 := (List.length_set ..).trans n92
      refine fx_ias rfl u92 (by omega) (by omega) (by omega) ?_
      intro h_528 e_528 f_528 l_528
      have k_528 := l_528.trans ul
      have fr_528 := hfr_w F f_528 l_528 (by decide)
      have g_528_66 := (f_528 66 (by decide)).trans u66
      have g_528_69 := (f_528 69 (by decide)).trans u69
      have g_528_70 := (f_528 70 (by decide)).trans u70
      have g_528_71 := (f_528 71 (by decide)).trans u71
      have g_528_93 := (f_528 93 (by decide)).trans u93
      have g_528_92 : cE h_528 92 (.inl (.int, fA (m1.set (0 + i).toNat (ch.getD i.toNat 0)))) := e_528
      refine fw_inc (a := i) (loc' := [some (.ref 66), some (fI 0), some (fI 0), some (fI (i + 1))]) rfl rfl (Nat.le_of_ble_eq_true rfl) rfl ?_
      refine ik_Wk 1 (pc' := 20) (loc' := [some (.ref 66), some (fI 0), some (fI 0), some (fI (i + 1))]) (st' := []) (h' := h_528) (cl' := 0) (sl' := 0) rfl ?_
      have hc2 : ∀ j : Nat, (j : Int) < i + 1 → (m1.set (0 + i).toNat (ch.getD i.toNat 0)).getD (0 + j) 0 = ch.getD j 0 := by
        intro j hj
        rw [fz_getD_set]
        by_cases z : j = i.toNat
        · rw [if_pos ⟨by omega, by omega⟩, z]
        · rw [if_neg (fun y => z (by omega))]; exact hc j (by omega)
      exact ih  (i + 1) (m1.set (0 + i).toNat (ch.getD i.toNat 0)) h_528 g_528_66 g_528_69 n69 g_528_70 g_528_71 g_528_92 hl20 g_528_93 k_528 fr_528 (by omega) hc2 (mx_out_s ho (by omega) (by omega)) (by omega)

theorem rp_keep0 {h : List ik_E} {f : Nat → Int} {s : Nat} {t0 : Int} {t1 : Int} {ka : Int} {pa : Int} {fa : Int} {kb : Int} {pb : Int} {fb : Int} {xa : Int} {xb : Int} {mi : Int} {sd : Int} {ch : List Int} {im : List Int}  (h66 : cE h 66 (.inr (10, [fI (f 0), .ref 67, .ref 68, .ref 69, fI ((s : Nat) : Int), .ref 70, .ref 71, fI mi, fI sd, .ref 72, fI (f 10), fI (f 11), fI (f 12), fJ (f 13), fI (f 14), fI (f 15), fI (f 16), fI (f 17), .ref 73, .ref 74, .ref 75, .ref 76, .ref 77, .ref 78, fI (f 24), .ref 79, .ref 80, .ref 81, .ref 82, .ref 83, .ref 84, .ref 85, fJ (f 32), fJ (f 33), .ref 86, .ref 87, fI (f 36), .ref 88, .ref 89, .ref 90, .ref 91, .ref 92, .ref 93]))) (h69 : cE h 69 (.inl (.int, fA ch))) (n69 : ch.length = 48) (h70 : cE h 70 (.inl (.int, fA [ka, pa, fa, kb, pb, fb]))) (h71 : cE h 71 (.inl (.int, fA [xa, xb]))) (h92 : cE h 92 (.inl (.int, fA im))) (n92 : im.length = 160) (h93 : cE h 93 (.inl (.boolean, fA [t0, t1]))) (hl : h.length = 94) : ik_F 209 [.ref 66, fI 0] h (fun rv h' => ∃ (im' : List Int), rv = [fI 1] ∧ cE h' 92 (.inl (.int, fA im')) ∧ im'.length = 160 ∧ cE h' 93 (.inl (.boolean, fA [1, t1])) ∧ (mi_ok im' 0 ch ka pa fa kb pb fb xa xb mi s sd) ∧ (mx_out 0 80 im im') ∧ hfr [92, 93] h h') := by
  refine ik_Wk 1 (pc' := 1) (loc' := [some (.ref 66), some (fI 0), none, none]) (st' := [fI 0]) (h' := h) (cl' := 0) (sl' := 0) rfl ?_
  refine fw_i2l rfl (by omega) (by omega) ?_
  refine fw_lc (z := 0) rfl (by decide) ?_
  refine fw_lc (z := 1) rfl (by decide) ?_
  refine fw_call 127 3 3 [fJ 0, fJ 0, fJ 1] [] rfl rfl rfl (by decide) rfl rfl (fw_sta hl rfl (by decide)) (cr_in (v := 0) (a := 0) (b := 1) (by omega) (by omega) (by omega)  hl) ?_
  rintro _ h_529 (⟨rfl, p_529_0, F_529⟩ | ⟨rfl, p_529_0, F_529⟩)
  · have k_529 := F_529.1.trans hl
    have fr_529 := hfr_c (hfr_refl [92, 93] h) F_529 (by decide)
    have g_529_66 := (F_529.2 66 (by decide +kernel)).trans h66
    have g_529_69 := (F_529.2 69 (by decide +kernel)).trans h69
    have g_529_70 := (F_529.2 70 (by decide +kernel)).trans h70
    have g_529_71 := (F_529.2 71 (by decide +kernel)).trans h71
    have g_529_92 := (F_529.2 92 (by decide +kernel)).trans h92
    have g_529_93 := (F_529.2 93 (by decide +kernel)).trans h93
    refine ik_Wk 0 (pc' := 7) (loc' := [some (.ref 66), some (fI 0), none, none]) (st' := [fI 1]) (h' := h_529) (cl' := 0) (sl' := 0) rfl ?_
    refine fw_if_ne rfl rfl (by omega) (by omega) (fun hc1 => absurd hc1 (by omega)) (fun hc1 => ?_)
    refine fw_bi rfl (by decide) ?_
    refine ik_Wk 1 (pc' := 16) (loc' := [some (.ref 66), some (fI 0), none, none]) (st' := [fI 0, fI 80]) (h' := h_529) (cl' := 0) (sl' := 0) rfl ?_
    refine fw_mul rfl ?_
    refine ik_Wk 3 (pc' := 20) (loc' := [some (.ref 66), some (fI 0), some (fI 0), some (fI 0)]) (st' := []) (h' := h_529) (cl' := 0) (sl' := 0) rfl ?_
    exact rp_keep0L (f := f) (s := s) (t0 := t0) (t1 := t1) (ka := ka) (pa := pa) (fa := fa) (kb := kb) (pb := pb) (fb := fb) (xa := xa) (xb := xb) (mi := mi) (sd := sd) (ch := ch) (im := im)   49 0 im h_529 g_529_66 g_529_69 n69 g_529_70 g_529_71 g_529_92 n92 g_529_93 k_529 fr_529 (by omega) (fun j hj => absurd hj (by omega)) (mx_out_r _ _ _) (by omega)
  · have k_529 := F_529.1.trans hl
    have fr_529 := hfr_c (hfr_refl [92, 93] h) F_529 (by decide)
    have g_529_66 := (F_529.2 66 (by decide +kernel)).trans h66
    have g_529_69 := (F_529.2 69 (by decide +kernel)).trans h69
    have g_529_70 := (F_529.2 70 (by decide +kernel)).trans h70
    have g_529_71 := (F_529.2 71 (by decide +kernel)).trans h71
    have g_529_92 := (F_529.2 92 (by decide +kernel)).trans h92
    have g_529_93 := (F_529.2 93 (by decide +kernel)).trans h93
    omega

theorem rp_goBack0L {h : List ik_E} {f : Nat → Int} {s : Nat} {s2 : Nat} {t0 : Int} {t1 : Int} {e0 : Int} {e1 : Int} {e2 : Int} {e3 : Int} {e4 : Int} {e5 : Int} {y0 : Int} {y1 : Int} {m2 : Int} {d2 : Int} {ka : Int} {pa : Int} {fa : Int} {kb : Int} {pb : Int} {fb : Int} {xa : Int} {xb : Int} {mi : Int} {sd : Int} {ch : List Int} {im : List Int} {ci : List Int} (q0 : mi_ok im 0 ci e0 e1 e2 e3 e4 e5 y0 y1 m2 s2 d2) (q1 : ci.length = 48)  : ∀ (k : Nat) (i : Int) (c1 : List Int) (u : List ik_E) (u66 : cE u 66 (.inr (10, [fI (f 0), .ref 67, .ref 68, .ref 69, fI ((s : Nat) : Int), .ref 70, .ref 71, fI mi, fI sd, .ref 72, fI (f 10), fI (f 11), fI (f 12), fJ (f 13), fI (f 14), fI (f 15), fI (f 16), fI (f 17), .ref 73, .ref 74, .ref 75, .ref 76, .ref 77, .ref 78, fI (f 24), .ref 79, .ref 80, .ref 81, .ref 82, .ref 83, .ref 84, .ref 85, fJ (f 32), fJ (f 33), .ref 86, .ref 87, fI (f 36), .ref 88, .ref 89, .ref 90, .ref 91, .ref 92, .ref 93]))) (u69 : cE u 69 (.inl (.int, fA c1))) (n69 : c1.length = 48) (u70 : cE u 70 (.inl (.int, fA [ka, pa, fa, kb, pb, fb]))) (u71 : cE u 71 (.inl (.int, fA [xa, xb]))) (u92 : cE u 92 (.inl (.int, fA im))) (n92 : im.length = 160) (u93 : cE u 93 (.inl (.boolean, fA [1, t1]))) (ul : u.length = 94) (F : hfr [66, 69, 70, 71] h u) (hi : 0 ≤ i ∧ i ≤ 48) (hc : ∀ j : Nat, (j : Int) < i → c1.getD j 0 = ci.getD j 0) (hk : 48 - i < (k : Int)), ik_G 210 32 [some (.ref 66), some (fI 0), some (fI 0), some (fI i)] [] u (fun rv h' => rv = [fI 1] ∧ cE h' 66 (.inr (10, [fI (f 0), .ref 67, .ref 68, .ref 69, fI ((s2 : Nat) : Int), .ref 70, .ref 71, fI m2, fI d2, .ref 72, fI (f 10), fI (f 11), fI (f 12), fJ (f 13), fI (f 14), fI (f 15), fI (f 16), fI (f 17), .ref 73, .ref 74, .ref 75, .ref 76, .ref 77, .ref 78, fI (f 24), .ref 79, .ref 80, .ref 81, .ref 82, .ref 83, .ref 84, .ref 85, fJ (f 32), fJ (f 33), .ref 86, .ref 87, fI (f 36), .ref 88, .ref 89, .ref 90, .ref 91, .ref 92, .ref 93])) ∧ cE h' 69 (.inl (.int, fA ci)) ∧ ci.length = 48 ∧ cE h' 70 (.inl (.int, fA [e0, e1, e2, e3, e4, e5])) ∧ cE h' 71 (.inl (.int, fA [y0, y1])) ∧ hfr [66, 69, 70, 71] h h') := by
  intro k
  induction k with
  | zero => intro i c1 u u66 u69 n69 u70 u71 u92 n92 u93 ul F hi hc hk; omega
  | succ k ih =>
    intro i c1 u u66 u69 n69 u70 u71 u92 n92 u93 ul F hi hc hk
    refine ik_Wk 1 (pc' := 33) (loc' := [some (.ref 66), some (fI 0), some (fI 0), some (fI i)]) (st' := [fI i]) (h' := u) (cl' := 0) (sl' := 0) rfl ?_
    refine fw_bi rfl (by decide) ?_
    refine fw_ic_ge rfl rfl (by omega) (by omega) (by omega) (by omega) (fun hc1 => ?_) (fun hc1 => ?_)
    · refine ik_Wk 3 (pc' := 61) (loc' := [some (.ref 66), some (fI 0), some (fI 0), some (fI 0)]) (st' := [fI 0]) (h' := u) (cl' := 0) (sl' := 0) rfl ?_
      refine fw_bi rfl (by decide) ?_
      refine fw_ic_ge rfl rfl (by omega) (by omega) (by omega) (by omega) (fun hc2 => absurd hc2 (by omega)) (fun hc2 => ?_)
      refine ik_Wk 1 (pc' := 67) (loc' := [some (.ref 66), some (fI 0), some (fI 0), some (fI 0)]) (st' := [.ref 66]) (h' := u) (cl' := 0) (sl' := 0) rfl ?_
      refine fw_gf rfl rfl u66 rfl ?_
      refine ik_Wk 2 (pc' := 72) (loc' := [some (.ref 66), some (fI 0), some (fI 0), some (fI 0)]) (st' := [.ref 66, fI 0, .ref 70]) (h' := u) (cl' := 0) (sl' := 0) rfl ?_
      refine fw_gf rfl rfl u66 rfl ?_
      refine ik_Wk 1 (pc' := 76) (loc' := [some (.ref 66), some (fI 0), some (fI 0), some (fI 0)]) (st' := [fI 0, .ref 92, fI 0, .ref 70]) (h' := u) (cl' := 0) (sl' := 0) rfl ?_
      refine fw_bi rfl (by decide) ?_
      refine fw_add rfl ?_
      refine ik_Wk 1 (pc' := 80) (loc' := [some (.ref 66), some (fI 0), some (fI 0), some (fI 0)]) (st' := [fI 0, fI 48, .ref 92, fI 0, .ref 70]) (h' := u) (cl' := 0) (sl' := 0) rfl ?_
      refine fw_add rfl ?_
      refine fw_ial rfl u92 (by omega) (by omega) (by omega) ?_
      refine ik_Wk 0 (pc' := 82) (loc' := [some (.ref 66), some (fI 0), some (fI 0), some (fI 0)]) (st' := [fI (im.getD (48 : Int).toNat 0), fI 0, .ref 70]) (h' := u) (cl' := 0) (sl' := 0) rfl ?_
      rw [show im.getD (48 : Int).toNat 0 = e0 from q0.2 0 (by decide)]
      refine fx_ias (z := 0) rfl u70 (by decide) (Nat.le_of_ble_eq_true rfl) (by decide) ?_
      intro h_530 e_530 f_530 l_530
      have k_530 := l_530.trans ul
      have fr_530 := hfr_w F f_530 l_530 (by decide)
      have g_530_66 := (f_530 66 (by decide)).trans u66
      have g_530_69 := (f_530 69 (by decide)).trans u69
      have g_530_71 := (f_530 71 (by decide)).trans u71
      have g_530_92 := (f_530 92 (by decide)).trans u92
      have g_530_93 := (f_530 93 (by decide)).trans u93
      have g_530_70 : cE h_530 70 (.inl (.int, fA [e0, pa, fa, kb, pb, fb])) := e_530
      refine fw_inc (a := 0) (loc' := [some (.ref 66), some (fI 0), some (fI 0), some (fI 1)]) rfl rfl (Nat.le_of_ble_eq_true rfl) rfl ?_
      refine ik_Wk 2 (pc' := 61) (loc' := [some (.ref 66), some (fI 0), some (fI 0), some (fI 1)]) (st' := [fI 1]) (h' := h_530) (cl' := 0) (sl' := 0) rfl ?_
      refine fw_bi rfl (by decide) ?_
      refine fw_ic_ge rfl rfl (by omega) (by omega) (by omega) (by omega) (fun hc3 => absurd hc3 (by omega)) (fun hc3 => ?_)
      refine ik_Wk 1 (pc' := 67) (loc' := [some (.ref 66), some (fI 0), some (fI 0), some (fI 1)]) (st' := [.ref 66]) (h' := h_530) (cl' := 0) (sl' := 0) rfl ?_
      refine fw_gf rfl rfl g_530_66 rfl ?_
      refine ik_Wk 2 (pc' := 72) (loc' := [some (.ref 66), some (fI 0), some (fI 0), some (fI 1)]) (st' := [.ref 66, fI 1, .ref 70]) (h' := h_530) (cl' := 0) (sl' := 0) rfl ?_
      refine fw_gf rfl rfl g_530_66 rfl ?_
      refine ik_Wk 1 (pc' := 76) (loc' := [some (.ref 66), some (fI 0), some (fI 0), some (fI 1)]) (st' := [fI 0, .ref 92, fI 1, .ref 70]) (h' := h_530) (cl' := 0) (sl' := 0) rfl ?_
      refine fw_bi rfl (by decide) ?_
      refine fw_add rfl ?_
      refine ik_Wk 1 (pc' := 80) (loc' := [some (.ref 66), some (fI 0), some (fI 0), some (fI 1)]) (st' := [fI 1, fI 48, .ref 92, fI 1, .ref 70]) (h' := h_530) (cl' := 0) (sl' := 0) rfl ?_
      refine fw_add rfl ?_
      refine fw_ial rfl g_530_92 (by omega) (by omega) (by omega) ?_
      refine ik_Wk 0 (pc' := 82) (loc' := [some (.ref 66), some (fI 0), some (fI 0), some (fI 1)]) (st' := [fI (im.getD (49 : Int).toNat 0), fI 1, .ref 70]) (h' := h_530) (cl' := 0) (sl' := 0) rfl ?_
      rw [show im.getD (49 : Int).toNat 0 = e1 from q0.2 1 (by decide)]
      refine fx_ias (z := 1) rfl g_530_70 (by decide) (Nat.le_of_ble_eq_true rfl) (by decide) ?_
      intro h_531 e_531 f_531 l_531
      have k_531 := l_531.trans k_530
      have fr_531 := hfr_w fr_530 f_531 l_531 (by decide)
      have g_531_66 := (f_531 66 (by decide)).trans g_530_66
      have g_531_69 := (f_531 69 (by decide)).trans g_530_69
      have g_531_71 := (f_531 71 (by decide)).trans g_530_71
      have g_531_92 := (f_531 92 (by decide)).trans g_530_92
      have g_531_93 := (f_531 93 (by decide)).trans g_530_93
      have g_531_70 : cE h_531 70 (.inl (.int, fA [e0, e1, fa, kb, pb, fb])) := e_531
      refine fw_inc (a := 1) (loc' := [some (.ref 66), some (fI 0), some (fI 0), some (fI 2)]) rfl rfl (Nat.le_of_ble_eq_true rfl) rfl ?_
      refine ik_Wk 2 (pc' := 61) (loc' := [some (.ref 66), some (fI 0), some (fI 0), some (fI 2)]) (st' := [fI 2]) (h' := h_531) (cl' := 0) (sl' := 0) rfl ?_
      refine fw_bi rfl (by decide) ?_
      refine fw_ic_ge rfl rfl (by omega) (by omega) (by omega) (by omega) (fun hc4 => absurd hc4 (by omega)) (fun hc4 => ?_)
      refine ik_Wk 1 (pc' := 67) (loc' := [some (.ref 66), some (fI 0), some (fI 0), some (fI 2)]) (st' := [.ref 66]) (h' := h_531) (cl' := 0) (sl' := 0) rfl ?_
      refine fw_gf rfl rfl g_531_66 rfl ?_
      refine ik_Wk 2 (pc' := 72) (loc' := [some (.ref 66), some (fI 0), some (fI 0), some (fI 2)]) (st' := [.ref 66, fI 2, .ref 70]) (h' := h_531) (cl' := 0) (sl' := 0) rfl ?_
      refine fw_gf rfl rfl g_531_66 rfl ?_
      refine ik_Wk 1 (pc' := 76) (loc' := [some (.ref 66), some (fI 0), some (fI 0), some (fI 2)]) (st' := [fI 0, .ref 92, fI 2, .ref 70]) (h' := h_531) (cl' := 0) (sl' := 0) rfl ?_
      refine fw_bi rfl (by decide) ?_
      refine fw_add rfl ?_
      refine ik_Wk 1 (pc' := 80) (loc' := [some (.ref 66), some (fI 0), some (fI 0), some (fI 2)]) (st' := [fI 2, fI 48, .ref 92, fI 2, .ref 70]) (h' := h_531) (cl' := 0) (sl' := 0) rfl ?_
      refine fw_add rfl ?_
      refine fw_ial rfl g_531_92 (by omega) (by omega) (by omega) ?_
      refine ik_Wk 0 (pc' := 82) (loc' := [some (.ref 66), some (fI 0), some (fI 0), some (fI 2)]) (st' := [fI (im.getD (50 : Int).toNat 0), fI 2, .ref 70]) (h' := h_531) (cl' := 0) (sl' := 0) rfl ?_
      rw [show im.getD (50 : Int).toNat 0 = e2 from q0.2 2 (by decide)]
      refine fx_ias (z := 2) rfl g_531_70 (by decide) (Nat.le_of_ble_eq_true rfl) (by decide) ?_
      intro h_532 e_532 f_532 l_532
      have k_532 := l_532.trans k_531
      have fr_532 := hfr_w fr_531 f_532 l_532 (by decide)
      have g_532_66 := (f_532 66 (by decide)).trans g_531_66
      have g_532_69 := (f_532 69 (by decide)).trans g_531_69
      have g_532_71 := (f_532 71 (by decide)).trans g_531_71
      have g_532_92 := (f_532 92 (by decide)).trans g_531_92
      have g_532_93 := (f_532 93 (by decide)).trans g_531_93
      have g_532_70 : cE h_532 70 (.inl (.int, fA [e0, e1, e2, kb, pb, fb])) := e_532
      refine fw_inc (a := 2) (loc' := [some (.ref 66), some (fI 0), some (fI 0), some (fI 3)]) rfl rfl (Nat.le_of_ble_eq_true rfl) rfl ?_
      refine ik_Wk 2 (pc' := 61) (loc' := [some (.ref 66), some (fI 0), some (fI 0), some (fI 3)]) (st' := [fI 3]) (h' := h_532) (cl' := 0) (sl' := 0) rfl ?_
      refine fw_bi rfl (by decide) ?_
      refine fw_ic_ge rfl rfl (by omega) (by omega) (by omega) (by omega) (fun hc5 => absurd hc5 (by omega)) (fun hc5 => ?_)
      refine ik_Wk 1 (pc' := 67) (loc' := [some (.ref 66), some (fI 0), some (fI 0), some (fI 3)]) (st' := [.ref 66]) (h' := h_532) (cl' := 0) (sl' := 0) rfl ?_
      refine fw_gf rfl rfl g_532_66 rfl ?_
      refine ik_Wk 2 (pc' := 72) (loc' := [some (.ref 66), some (fI 0), some (fI 0), some (fI 3)]) (st' := [.ref 66, fI 3, .ref 70]) (h' := h_532) (cl' := 0) (sl' := 0) rfl ?_
      refine fw_gf rfl rfl g_532_66 rfl ?_
      refine ik_Wk 1 (pc' := 76) (loc' := [some (.ref 66), some (fI 0), some (fI 0), some (fI 3)]) (st' := [fI 0, .ref 92, fI 3, .ref 70]) (h' := h_532) (cl' := 0) (sl' := 0) rfl ?_
      refine fw_bi rfl (by decide) ?_
      refine fw_add rfl ?_
      refine ik_Wk 1 (pc' := 80) (loc' := [some (.ref 66), some (fI 0), some (fI 0), some (fI 3)]) (st' := [fI 3, fI 48, .ref 92, fI 3, .ref 70]) (h' := h_532) (cl' := 0) (sl' := 0) rfl ?_
      refine fw_add rfl ?_
      refine fw_ial rfl g_532_92 (by omega) (by omega) (by omega) ?_
      refine ik_Wk 0 (pc' := 82) (loc' := [some (.ref 66), some (fI 0), some (fI 0), some (fI 3)]) (st' := [fI (im.getD (51 : Int).toNat 0), fI 3, .ref 70]) (h' := h_532) (cl' := 0) (sl' := 0) rfl ?_
      rw [show im.getD (51 : Int).toNat 0 = e3 from q0.2 3 (by decide)]
      refine fx_ias (z := 3) rfl g_532_70 (by decide) (Nat.le_of_ble_eq_true rfl) (by decide) ?_
      intro h_533 e_533 f_533 l_533
      have k_533 := l_533.trans k_532
      have fr_533 := hfr_w fr_532 f_533 l_533 (by decide)
      have g_533_66 := (f_533 66 (by decide)).trans g_532_66
      have g_533_69 := (f_533 69 (by decide)).trans g_532_69
      have g_533_71 := (f_533 71 (by decide)).trans g_532_71
      have g_533_92 := (f_533 92 (by decide)).trans g_532_92
      have g_533_93 := (f_533 93 (by decide)).trans g_532_93
      have g_533_70 : cE h_533 70 (.inl (.int, fA [e0, e1, e2, e3, pb, fb])) := e_533
      refine fw_inc (a := 3) (loc' := [some (.ref 66), some (fI 0), some (fI 0), some (fI 4)]) rfl rfl (Nat.le_of_ble_eq_true rfl) rfl ?_
      refine ik_Wk 2 (pc' := 61) (loc' := [some (.ref 66), some (fI 0), some (fI 0), some (fI 4)]) (st' := [fI 4]) (h' := h_533) (cl' := 0) (sl' := 0) rfl ?_
      refine fw_bi rfl (by decide) ?_
      refine fw_ic_ge rfl rfl (by omega) (by omega) (by omega) (by omega) (fun hc6 => absurd hc6 (by omega)) (fun hc6 => ?_)
      refine ik_Wk 1 (pc' := 67) (loc' := [some (.ref 66), some (fI 0), some (fI 0), some (fI 4)]) (st' := [.ref 66]) (h' := h_533) (cl' := 0) (sl' := 0) rfl ?_
      refine fw_gf rfl rfl g_533_66 rfl ?_
      refine ik_Wk 2 (pc' := 72) (loc' := [some (.ref 66), some (fI 0), some (fI 0), some (fI 4)]) (st' := [.ref 66, fI 4, .ref 70]) (h' := h_533) (cl' := 0) (sl' := 0) rfl ?_
      refine fw_gf rfl rfl g_533_66 rfl ?_
      refine ik_Wk 1 (pc' := 76) (loc' := [some (.ref 66), some (fI 0), some (fI 0), some (fI 4)]) (st' := [fI 0, .ref 92, fI 4, .ref 70]) (h' := h_533) (cl' := 0) (sl' := 0) rfl ?_
      refine fw_bi rfl (by decide) ?_
      refine fw_add rfl ?_
      refine ik_Wk 1 (pc' := 80) (loc' := [some (.ref 66), some (fI 0), some (fI 0), some (fI 4)]) (st' := [fI 4, fI 48, .ref 92, fI 4, .ref 70]) (h' := h_533) (cl' := 0) (sl' := 0) rfl ?_
      refine fw_add rfl ?_
      refine fw_ial rfl g_533_92 (by omega) (by omega) (by omega) ?_
      refine ik_Wk 0 (pc' := 82) (loc' := [some (.ref 66), some (fI 0), some (fI 0), some (fI 4)]) (st' := [fI (im.getD (52 : Int).toNat 0), fI 4, .ref 70]) (h' := h_533) (cl' := 0) (sl' := 0) rfl ?_
      rw [show im.getD (52 : Int).toNat 0 = e4 from q0.2 4 (by decide)]
      refine fx_ias (z := 4) rfl g_533_70 (by decide) (Nat.le_of_ble_eq_true rfl) (by decide) ?_
      intro h_534 e_534 f_534 l_534
      have k_534 := l_534.trans k_533
      have fr_534 := hfr_w fr_533 f_534 l_534 (by decide)
      have g_534_66 := (f_534 66 (by decide)).trans g_533_66
      have g_534_69 := (f_534 69 (by decide)).trans g_533_69
      have g_534_71 := (f_534 71 (by decide)).trans g_533_71
      have g_534_92 := (f_534 92 (by decide)).trans g_533_92
      have g_534_93 := (f_534 93 (by decide)).trans g_533_93
      have g_534_70 : cE h_534 70 (.inl (.int, fA [e0, e1, e2, e3, e4, fb])) := e_534
      refine fw_inc (a := 4) (loc' := [some (.ref 66), some (fI 0), some (fI 0), some (fI 5)]) rfl rfl (Nat.le_of_ble_eq_true rfl) rfl ?_
      refine ik_Wk 2 (pc' := 61) (loc' := [some (.ref 66), some (fI 0), some (fI 0), some (fI 5)]) (st' := [fI 5]) (h' := h_534) (cl' := 0) (sl' := 0) rfl ?_
      refine fw_bi rfl (by decide) ?_
      refine fw_ic_ge rfl rfl (by omega) (by omega) (by omega) (by omega) (fun hc7 => absurd hc7 (by omega)) (fun hc7 => ?_)
      refine ik_Wk 1 (pc' := 67) (loc' := [some (.ref 66), some (fI 0), some (fI 0), some (fI 5)]) (st' := [.ref 66]) (h' := h_534) (cl' := 0) (sl' := 0) rfl ?_
      refine fw_gf rfl rfl g_534_66 rfl ?_
      refine ik_Wk 2 (pc' := 72) (loc' := [some (.ref 66), some (fI 0), some (fI 0), some (fI 5)]) (st' := [.ref 66, fI 5, .ref 70]) (h' := h_534) (cl' := 0) (sl' := 0) rfl ?_
      refine fw_gf rfl rfl g_534_66 rfl ?_
      refine ik_Wk 1 (pc' := 76) (loc' := [some (.ref 66), some (fI 0), some (fI 0), some (fI 5)]) (st' := [fI 0, .ref 92, fI 5, .ref 70]) (h' := h_534) (cl' := 0) (sl' := 0) rfl ?_
      refine fw_bi rfl (by decide) ?_
      refine fw_add rfl ?_
      refine ik_Wk 1 (pc' := 80) (loc' := [some (.ref 66), some (fI 0), some (fI 0), some (fI 5)]) (st' := [fI 5, fI 48, .ref 92, fI 5, .ref 70]) (h' := h_534) (cl' := 0) (sl' := 0) rfl ?_
      refine fw_add rfl ?_
      refine fw_ial rfl g_534_92 (by omega) (by omega) (by omega) ?_
      refine ik_Wk 0 (pc' := 82) (loc' := [some (.ref 66), some (fI 0), some (fI 0), some (fI 5)]) (st' := [fI (im.getD (53 : Int).toNat 0), fI 5, .ref 70]) (h' := h_534) (cl' := 0) (sl' := 0) rfl ?_
      rw [show im.getD (53 : Int).toNat 0 = e5 from q0.2 5 (by decide)]
      refine fx_ias (z := 5) rfl g_534_70 (by decide) (Nat.le_of_ble_eq_true rfl) (by decide) ?_
      intro h_535 e_535 f_535 l_535
      have k_535 := l_535.trans k_534
      have fr_535 := hfr_w fr_534 f_535 l_535 (by decide)
      have g_535_66 := (f_535 66 (by decide)).trans g_534_66
      have g_535_69 := (f_535 69 (by decide)).trans g_534_69
      have g_535_71 := (f_535 71 (by decide)).trans g_534_71
      have g_535_92 := (f_535 92 (by decide)).trans g_534_92
      have g_535_93 := (f_535 93 (by decide)).trans g_534_93
      have g_535_70 : cE h_535 70 (.inl (.int, fA [e0, e1, e2, e3, e4, e5])) := e_535
      refine fw_inc (a := 5) (loc' := [some (.ref 66), some (fI 0), some (fI 0), some (fI 6)]) rfl rfl (Nat.le_of_ble_eq_true rfl) rfl ?_
      refine ik_Wk 2 (pc' := 61) (loc' := [some (.ref 66), some (fI 0), some (fI 0), some (fI 6)]) (st' := [fI 6]) (h' := h_535) (cl' := 0) (sl' := 0) rfl ?_
      refine fw_bi rfl (by decide) ?_
      refine fw_ic_ge rfl rfl (by omega) (by omega) (by omega) (by omega) (fun hc8 => ?_) (fun hc8 => absurd hc8 (by omega))
      refine ik_Wk 1 (pc' := 90) (loc' := [some (.ref 66), some (fI 0), some (fI 0), some (fI 6)]) (st' := [.ref 66]) (h' := h_535) (cl' := 0) (sl' := 0) rfl ?_
      refine fw_gf rfl rfl g_535_66 rfl ?_
      refine ik_Wk 2 (pc' := 95) (loc' := [some (.ref 66), some (fI 0), some (fI 0), some (fI 6)]) (st' := [.ref 66, fI 0, .ref 71]) (h' := h_535) (cl' := 0) (sl' := 0) rfl ?_
      refine fw_gf rfl rfl g_535_66 rfl ?_
      refine ik_Wk 1 (pc' := 99) (loc' := [some (.ref 66), some (fI 0), some (fI 0), some (fI 6)]) (st' := [fI 0, .ref 92, fI 0, .ref 71]) (h' := h_535) (cl' := 0) (sl' := 0) rfl ?_
      refine fw_bi rfl (by decide) ?_
      refine fw_add rfl ?_
      refine fw_ial rfl g_535_92 (by omega) (by omega) (by omega) ?_
      refine ik_Wk 0 (pc' := 103) (loc' := [some (.ref 66), some (fI 0), some (fI 0), some (fI 6)]) (st' := [fI (im.getD (54 : Int).toNat 0), fI 0, .ref 71]) (h' := h_535) (cl' := 0) (sl' := 0) rfl ?_
      rw [show im.getD (54 : Int).toNat 0 = y0 from q0.2 6 (by decide)]
      refine fx_ias (z := 0) rfl g_535_71 (by decide) (Nat.le_of_ble_eq_true rfl) (by decide) ?_
      intro h_536 e_536 f_536 l_536
      have k_536 := l_536.trans k_535
      have fr_536 := hfr_w fr_535 f_536 l_536 (by decide)
      have g_536_66 := (f_536 66 (by decide)).trans g_535_66
      have g_536_69 := (f_536 69 (by decide)).trans g_535_69
      have g_536_70 := (f_536 70 (by decide)).trans g_535_70
      have g_536_92 := (f_536 92 (by decide)).trans g_535_92
      have g_536_93 := (f_536 93 (by decide)).trans g_535_93
      have g_536_71 : cE h_536 71 (.inl (.int, fA [y0, xb])) := e_536
      refine ik_Wk 1 (pc' := 105) (loc' := [some (.ref 66), some (fI 0), some (fI 0), some (fI 6)]) (st' := [.ref 66]) (h' := h_536) (cl' := 0) (sl' := 0) rfl ?_
      refine fw_gf rfl rfl g_536_66 rfl ?_
      refine ik_Wk 2 (pc' := 110) (loc' := [some (.ref 66), some (fI 0), some (fI 0), some (fI 6)]) (st' := [.ref 66, fI 1, .ref 71]) (h' := h_536) (cl' := 0) (sl' := 0) rfl ?_
      refine fw_gf rfl rfl g_536_66 rfl ?_
      refine ik_Wk 1 (pc' := 114) (loc' := [some (.ref 66), some (fI 0), some (fI 0), some (fI 6)]) (st' := [fI 0, .ref 92, fI 1, .ref 71]) (h' := h_536) (cl' := 0) (sl' := 0) rfl ?_
      refine fw_bi rfl (by decide) ?_
      refine fw_add rfl ?_
      refine fw_ial rfl g_536_92 (by omega) (by omega) (by omega) ?_
      refine ik_Wk 0 (pc' := 118) (loc' := [some (.ref 66), some (fI 0), some (fI 0), some (fI 6)]) (st' := [fI (im.getD (55 : Int).toNat 0), fI 1, .ref 71]) (h' := h_536) (cl' := 0) (sl' := 0) rfl ?_
      rw [show im.getD (55 : Int).toNat 0 = y1 from q0.2 7 (by decide)]
      refine fx_ias (z := 1) rfl g_536_71 (by decide) (Nat.le_of_ble_eq_true rfl) (by decide) ?_
      intro h_537 e_537 f_537 l_537
      have k_537 := l_537.trans k_536
      have fr_537 := hfr_w fr_536 f_537 l_537 (by decide)
      have g_537_66 := (f_537 66 (by decide)).trans g_536_66
      have g_537_69 := (f_537 69 (by decide)).trans g_536_69
      have g_537_70 := (f_537 70 (by decide)).trans g_536_70
      have g_537_92 := (f_537 92 (by decide)).trans g_536_92
      have g_537_93 := (f_537 93 (by decide)).trans g_536_93
      have g_537_71 : cE h_537 71 (.inl (.int, fA [y0, y1])) := e_537
      refine ik_Wk 2 (pc' := 121) (loc' := [some (.ref 66), some (fI 0), some (fI 0), some (fI 6)]) (st' := [.ref 66, .ref 66]) (h' := h_537) (cl' := 0) (sl' := 0) rfl ?_
      refine fw_gf rfl rfl g_537_66 rfl ?_
      refine ik_Wk 1 (pc' := 125) (loc' := [some (.ref 66), some (fI 0), some (fI 0), some (fI 6)]) (st' := [fI 0, .ref 92, .ref 66]) (h' := h_537) (cl' := 0) (sl' := 0) rfl ?_
      refine fw_bi rfl (by decide) ?_
      refine fw_add rfl ?_
      refine fw_ial rfl g_537_92 (by omega) (by omega) (by omega) ?_
      refine ik_Wk 0 (pc' := 129) (loc' := [some (.ref 66), some (fI 0), some (fI 0), some (fI 6)]) (st' := [fI (im.getD (56 : Int).toNat 0), .ref 66]) (h' := h_537) (cl' := 0) (sl' := 0) rfl ?_
      rw [show im.getD (56 : Int).toNat 0 = m2 from q0.2 8 (by decide)]
      refine fx_pf rfl rfl g_537_66 (Nat.le_of_ble_eq_true rfl) rfl rfl ?_
      intro h_538 e_538 f_538 l_538
      have k_538 := l_538.trans k_537
      have fr_538 := hfr_w fr_537 f_538 l_538 (by decide)
      have g_538_69 := (f_538 69 (by decide)).trans g_537_69
      have g_538_70 := (f_538 70 (by decide)).trans g_537_70
      have g_538_71 := (f_538 71 (by decide)).trans g_537_71
      have g_538_92 := (f_538 92 (by decide)).trans g_537_92
      have g_538_93 := (f_538 93 (by decide)).trans g_537_93
      have g_538_66 : cE h_538 66 (.inr (10, [fI (f 0), .ref 67, .ref 68, .ref 69, fI ((s : Nat) : Int), .ref 70, .ref 71, fI m2, fI sd, .ref 72, fI (f 10), fI (f 11), fI (f 12), fJ (f 13), fI (f 14), fI (f 15), fI (f 16), fI (f 17), .ref 73, .ref 74, .ref 75, .ref 76, .ref 77, .ref 78, fI (f 24), .ref 79, .ref 80, .ref 81, .ref 82, .ref 83, .ref 84, .ref 85, fJ (f 32), fJ (f 33), .ref 86, .ref 87, fI (f 36), .ref 88, .ref 89, .ref 90, .ref 91, .ref 92, .ref 93])) := e_538
      refine ik_Wk 2 (pc' := 134) (loc' := [some (.ref 66), some (fI 0), some (fI 0), some (fI 6)]) (st' := [.ref 66, .ref 66]) (h' := h_538) (cl' := 0) (sl' := 0) rfl ?_
      refine fw_gf rfl rfl g_538_66 rfl ?_
      refine ik_Wk 1 (pc' := 138) (loc' := [some (.ref 66), some (fI 0), some (fI 0), some (fI 6)]) (st' := [fI 0, .ref 92, .ref 66]) (h' := h_538) (cl' := 0) (sl' := 0) rfl ?_
      refine fw_bi rfl (by decide) ?_
      refine fw_add rfl ?_
      refine fw_ial rfl g_538_92 (by omega) (by omega) (by omega) ?_
      refine ik_Wk 0 (pc' := 142) (loc' := [some (.ref 66), some (fI 0), some (fI 0), some (fI 6)]) (st' := [fI (im.getD (57 : Int).toNat 0), .ref 66]) (h' := h_538) (cl' := 0) (sl' := 0) rfl ?_
      rw [show im.getD (57 : Int).toNat 0 = ((s2 : Nat) : Int) from q0.2 9 (by decide)]
      refine fx_pf rfl rfl g_538_66 (Nat.le_of_ble_eq_true rfl) rfl rfl ?_
      intro h_539 e_539 f_539 l_539
      have k_539 := l_539.trans k_538
      have fr_539 := hfr_w fr_538 f_539 l_539 (by decide)
      have g_539_69 := (f_539 69 (by decide)).trans g_538_69
      have g_539_70 := (f_539 70 (by decide)).trans g_538_70
      have g_539_71 := (f_539 71 (by decide)).trans g_538_71
      have g_539_92 := (f_539 92 (by decide)).trans g_538_92
      have g_539_93 := (f_539 93 (by decide)).trans g_538_93
      have g_539_66 : cE h_539 66 (.inr (10, [fI (f 0), .ref 67, .ref 68, .ref 69, fI ((s2 : Nat) : Int), .ref 70, .ref 71, fI m2, fI sd, .ref 72, fI (f 10), fI (f 11), fI (f 12), fJ (f 13), fI (f 14), fI (f 15), fI (f 16), fI (f 17), .ref 73, .ref 74, .ref 75, .ref 76, .ref 77, .ref 78, fI (f 24), .ref 79, .ref 80, .ref 81, .ref 82, .ref 83, .ref 84, .ref 85, fJ (f 32), fJ (f 33), .ref 86, .ref 87, fI (f 36), .ref 88, .ref 89, .ref 90, .ref 91, .ref 92, .ref 93])) := e_539
      refine ik_Wk 2 (pc' := 147) (loc' := [some (.ref 66), some (fI 0), some (fI 0), some (fI 6)]) (st' := [.ref 66, .ref 66]) (h' := h_539) (cl' := 0) (sl' := 0) rfl ?_
      refine fw_gf rfl rfl g_539_66 rfl ?_
      refine ik_Wk 1 (pc' := 151) (loc' := [some (.ref 66), some (fI 0), some (fI 0), some (fI 6)]) (st' := [fI 0, .ref 92, .ref 66]) (h' := h_539) (cl' := 0) (sl' := 0) rfl ?_
      refine fw_bi rfl (by decide) ?_
      refine fw_add rfl ?_
      refine fw_ial rfl g_539_92 (by omega) (by omega) (by omega) ?_
      refine ik_Wk 0 (pc' := 155) (loc' := [some (.ref 66), some (fI 0), some (fI 0), some (fI 6)]) (st' := [fI (im.getD (58 : Int).toNat 0), .ref 66]) (h' := h_539) (cl' := 0) (sl' := 0) rfl ?_
      rw [show im.getD (58 : Int).toNat 0 = d2 from q0.2 10 (by decide)]
      refine fx_pf rfl rfl g_539_66 (Nat.le_of_ble_eq_true rfl) rfl rfl ?_
      intro h_540 e_540 f_540 l_540
      have k_540 := l_540.trans k_539
      have fr_540 := hfr_w fr_539 f_540 l_540 (by decide)
      have g_540_69 := (f_540 69 (by decide)).trans g_539_69
      have g_540_70 := (f_540 70 (by decide)).trans g_539_70
      have g_540_71 := (f_540 71 (by decide)).trans g_539_71
      have g_540_92 := (f_540 92 (by decide)).trans g_539_92
      have g_540_93 := (f_540 93 (by decide)).trans g_539_93
      have g_540_66 : cE h_540 66 (.inr (10, [fI (f 0), .ref 67, .ref 68, .ref 69, fI ((s2 : Nat) : Int), .ref 70, .ref 71, fI m2, fI d2, .ref 72, fI (f 10), fI (f 11), fI (f 12), fJ (f 13), fI (f 14), fI (f 15), fI (f 16), fI (f 17), .ref 73, .ref 74, .ref 75, .ref 76, .ref 77, .ref 78, fI (f 24), .ref 79, .ref 80, .ref 81, .ref 82, .ref 83, .ref 84, .ref 85, fJ (f 32), fJ (f 33), .ref 86, .ref 87, fI (f 36), .ref 88, .ref 89, .ref 90, .ref 91, .ref 92, .ref 93])) := e_540
      refine ik_Wk 1 (pc' := 159) (loc' := [some (.ref 66), some (fI 0), some (fI 0), some (fI 6)]) (st' := [fI 1]) (h' := h_540) (cl' := 0) (sl' := 0) rfl ?_
      have ec : c1 = ci := mx_ext (by rw [n69, q1]) (fun j => by
        rcases Nat.lt_or_ge j 48 with z | z
        · exact hc j (by omega)
        · rw [mi_out (by omega), mi_out (by omega)])
      rw [ec] at g_540_69
      exact ik_Wret rfl rfl ⟨_, _, rfl, rfl, rfl, rfl, ⟨rfl, g_540_66, g_540_69, q1, g_540_70, g_540_71, fr_540⟩⟩
    · refine ik_Wk 1 (pc' := 39) (loc' := [some (.ref 66), some (fI 0), some (fI 0), some (fI i)]) (st' := [.ref 66]) (h' := u) (cl' := 0) (sl' := 0) rfl ?_
      refine fw_gf rfl rfl u66 rfl ?_
      refine ik_Wk 2 (pc' := 44) (loc' := [some (.ref 66), some (fI 0), some (fI 0), some (fI i)]) (st' := [.ref 66, fI i, .ref 69]) (h' := u) (cl' := 0) (sl' := 0) rfl ?_
      refine fw_gf rfl rfl u66 rfl ?_
      refine ik_Wk 2 (pc' := 49) (loc' := [some (.ref 66), some (fI 0), some (fI 0), some (fI i)]) (st' := [fI i, fI 0, .ref 92, fI i, .ref 69]) (h' := u) (cl' := 0) (sl' := 0) rfl ?_
      refine fw_add rfl ?_
      refine fw_ial rfl u92 (by omega) (by omega) (by omega) ?_
      have hl9 : (c1.set i.toNat (im.getD (0 + i).toNat 0)).length = 48 := (List.length_set ..).trans n69
      refine fx_ias rfl u69 (by omega) (by omega) (by omega) ?_
      intro h_541 e_541 f_541 l_541
      have k_541 := l_541.trans ul
      have fr_541 := hfr_w F f_541 l_541 (by decide)
      have g_541_66 := (f_541 66 (by decide)).trans u66
      have g_541_70 := (f_541 70 (by decide)).trans u70
      have g_541_71 := (f_541 71 (by decide)).trans u71
      have g_541_92 := (f_541 92 (by decide)).trans u92
      have g_541_93 := (f_541 93 (by decide)).trans u93
      have g_541_69 : cE h_541 69 (.inl (.int, fA (c1.set i.toNat (im.getD (0 + i).toNat 0)))) := e_541
      refine fw_inc (a := i) (loc' := [some (.ref 66), some (fI 0), some (fI 0), some (fI (i + 1))]) rfl rfl (Nat.le_of_ble_eq_true rfl) rfl ?_
      refine ik_Wk 1 (pc' := 32) (loc' := [some (.ref 66), some (fI 0), some (fI 0), some (fI (i + 1))]) (st' := []) (h' := h_541) (cl' := 0) (sl' := 0) rfl ?_
      have hq := q0.1 i.toNat (by omega)
      rw [show 0 + i.toNat = (0 + i).toNat by omega] at hq
      have hc2 : ∀ j : Nat, (j : Int) < i + 1 → (c1.set i.toNat (im.getD (0 + i).toNat 0)).getD j 0 = ci.getD j 0 := by
        intro j hj
        rw [fz_getD_set]
        by_cases z : j = i.toNat
        · rw [if_pos ⟨z, by omega⟩, z]; exact hq
        · rw [if_neg (fun y => z y.1)]; exact hc j (by omega)
      exact ih  (i + 1) (c1.set i.toNat (im.getD (0 + i).toNat 0)) h_541 g_541_66 g_541_69 hl9 g_541_70 g_541_71 g_541_92 n92 g_541_93 k_541 fr_541 (by omega) hc2 (by omega)

theorem rp_goBack0T {h : List ik_E} {f : Nat → Int} {s : Nat} {s2 : Nat} {t0 : Int} {t1 : Int} {e0 : Int} {e1 : Int} {e2 : Int} {e3 : Int} {e4 : Int} {e5 : Int} {y0 : Int} {y1 : Int} {m2 : Int} {d2 : Int} {ka : Int} {pa : Int} {fa : Int} {kb : Int} {pb : Int} {fb : Int} {xa : Int} {xb : Int} {mi : Int} {sd : Int} {ch : List Int} {im : List Int} {ci : List Int} (q0 : mi_ok im 0 ci e0 e1 e2 e3 e4 e5 y0 y1 m2 s2 d2) (q1 : ci.length = 48) (h66 : cE h 66 (.inr (10, [fI (f 0), .ref 67, .ref 68, .ref 69, fI ((s : Nat) : Int), .ref 70, .ref 71, fI mi, fI sd, .ref 72, fI (f 10), fI (f 11), fI (f 12), fJ (f 13), fI (f 14), fI (f 15), fI (f 16), fI (f 17), .ref 73, .ref 74, .ref 75, .ref 76, .ref 77, .ref 78, fI (f 24), .ref 79, .ref 80, .ref 81, .ref 82, .ref 83, .ref 84, .ref 85, fJ (f 32), fJ (f 33), .ref 86, .ref 87, fI (f 36), .ref 88, .ref 89, .ref 90, .ref 91, .ref 92, .ref 93]))) (h69 : cE h 69 (.inl (.int, fA ch))) (n69 : ch.length = 48) (h70 : cE h 70 (.inl (.int, fA [ka, pa, fa, kb, pb, fb]))) (h71 : cE h 71 (.inl (.int, fA [xa, xb]))) (h92 : cE h 92 (.inl (.int, fA im))) (n92 : im.length = 160) (h93 : cE h 93 (.inl (.boolean, fA [1, t1]))) (hl : h.length = 94) : ik_F 210 [.ref 66, fI 0] h (fun rv h' => rv = [fI 1] ∧ cE h' 66 (.inr (10, [fI (f 0), .ref 67, .ref 68, .ref 69, fI ((s2 : Nat) : Int), .ref 70, .ref 71, fI m2, fI d2, .ref 72, fI (f 10), fI (f 11), fI (f 12), fJ (f 13), fI (f 14), fI (f 15), fI (f 16), fI (f 17), .ref 73, .ref 74, .ref 75, .ref 76, .ref 77, .ref 78, fI (f 24), .ref 79, .ref 80, .ref 81, .ref 82, .ref 83, .ref 84, .ref 85, fJ (f 32), fJ (f 33), .ref 86, .ref 87, fI (f 36), .ref 88, .ref 89, .ref 90, .ref 91, .ref 92, .ref 93])) ∧ cE h' 69 (.inl (.int, fA ci)) ∧ ci.length = 48 ∧ cE h' 70 (.inl (.int, fA [e0, e1, e2, e3, e4, e5])) ∧ cE h' 71 (.inl (.int, fA [y0, y1])) ∧ hfr [66, 69, 70, 71] h h') := by
  refine ik_Wk 1 (pc' := 1) (loc' := [some (.ref 66), some (fI 0), none, none]) (st' := [fI 0]) (h' := h) (cl' := 0) (sl' := 0) rfl ?_
  refine fw_i2l rfl (by omega) (by omega) ?_
  refine fw_lc (z := 0) rfl (by decide) ?_
  refine fw_lc (z := 1) rfl (by decide) ?_
  refine fw_call 127 3 3 [fJ 0, fJ 0, fJ 1] [] rfl rfl rfl (by decide) rfl rfl (fw_sta hl rfl (by decide)) (cr_in (v := 0) (a := 0) (b := 1) (by omega) (by omega) (by omega)  hl) ?_
  rintro _ h_542 (⟨rfl, p_542_0, F_542⟩ | ⟨rfl, p_542_0, F_542⟩)
  · have k_542 := F_542.1.trans hl
    have fr_542 := hfr_c (hfr_refl [66, 69, 70, 71] h) F_542 (by decide)
    have g_542_66 := (F_542.2 66 (by decide +kernel)).trans h66
    have g_542_69 := (F_542.2 69 (by decide +kernel)).trans h69
    have g_542_70 := (F_542.2 70 (by decide +kernel)).trans h70
    have g_542_71 := (F_542.2 71 (by decide +kernel)).trans h71
    have g_542_92 := (F_542.2 92 (by decide +kernel)).trans h92
    have g_542_93 := (F_542.2 93 (by decide +kernel)).trans h93
    refine ik_Wk 0 (pc' := 7) (loc' := [some (.ref 66), some (fI 0), none, none]) (st' := [fI 1]) (h' := h_542) (cl' := 0) (sl' := 0) rfl ?_
    refine fw_if_ne rfl rfl (by omega) (by omega) (fun hc1 => absurd hc1 (by omega)) (fun hc1 => ?_)
    refine ik_Wk 1 (pc' := 14) (loc' := [some (.ref 66), some (fI 0), none, none]) (st' := [.ref 66]) (h' := h_542) (cl' := 0) (sl' := 0) rfl ?_
    refine fw_gf rfl rfl g_542_66 rfl ?_
    refine ik_Wk 1 (pc' := 18) (loc' := [some (.ref 66), some (fI 0), none, none]) (st' := [fI 0, .ref 93]) (h' := h_542) (cl' := 0) (sl' := 0) rfl ?_
    refine fx_bbl (z := 0) rfl g_542_93 (by decide) (Nat.le_of_ble_eq_true rfl) (by decide) ?_
    refine ik_Wk 0 (pc' := 19) (loc' := [some (.ref 66), some (fI 0), none, none]) (st' := [fI 1]) (h' := h_542) (cl' := 0) (sl' := 0) rfl ?_
    refine fw_if_ne rfl rfl (by omega) (by omega) (fun hc2 => absurd hc2 (by omega)) (fun hc2 => ?_)
    refine fw_bi rfl (by decide) ?_
    refine ik_Wk 1 (pc' := 28) (loc' := [some (.ref 66), some (fI 0), none, none]) (st' := [fI 0, fI 80]) (h' := h_542) (cl' := 0) (sl' := 0) rfl ?_
    refine fw_mul rfl ?_
    refine ik_Wk 3 (pc' := 32) (loc' := [some (.ref 66), some (fI 0), some (fI 0), some (fI 0)]) (st' := []) (h' := h_542) (cl' := 0) (sl' := 0) rfl ?_
    exact rp_goBack0L (f := f) (s := s) (s2 := s2) (t0 := t0) (t1 := t1) (e0 := e0) (e1 := e1) (e2 := e2) (e3 := e3) (e4 := e4) (e5 := e5) (y0 := y0) (y1 := y1) (m2 := m2) (d2 := d2) (ka := ka) (pa := pa) (fa := fa) (kb := kb) (pb := pb) (fb := fb) (xa := xa) (xb := xb) (mi := mi) (sd := sd) (ch := ch) (im := im) (ci := ci) q0 q1  49 0 ch h_542 g_542_66 g_542_69 n69 g_542_70 g_542_71 g_542_92 n92 g_542_93 k_542 fr_542 (by omega) (fun j hj => absurd hj (by omega)) (by omega)
  · have k_542 := F_542.1.trans hl
    have fr_542 := hfr_c (hfr_refl [66, 69, 70, 71] h) F_542 (by decide)
    have g_542_66 := (F_542.2 66 (by decide +kernel)).trans h66
    have g_542_69 := (F_542.2 69 (by decide +kernel)).trans h69
    have g_542_70 := (F_542.2 70 (by decide +kernel)).trans h70
    have g_542_71 := (F_542.2 71 (by decide +kernel)).trans h71
    have g_542_92 := (F_542.2 92 (by decide +kernel)).trans h92
    have g_542_93 := (F_542.2 93 (by decide +kernel)).trans h93
    omega

theorem rp_goBack0N {h : List ik_E} {f : Nat → Int} {t0 : Int} {t1 : Int}  (h66 : cE h 66 (.inr (10, [fI (f 0), .ref 67, .ref 68, .ref 69, fI (f 4), .ref 70, .ref 71, fI (f 7), fI (f 8), .ref 72, fI (f 10), fI (f 11), fI (f 12), fJ (f 13), fI (f 14), fI (f 15), fI (f 16), fI (f 17), .ref 73, .ref 74, .ref 75, .ref 76, .ref 77, .ref 78, fI (f 24), .ref 79, .ref 80, .ref 81, .ref 82, .ref 83, .ref 84, .ref 85, fJ (f 32), fJ (f 33), .ref 86, .ref 87, fI (f 36), .ref 88, .ref 89, .ref 90, .ref 91, .ref 92, .ref 93]))) (h93 : cE h 93 (.inl (.boolean, fA [0, t1]))) (hl : h.length = 94) : ik_F 210 [.ref 66, fI 0] h (fun rv h' => rv = [fI (-1000000003)] ∧ hfr [] h h') := by
  refine ik_Wk 1 (pc' := 1) (loc' := [some (.ref 66), some (fI 0), none, none]) (st' := [fI 0]) (h' := h) (cl' := 0) (sl' := 0) rfl ?_
  refine fw_i2l rfl (by omega) (by omega) ?_
  refine fw_lc (z := 0) rfl (by decide) ?_
  refine fw_lc (z := 1) rfl (by decide) ?_
  refine fw_call 127 3 3 [fJ 0, fJ 0, fJ 1] [] rfl rfl rfl (by decide) rfl rfl (fw_sta hl rfl (by decide)) (cr_in (v := 0) (a := 0) (b := 1) (by omega) (by omega) (by omega)  hl) ?_
  rintro _ h_543 (⟨rfl, p_543_0, F_543⟩ | ⟨rfl, p_543_0, F_543⟩)
  · have k_543 := F_543.1.trans hl
    have fr_543 := hfr_c (hfr_refl [] h) F_543 (by decide)
    have g_543_66 := (F_543.2 66 (by decide +kernel)).trans h66
    have g_543_93 := (F_543.2 93 (by decide +kernel)).trans h93
    refine ik_Wk 0 (pc' := 7) (loc' := [some (.ref 66), some (fI 0), none, none]) (st' := [fI 1]) (h' := h_543) (cl' := 0) (sl' := 0) rfl ?_
    refine fw_if_ne rfl rfl (by omega) (by omega) (fun hc1 => absurd hc1 (by omega)) (fun hc1 => ?_)
    refine ik_Wk 1 (pc' := 14) (loc' := [some (.ref 66), some (fI 0), none, none]) (st' := [.ref 66]) (h' := h_543) (cl' := 0) (sl' := 0) rfl ?_
    refine fw_gf rfl rfl g_543_66 rfl ?_
    refine ik_Wk 1 (pc' := 18) (loc' := [some (.ref 66), some (fI 0), none, none]) (st' := [fI 0, .ref 93]) (h' := h_543) (cl' := 0) (sl' := 0) rfl ?_
    refine fx_bbl (z := 0) rfl g_543_93 (by decide) (Nat.le_of_ble_eq_true rfl) (by decide) ?_
    refine ik_Wk 0 (pc' := 19) (loc' := [some (.ref 66), some (fI 0), none, none]) (st' := [fI 0]) (h' := h_543) (cl' := 0) (sl' := 0) rfl ?_
    refine fw_if_ne rfl rfl (by omega) (by omega) (fun hc2 => ?_) (fun hc2 => absurd hc2 (by omega))
    refine fw_ld (-1000000003) rfl rfl (by decide) ?_
    exact ik_Wret rfl rfl ⟨_, _, rfl, rfl, rfl, rfl, ⟨rfl, fr_543⟩⟩
  · have k_543 := F_543.1.trans hl
    have fr_543 := hfr_c (hfr_refl [] h) F_543 (by decide)
    have g_543_66 := (F_543.2 66 (by decide +kernel)).trans h66
    have g_543_93 := (F_543.2 93 (by decide +kernel)).trans h93
    omega

theorem cp_keep1 {h : List ik_E} {pl : Int} {st : Int} {lo : Int} {it : Int} {im_ : Int} {id_ : Int} {is_ : Int} {e0 : Int} {e1 : Int} {e2 : Int} {e3 : Int} {e4 : Int} {e5 : Int} {y0 : Int} {y1 : Int} {ci : List Int} {ka : Int} {pa : Int} {fa : Int} {kb : Int} {pb : Int} {fb : Int} {xa : Int} {xb : Int} {mi : Int} {dr : Int} {ch : List Int}  (h0 : cE h 0 (.inr (9, [.ref 1, .ref 7, .ref 14, .ref 17, .ref 45, .ref 51, .ref 54, .ref 57]))) (h7 : cE h 7 (.inr (0, [fI pl, fI st, fI lo, .ref 8, .ref 9, .ref 10, .ref 11, .ref 12, .ref 13]))) (h10 : cE h 10 (.inl (.int, fA ch))) (n10 : ch.length = 48) (h14 : cE h 14 (.inr (1, [.ref 7, .ref 15, .ref 16, fI mi, fJ dr]))) (h15 : cE h 15 (.inl (.int, fA [ka, pa, fa, kb, pb, fb]))) (h16 : cE h 16 (.inl (.int, fA [xa, xb]))) (h57 : cE h 57 (.inl (.object "SlowerCork$Image", [.ref 58, .ref 62]))) (h62 : cE h 62 (.inr (3, [fI it, .ref 63, .ref 64, fI im_, fJ id_, fI is_, .ref 65]))) (h63 : cE h 63 (.inl (.int, fA [e0, e1, e2, e3, e4, e5]))) (h64 : cE h 64 (.inl (.int, fA [y0, y1]))) (h65 : cE h 65 (.inl (.int, fA ci))) (n65 : ci.length = 48) (hl : h.length = 94) : ik_F 119 [.ref 0, fI 1] h (fun rv h' => rv = [fI 1] ∧ cE h' 62 (.inr (3, [fI 1, .ref 63, .ref 64, fI mi, fJ dr, fI st, .ref 65])) ∧ cE h' 63 (.inl (.int, fA [ka, pa, fa, kb, pb, fb])) ∧ cE h' 64 (.inl (.int, fA [xa, xb])) ∧ cE h' 65 (.inl (.int, fA ch)) ∧ ch.length = 48 ∧ hfr [62, 63, 64, 65] h h') := by
  refine ik_Wk 2 (pc' := 2) (loc' := [some (.ref 0), some (fI 1)]) (st' := [fI 1, .ref 0]) (h' := h) (cl' := 0) (sl' := 0) rfl ?_
  refine ik_Wc 124 2 0 [.ref 0, fI 1] [] rfl rfl rfl (by decide) rfl rfl (fw_rec hl rfl h0 rfl (by decide)) ?_
  refine ik_Wk 0 (pc' := 0) (loc' := [some (.ref 0), some (fI 1)]) (st' := []) (h' := h) (cl' := 0) (sl' := 0) rfl ?_
  refine ik_Wk 1 (pc' := 1) (loc' := [some (.ref 0), some (fI 1)]) (st' := [fI 1]) (h' := h) (cl' := 0) (sl' := 0) rfl ?_
  refine fw_if_lt rfl rfl (by omega) (by omega) (fun hc1 => absurd hc1 (by omega)) (fun hc1 => ?_)
  refine ik_Wk 2 (pc' := 6) (loc' := [some (.ref 0), some (fI 1)]) (st' := [.ref 0, fI 1]) (h' := h) (cl' := 0) (sl' := 0) rfl ?_
  refine fw_gf rfl rfl h0 rfl ?_
  refine fx_aln (L := 2) rfl h57 (rfl : [(.ref 58 : Value), (.ref 62 : Value)].length = 2) (by decide) ?_
  refine fw_ic_ge rfl rfl (by omega) (by omega) (by omega) (by omega) (fun hc2 => absurd hc2 (by omega)) (fun hc2 => ?_)
  refine ik_Wk 2 (pc' := 18) (loc' := [some (.ref 0), some (fI 1)]) (st' := [fI 1]) (h' := h) (cl' := 0) (sl' := 0) rfl ?_
  refine ik_Wret rfl rfl ⟨_, _, rfl, rfl, ?_⟩
  refine ik_Wk 0 (pc' := 5) (loc' := [some (.ref 0), some (fI 1)]) (st' := [fI 1]) (h' := h) (cl' := 0) (sl' := 0) rfl ?_
  refine fw_if_ne rfl rfl (by omega) (by omega) (fun hc3 => absurd hc3 (by omega)) (fun hc3 => ?_)
  refine ik_Wk 1 (pc' := 12) (loc' := [some (.ref 0), some (fI 1)]) (st' := [.ref 0]) (h' := h) (cl' := 0) (sl' := 0) rfl ?_
  refine fw_gf rfl rfl h0 rfl ?_
  refine ik_Wk 1 (pc' := 16) (loc' := [some (.ref 0), some (fI 1)]) (st' := [fI 1, .ref 57]) (h' := h) (cl' := 0) (sl' := 0) rfl ?_
  refine fx_aal (z := 1) rfl h57 (by decide) (by decide) rfl ?_
  refine ik_Wk 1 (pc' := 18) (loc' := [some (.ref 0), some (fI 1)]) (st' := [.ref 0, .ref 62]) (h' := h) (cl' := 0) (sl' := 0) rfl ?_
  refine fw_gf rfl rfl h0 rfl ?_
  refine ik_Wk 1 (pc' := 22) (loc' := [some (.ref 0), some (fI 1)]) (st' := [.ref 0, .ref 7, .ref 62]) (h' := h) (cl' := 0) (sl' := 0) rfl ?_
  refine fw_gf rfl rfl h0 rfl ?_
  refine ik_Wc 34 3 0 [.ref 62, .ref 7, .ref 14] [] rfl rfl rfl (by decide) rfl rfl (fw_rec hl rfl h62 rfl (by decide)) ?_
  refine ik_Wk 0 (pc' := 0) (loc' := [some (.ref 62), some (.ref 7), some (.ref 14)]) (st' := []) (h' := h) (cl' := 0) (sl' := 0) rfl ?_
  refine ik_Wk 2 (pc' := 2) (loc' := [some (.ref 62), some (.ref 7), some (.ref 14)]) (st' := [fI 1, .ref 62]) (h' := h) (cl' := 0) (sl' := 0) rfl ?_
  refine fx_pf rfl rfl h62 (Nat.le_of_ble_eq_true rfl) rfl rfl ?_
  intro h_544 e_544 f_544 l_544
  have k_544 := l_544.trans hl
  have fr_544 := hfr_w (hfr_refl [62, 63, 64, 65] h) f_544 l_544 (by decide)
  have g_544_0 := (f_544 0 (by decide)).trans h0
  have g_544_7 := (f_544 7 (by decide)).trans h7
  have g_544_10 := (f_544 10 (by decide)).trans h10
  have g_544_14 := (f_544 14 (by decide)).trans h14
  have g_544_15 := (f_544 15 (by decide)).trans h15
  have g_544_16 := (f_544 16 (by decide)).trans h16
  have g_544_57 := (f_544 57 (by decide)).trans h57
  have g_544_63 := (f_544 63 (by decide)).trans h63
  have g_544_64 := (f_544 64 (by decide)).trans h64
  have g_544_65 := (f_544 65 (by decide)).trans h65
  have g_544_62 : cE h_544 62 (.inr (3, [fI 1, .ref 63, .ref 64, fI im_, fJ id_, fI is_, .ref 65])) := e_544
  refine ik_Wk 1 (pc' := 6) (loc' := [some (.ref 62), some (.ref 7), some (.ref 14)]) (st' := [.ref 14]) (h' := h_544) (cl' := 0) (sl' := 0) rfl ?_
  refine fw_gf rfl rfl g_544_14 rfl ?_
  refine ik_Wk 2 (pc' := 11) (loc' := [some (.ref 62), some (.ref 7), some (.ref 14)]) (st' := [.ref 62, fI 0, .ref 15]) (h' := h_544) (cl' := 0) (sl' := 0) rfl ?_
  refine fw_gf rfl rfl g_544_62 rfl ?_
  refine ik_Wk 2 (pc' := 16) (loc' := [some (.ref 62), some (.ref 7), some (.ref 14)]) (st' := [.ref 62, fI 0, .ref 63, fI 0, .ref 15]) (h' := h_544) (cl' := 0) (sl' := 0) rfl ?_
  refine fw_gf rfl rfl g_544_62 rfl ?_
  refine fx_aln (L := 6) rfl g_544_63 rfl (by decide) ?_
  refine fx_cpy (xs := [ka, pa, fa, kb, pb, fb]) (ys := [e0, e1, e2, e3, e4, e5]) (n := 6) rfl rfl rfl g_544_15 g_544_63 (by decide) (by decide) rfl rfl (by decide) ⟨Nat.le_of_ble_eq_true rfl, Nat.le_of_ble_eq_true rfl, Nat.le_of_ble_eq_true rfl⟩ ?_
  intro h_545 e_545 f_545 l_545
  have k_545 := l_545.trans k_544
  have fr_545 := hfr_w fr_544 f_545 l_545 (by decide)
  have g_545_0 := (f_545 0 (by decide)).trans g_544_0
  have g_545_7 := (f_545 7 (by decide)).trans g_544_7
  have g_545_10 := (f_545 10 (by decide)).trans g_544_10
  have g_545_14 := (f_545 14 (by decide)).trans g_544_14
  have g_545_15 := (f_545 15 (by decide)).trans g_544_15
  have g_545_16 := (f_545 16 (by decide)).trans g_544_16
  have g_545_57 := (f_545 57 (by decide)).trans g_544_57
  have g_545_62 := (f_545 62 (by decide)).trans g_544_62
  have g_545_64 := (f_545 64 (by decide)).trans g_544_64
  have g_545_65 := (f_545 65 (by decide)).trans g_544_65
  have g_545_63 : cE h_545 63 (.inl (.int, fA [ka, pa, fa, kb, pb, fb])) := e_545
  refine ik_Wk 1 (pc' := 24) (loc' := [some (.ref 62), some (.ref 7), some (.ref 14)]) (st' := [.ref 14]) (h' := h_545) (cl' := 0) (sl' := 0) rfl ?_
  refine fw_gf rfl rfl g_545_14 rfl ?_
  refine ik_Wk 2 (pc' := 29) (loc' := [some (.ref 62), some (.ref 7), some (.ref 14)]) (st' := [.ref 62, fI 0, .ref 16]) (h' := h_545) (cl' := 0) (sl' := 0) rfl ?_
  refine fw_gf rfl rfl g_545_62 rfl ?_
  refine ik_Wk 2 (pc' := 34) (loc' := [some (.ref 62), some (.ref 7), some (.ref 14)]) (st' := [.ref 62, fI 0, .ref 64, fI 0, .ref 16]) (h' := h_545) (cl' := 0) (sl' := 0) rfl ?_
  refine fw_gf rfl rfl g_545_62 rfl ?_
  refine fx_aln (L := 2) rfl g_545_64 rfl (by decide) ?_
  refine fx_cpy (xs := [xa, xb]) (ys := [y0, y1]) (n := 2) rfl rfl rfl g_545_16 g_545_64 (by decide) (by decide) rfl rfl (by decide) ⟨Nat.le_of_ble_eq_true rfl, Nat.le_of_ble_eq_true rfl, Nat.le_of_ble_eq_true rfl⟩ ?_
  intro h_546 e_546 f_546 l_546
  have k_546 := l_546.trans k_545
  have fr_546 := hfr_w fr_545 f_546 l_546 (by decide)
  have g_546_0 := (f_546 0 (by decide)).trans g_545_0
  have g_546_7 := (f_546 7 (by decide)).trans g_545_7
  have g_546_10 := (f_546 10 (by decide)).trans g_545_10
  have g_546_14 := (f_546 14 (by decide)).trans g_545_14
  have g_546_15 := (f_546 15 (by decide)).trans g_545_15
  have g_546_16 := (f_546 16 (by decide)).trans g_545_16
  have g_546_57 := (f_546 57 (by decide)).trans g_545_57
  have g_546_62 := (f_546 62 (by decide)).trans g_545_62
  have g_546_63 := (f_546 63 (by decide)).trans g_545_63
  have g_546_65 := (f_546 65 (by decide)).trans g_545_65
  have g_546_64 : cE h_546 64 (.inl (.int, fA [xa, xb])) := e_546
  refine ik_Wk 2 (pc' := 43) (loc' := [some (.ref 62), some (.ref 7), some (.ref 14)]) (st' := [.ref 14, .ref 62]) (h' := h_546) (cl' := 0) (sl' := 0) rfl ?_
  refine fw_gf rfl rfl g_546_14 rfl ?_
  refine fx_pf rfl rfl g_546_62 (Nat.le_of_ble_eq_true rfl) rfl rfl ?_
  intro h_547 e_547 f_547 l_547
  have k_547 := l_547.trans k_546
  have fr_547 := hfr_w fr_546 f_547 l_547 (by decide)
  have g_547_0 := (f_547 0 (by decide)).trans g_546_0
  have g_547_7 := (f_547 7 (by decide)).trans g_546_7
  have g_547_10 := (f_547 10 (by decide)).trans g_546_10
  have g_547_14 := (f_547 14 (by decide)).trans g_546_14
  have g_547_15 := (f_547 15 (by decide)).trans g_546_15
  have g_547_16 := (f_547 16 (by decide)).trans g_546_16
  have g_547_57 := (f_547 57 (by decide)).trans g_546_57
  have g_547_63 := (f_547 63 (by decide)).trans g_546_63
  have g_547_64 := (f_547 64 (by decide)).trans g_546_64
  have g_547_65 := (f_547 65 (by decide)).trans g_546_65
  have g_547_62 : cE h_547 62 (.inr (3, [fI 1, .ref 63, .ref 64, fI mi, fJ id_, fI is_, .ref 65])) := e_547
  refine ik_Wk 2 (pc' := 51) (loc' := [some (.ref 62), some (.ref 7), some (.ref 14)]) (st' := [.ref 14, .ref 62]) (h' := h_547) (cl' := 0) (sl' := 0) rfl ?_
  refine fw_gf rfl rfl g_547_14 rfl ?_
  refine fx_pf rfl rfl g_547_62 (Nat.le_of_ble_eq_true rfl) rfl rfl ?_
  intro h_548 e_548 f_548 l_548
  have k_548 := l_548.trans k_547
  have fr_548 := hfr_w fr_547 f_548 l_548 (by decide)
  have g_548_0 := (f_548 0 (by decide)).trans g_547_0
  have g_548_7 := (f_548 7 (by decide)).trans g_547_7
  have g_548_10 := (f_548 10 (by decide)).trans g_547_10
  have g_548_14 := (f_548 14 (by decide)).trans g_547_14
  have g_548_15 := (f_548 15 (by decide)).trans g_547_15
  have g_548_16 := (f_548 16 (by decide)).trans g_547_16
  have g_548_57 := (f_548 57 (by decide)).trans g_547_57
  have g_548_63 := (f_548 63 (by decide)).trans g_547_63
  have g_548_64 := (f_548 64 (by decide)).trans g_547_64
  have g_548_65 := (f_548 65 (by decide)).trans g_547_65
  have g_548_62 : cE h_548 62 (.inr (3, [fI 1, .ref 63, .ref 64, fI mi, fJ dr, fI is_, .ref 65])) := e_548
  refine ik_Wk 2 (pc' := 59) (loc' := [some (.ref 62), some (.ref 7), some (.ref 14)]) (st' := [.ref 7, .ref 62]) (h' := h_548) (cl' := 0) (sl' := 0) rfl ?_
  refine fw_gf rfl rfl g_548_7 rfl ?_
  refine fx_pf rfl rfl g_548_62 (Nat.le_of_ble_eq_true rfl) rfl rfl ?_
  intro h_549 e_549 f_549 l_549
  have k_549 := l_549.trans k_548
  have fr_549 := hfr_w fr_548 f_549 l_549 (by decide)
  have g_549_0 := (f_549 0 (by decide)).trans g_548_0
  have g_549_7 := (f_549 7 (by decide)).trans g_548_7
  have g_549_10 := (f_549 10 (by decide)).trans g_548_10
  have g_549_14 := (f_549 14 (by decide)).trans g_548_14
  have g_549_15 := (f_549 15 (by decide)).trans g_548_15
  have g_549_16 := (f_549 16 (by decide)).trans g_548_16
  have g_549_57 := (f_549 57 (by decide)).trans g_548_57
  have g_549_63 := (f_549 63 (by decide)).trans g_548_63
  have g_549_64 := (f_549 64 (by decide)).trans g_548_64
  have g_549_65 := (f_549 65 (by decide)).trans g_548_65
  have g_549_62 : cE h_549 62 (.inr (3, [fI 1, .ref 63, .ref 64, fI mi, fJ dr, fI st, .ref 65])) := e_549
  refine ik_Wk 1 (pc' := 66) (loc' := [some (.ref 62), some (.ref 7), some (.ref 14)]) (st' := [.ref 7]) (h' := h_549) (cl' := 0) (sl' := 0) rfl ?_
  refine fw_gf rfl rfl g_549_7 rfl ?_
  refine ik_Wk 2 (pc' := 71) (loc' := [some (.ref 62), some (.ref 7), some (.ref 14)]) (st' := [.ref 62, fI 0, .ref 10]) (h' := h_549) (cl' := 0) (sl' := 0) rfl ?_
  refine fw_gf rfl rfl g_549_62 rfl ?_
  refine ik_Wk 2 (pc' := 76) (loc' := [some (.ref 62), some (.ref 7), some (.ref 14)]) (st' := [.ref 62, fI 0, .ref 65, fI 0, .ref 10]) (h' := h_549) (cl' := 0) (sl' := 0) rfl ?_
  refine fw_gf rfl rfl g_549_62 rfl ?_
  refine fx_aln rfl g_549_65 ((fA_len _).trans n65) (by decide) ?_
  refine fx_cpy rfl rfl rfl g_549_10 g_549_65 (by decide) (by decide) n10 n65 (by decide) ⟨Nat.le_of_ble_eq_true rfl, Nat.le_of_ble_eq_true rfl, Nat.le_of_ble_eq_true rfl⟩ ?_
  intro h_550 e_550 f_550 l_550
  have k_550 := l_550.trans k_549
  have fr_550 := hfr_w fr_549 f_550 l_550 (by decide)
  have g_550_0 := (f_550 0 (by decide)).trans g_549_0
  have g_550_7 := (f_550 7 (by decide)).trans g_549_7
  have g_550_10 := (f_550 10 (by decide)).trans g_549_10
  have g_550_14 := (f_550 14 (by decide)).trans g_549_14
  have g_550_15 := (f_550 15 (by decide)).trans g_549_15
  have g_550_16 := (f_550 16 (by decide)).trans g_549_16
  have g_550_57 := (f_550 57 (by decide)).trans g_549_57
  have g_550_62 := (f_550 62 (by decide)).trans g_549_62
  have g_550_63 := (f_550 63 (by decide)).trans g_549_63
  have g_550_64 := (f_550 64 (by decide)).trans g_549_64
  have g_550_65 : cE h_550 65 (.inl (.int, fA ch)) := e_550
  refine ik_Wret rfl rfl ⟨_, _, rfl, rfl, ?_⟩
  refine ik_Wk 0 (pc' := 28) (loc' := [some (.ref 0), some (fI 1)]) (st' := []) (h' := h_550) (cl' := 0) (sl' := 0) rfl ?_
  refine ik_Wk 1 (pc' := 29) (loc' := [some (.ref 0), some (fI 1)]) (st' := [fI 1]) (h' := h_550) (cl' := 0) (sl' := 0) rfl ?_
  exact ik_Wret rfl rfl ⟨_, _, rfl, rfl, rfl, rfl, ⟨rfl, g_550_62, g_550_63, g_550_64, g_550_65, n10, fr_550⟩⟩

theorem cp_goBack1T {h : List ik_E} {pl : Int} {s : Nat} {lo : Int} {im_ : Int} {id_ : Int} {s2 : Nat} {e0 : Int} {e1 : Int} {e2 : Int} {e3 : Int} {e4 : Int} {e5 : Int} {y0 : Int} {y1 : Int} {ci : List Int} {ka : Int} {pa : Int} {fa : Int} {kb : Int} {pb : Int} {fb : Int} {xa : Int} {xb : Int} {mi : Int} {dr : Int} {cn : List Int} {go : List Int} {ch : List Int} {wg : List Int} {wc : List Int} {we : List Int} (q0 : 0 ≤ pl ∧ pl ≤ 12) (q1 : s2 < 4096) (q2 : mx_rw pl cn go ci) (q3 : 1 ≤ pl → cn.getD (pl - 1).toNat 0 = 0) (q4 : 1 ≤ pl → s2.testBit (pl - 1).toNat = false) (h0 : cE h 0 (.inr (9, [.ref 1, .ref 7, .ref 14, .ref 17, .ref 45, .ref 51, .ref 54, .ref 57]))) (h7 : cE h 7 (.inr (0, [fI pl, fI ((s : Nat) : Int), fI lo, .ref 8, .ref 9, .ref 10, .ref 11, .ref 12, .ref 13]))) (h8 : cE h 8 (.inl (.int, fA cn))) (n8 : cn.length = 12) (h9 : cE h 9 (.inl (.int, fA go))) (n9 : go.length = 48) (h10 : cE h 10 (.inl (.int, fA ch))) (n10 : ch.length = 48) (h11 : cE h 11 (.inl (.int, fA wg))) (n11 : wg.length = 60) (h12 : cE h 12 (.inl (.int, fA wc))) (n12 : wc.length = 60) (h13 : cE h 13 (.inl (.int, fA we))) (n13 : we.length = 12) (h14 : cE h 14 (.inr (1, [.ref 7, .ref 15, .ref 16, fI mi, fJ dr]))) (h15 : cE h 15 (.inl (.int, fA [ka, pa, fa, kb, pb, fb]))) (h16 : cE h 16 (.inl (.int, fA [xa, xb]))) (h57 : cE h 57 (.inl (.object "SlowerCork$Image", [.ref 58, .ref 62]))) (h62 : cE h 62 (.inr (3, [fI 1, .ref 63, .ref 64, fI im_, fJ id_, fI ((s2 : Nat) : Int), .ref 65]))) (h63 : cE h 63 (.inl (.int, fA [e0, e1, e2, e3, e4, e5]))) (h64 : cE h 64 (.inl (.int, fA [y0, y1]))) (h65 : cE h 65 (.inl (.int, fA ci))) (n65 : ci.length = 48) (hl : h.length = 94) : ik_F 120 [.ref 0, fI 1] h (fun rv h' => ∃ (wg' : List Int) (wc' : List Int) (we' : List Int), rv = [fI 1] ∧ cE h' 7 (.inr (0, [fI pl, fI ((s2 : Nat) : Int), fI lo, .ref 8, .ref 9, .ref 10, .ref 11, .ref 12, .ref 13])) ∧ cE h' 10 (.inl (.int, fA ci)) ∧ ci.length = 48 ∧ cE h' 11 (.inl (.int, fA wg')) ∧ wg'.length = 60 ∧ cE h' 12 (.inl (.int, fA wc')) ∧ wc'.length = 60 ∧ cE h' 13 (.inl (.int, fA we')) ∧ we'.length = 12 ∧ cE h' 14 (.inr (1, [.ref 7, .ref 15, .ref 16, fI im_, fJ id_])) ∧ cE h' 15 (.inl (.int, fA [e0, e1, e2, e3, e4, e5])) ∧ cE h' 16 (.inl (.int, fA [y0, y1])) ∧ (∀ x : Int, 0 ≤ x → x < pl - 1 → mx_wy wg' wc' we' x (mx_w cn go ci s2 x)) ∧ hfr [7, 10, 11, 12, 13, 14, 15, 16] h h') := by
  refine ik_Wk 2 (pc' := 2) (loc' := [some (.ref 0), some (fI 1)]) (st' := [fI 1, .ref 0]) (h' := h) (cl' := 0) (sl' := 0) rfl ?_
  refine ik_Wc 124 2 0 [.ref 0, fI 1] [] rfl rfl rfl (by decide) rfl rfl (fw_rec hl rfl h0 rfl (by decide)) ?_
  refine ik_Wk 0 (pc' := 0) (loc' := [some (.ref 0), some (fI 1)]) (st' := []) (h' := h) (cl' := 0) (sl' := 0) rfl ?_
  refine ik_Wk 1 (pc' := 1) (loc' := [some (.ref 0), some (fI 1)]) (st' := [fI 1]) (h' := h) (cl' := 0) (sl' := 0) rfl ?_
  refine fw_if_lt rfl rfl (by omega) (by omega) (fun hc1 => absurd hc1 (by omega)) (fun hc1 => ?_)
  refine ik_Wk 2 (pc' := 6) (loc' := [some (.ref 0), some (fI 1)]) (st' := [.ref 0, fI 1]) (h' := h) (cl' := 0) (sl' := 0) rfl ?_
  refine fw_gf rfl rfl h0 rfl ?_
  refine fx_aln (L := 2) rfl h57 (rfl : [(.ref 58 : Value), (.ref 62 : Value)].length = 2) (by decide) ?_
  refine fw_ic_ge rfl rfl (by omega) (by omega) (by omega) (by omega) (fun hc2 => absurd hc2 (by omega)) (fun hc2 => ?_)
  refine ik_Wk 2 (pc' := 18) (loc' := [some (.ref 0), some (fI 1)]) (st' := [fI 1]) (h' := h) (cl' := 0) (sl' := 0) rfl ?_
  refine ik_Wret rfl rfl ⟨_, _, rfl, rfl, ?_⟩
  refine ik_Wk 0 (pc' := 5) (loc' := [some (.ref 0), some (fI 1)]) (st' := [fI 1]) (h' := h) (cl' := 0) (sl' := 0) rfl ?_
  refine fw_if_ne rfl rfl (by omega) (by omega) (fun hc3 => absurd hc3 (by omega)) (fun hc3 => ?_)
  refine ik_Wk 1 (pc' := 12) (loc' := [some (.ref 0), some (fI 1)]) (st' := [.ref 0]) (h' := h) (cl' := 0) (sl' := 0) rfl ?_
  refine fw_gf rfl rfl h0 rfl ?_
  refine ik_Wk 1 (pc' := 16) (loc' := [some (.ref 0), some (fI 1)]) (st' := [fI 1, .ref 57]) (h' := h) (cl' := 0) (sl' := 0) rfl ?_
  refine fx_aal (z := 1) rfl h57 (by decide) (by decide) rfl ?_
  refine fw_gf rfl rfl h62 rfl ?_
  refine fw_if_ne rfl rfl (by omega) (by omega) (fun hc4 => absurd hc4 (by omega)) (fun hc4 => ?_)
  refine ik_Wk 1 (pc' := 27) (loc' := [some (.ref 0), some (fI 1)]) (st' := [.ref 0]) (h' := h) (cl' := 0) (sl' := 0) rfl ?_
  refine fw_gf rfl rfl h0 rfl ?_
  refine ik_Wk 1 (pc' := 31) (loc' := [some (.ref 0), some (fI 1)]) (st' := [fI 1, .ref 57]) (h' := h) (cl' := 0) (sl' := 0) rfl ?_
  refine fx_aal (z := 1) rfl h57 (by decide) (by decide) rfl ?_
  refine ik_Wk 1 (pc' := 33) (loc' := [some (.ref 0), some (fI 1)]) (st' := [.ref 0, .ref 62]) (h' := h) (cl' := 0) (sl' := 0) rfl ?_
  refine fw_gf rfl rfl h0 rfl ?_
  refine ik_Wk 1 (pc' := 37) (loc' := [some (.ref 0), some (fI 1)]) (st' := [.ref 0, .ref 7, .ref 62]) (h' := h) (cl' := 0) (sl' := 0) rfl ?_
  refine fw_gf rfl rfl h0 rfl ?_
  refine ik_Wc 35 3 0 [.ref 62, .ref 7, .ref 14] [] rfl rfl rfl (by decide) rfl rfl (fw_rec hl rfl h62 rfl (by decide)) ?_
  refine ik_Wk 0 (pc' := 0) (loc' := [some (.ref 62), some (.ref 7), some (.ref 14)]) (st' := []) (h' := h) (cl' := 0) (sl' := 0) rfl ?_
  refine ik_Wk 1 (pc' := 1) (loc' := [some (.ref 62), some (.ref 7), some (.ref 14)]) (st' := [.ref 62]) (h' := h) (cl' := 0) (sl' := 0) rfl ?_
  refine fw_gf rfl rfl h62 rfl ?_
  refine ik_Wk 2 (pc' := 6) (loc' := [some (.ref 62), some (.ref 7), some (.ref 14)]) (st' := [.ref 14, fI 0, .ref 63]) (h' := h) (cl' := 0) (sl' := 0) rfl ?_
  refine fw_gf rfl rfl h14 rfl ?_
  refine ik_Wk 2 (pc' := 11) (loc' := [some (.ref 62), some (.ref 7), some (.ref 14)]) (st' := [.ref 62, fI 0, .ref 15, fI 0, .ref 63]) (h' := h) (cl' := 0) (sl' := 0) rfl ?_
  refine fw_gf rfl rfl h62 rfl ?_
  refine fx_aln (L := 6) rfl h63 rfl (by decide) ?_
  refine fx_cpy (xs := [e0, e1, e2, e3, e4, e5]) (ys := [ka, pa, fa, kb, pb, fb]) (n := 6) rfl rfl rfl h63 h15 (by decide) (by decide) rfl rfl (by decide) ⟨Nat.le_of_ble_eq_true rfl, Nat.le_of_ble_eq_true rfl, Nat.le_of_ble_eq_true rfl⟩ ?_
  intro h_551 e_551 f_551 l_551
  have k_551 := l_551.trans hl
  have fr_551 := hfr_w (hfr_refl [7, 10, 11, 12, 13, 14, 15, 16] h) f_551 l_551 (by decide)
  have g_551_0 := (f_551 0 (by decide)).trans h0
  have g_551_7 := (f_551 7 (by decide)).trans h7
  have g_551_8 := (f_551 8 (by decide)).trans h8
  have g_551_9 := (f_551 9 (by decide)).trans h9
  have g_551_10 := (f_551 10 (by decide)).trans h10
  have g_551_11 := (f_551 11 (by decide)).trans h11
  have g_551_12 := (f_551 12 (by decide)).trans h12
  have g_551_13 := (f_551 13 (by decide)).trans h13
  have g_551_14 := (f_551 14 (by decide)).trans h14
  have g_551_16 := (f_551 16 (by decide)).trans h16
  have g_551_57 := (f_551 57 (by decide)).trans h57
  have g_551_62 := (f_551 62 (by decide)).trans h62
  have g_551_63 := (f_551 63 (by decide)).trans h63
  have g_551_64 := (f_551 64 (by decide)).trans h64
  have g_551_65 := (f_551 65 (by decide)).trans h65
  have g_551_15 : cE h_551 15 (.inl (.int, fA [e0, e1, e2, e3, e4, e5])) := e_551
  refine ik_Wk 1 (pc' := 19) (loc' := [some (.ref 62), some (.ref 7), some (.ref 14)]) (st' := [.ref 62]) (h' := h_551) (cl' := 0) (sl' := 0) rfl ?_
  refine fw_gf rfl rfl g_551_62 rfl ?_
  refine ik_Wk 2 (pc' := 24) (loc' := [some (.ref 62), some (.ref 7), some (.ref 14)]) (st' := [.ref 14, fI 0, .ref 64]) (h' := h_551) (cl' := 0) (sl' := 0) rfl ?_
  refine fw_gf rfl rfl g_551_14 rfl ?_
  refine ik_Wk 2 (pc' := 29) (loc' := [some (.ref 62), some (.ref 7), some (.ref 14)]) (st' := [.ref 62, fI 0, .ref 16, fI 0, .ref 64]) (h' := h_551) (cl' := 0) (sl' := 0) rfl ?_
  refine fw_gf rfl rfl g_551_62 rfl ?_
  refine fx_aln (L := 2) rfl g_551_64 rfl (by decide) ?_
  refine fx_cpy (xs := [y0, y1]) (ys := [xa, xb]) (n := 2) rfl rfl rfl g_551_64 g_551_16 (by decide) (by decide) rfl rfl (by decide) ⟨Nat.le_of_ble_eq_true rfl, Nat.le_of_ble_eq_true rfl, Nat.le_of_ble_eq_true rfl⟩ ?_
  intro h_552 e_552 f_552 l_552
  have k_552 := l_552.trans k_551
  have fr_552 := hfr_w fr_551 f_552 l_552 (by decide)
  have g_552_0 := (f_552 0 (by decide)).trans g_551_0
  have g_552_7 := (f_552 7 (by decide)).trans g_551_7
  have g_552_8 := (f_552 8 (by decide)).trans g_551_8
  have g_552_9 := (f_552 9 (by decide)).trans g_551_9
  have g_552_10 := (f_552 10 (by decide)).trans g_551_10
  have g_552_11 := (f_552 11 (by decide)).trans g_551_11
  have g_552_12 := (f_552 12 (by decide)).trans g_551_12
  have g_552_13 := (f_552 13 (by decide)).trans g_551_13
  have g_552_14 := (f_552 14 (by decide)).trans g_551_14
  have g_552_15 := (f_552 15 (by decide)).trans g_551_15
  have g_552_57 := (f_552 57 (by decide)).trans g_551_57
  have g_552_62 := (f_552 62 (by decide)).trans g_551_62
  have g_552_63 := (f_552 63 (by decide)).trans g_551_63
  have g_552_64 := (f_552 64 (by decide)).trans g_551_64
  have g_552_65 := (f_552 65 (by decide)).trans g_551_65
  have g_552_16 : cE h_552 16 (.inl (.int, fA [y0, y1])) := e_552
  refine ik_Wk 2 (pc' := 38) (loc' := [some (.ref 62), some (.ref 7), some (.ref 14)]) (st' := [.ref 62, .ref 14]) (h' := h_552) (cl' := 0) (sl' := 0) rfl ?_
  refine fw_gf rfl rfl g_552_62 rfl ?_
  refine fx_pf rfl rfl g_552_14 (Nat.le_of_ble_eq_true rfl) rfl rfl ?_
  intro h_553 e_553 f_553 l_553
  have k_553 := l_553.trans k_552
  have fr_553 := hfr_w fr_552 f_553 l_553 (by decide)
  have g_553_0 := (f_553 0 (by decide)).trans g_552_0
  have g_553_7 := (f_553 7 (by decide)).trans g_552_7
  have g_553_8 := (f_553 8 (by decide)).trans g_552_8
  have g_553_9 := (f_553 9 (by decide)).trans g_552_9
  have g_553_10 := (f_553 10 (by decide)).trans g_552_10
  have g_553_11 := (f_553 11 (by decide)).trans g_552_11
  have g_553_12 := (f_553 12 (by decide)).trans g_552_12
  have g_553_13 := (f_553 13 (by decide)).trans g_552_13
  have g_553_15 := (f_553 15 (by decide)).trans g_552_15
  have g_553_16 := (f_553 16 (by decide)).trans g_552_16
  have g_553_57 := (f_553 57 (by decide)).trans g_552_57
  have g_553_62 := (f_553 62 (by decide)).trans g_552_62
  have g_553_63 := (f_553 63 (by decide)).trans g_552_63
  have g_553_64 := (f_553 64 (by decide)).trans g_552_64
  have g_553_65 := (f_553 65 (by decide)).trans g_552_65
  have g_553_14 : cE h_553 14 (.inr (1, [.ref 7, .ref 15, .ref 16, fI im_, fJ dr])) := e_553
  refine ik_Wk 2 (pc' := 46) (loc' := [some (.ref 62), some (.ref 7), some (.ref 14)]) (st' := [.ref 62, .ref 14]) (h' := h_553) (cl' := 0) (sl' := 0) rfl ?_
  refine fw_gf rfl rfl g_553_62 rfl ?_
  refine fx_pf rfl rfl g_553_14 (Nat.le_of_ble_eq_true rfl) rfl rfl ?_
  intro h_554 e_554 f_554 l_554
  have k_554 := l_554.trans k_553
  have fr_554 := hfr_w fr_553 f_554 l_554 (by decide)
  have g_554_0 := (f_554 0 (by decide)).trans g_553_0
  have g_554_7 := (f_554 7 (by decide)).trans g_553_7
  have g_554_8 := (f_554 8 (by decide)).trans g_553_8
  have g_554_9 := (f_554 9 (by decide)).trans g_553_9
  have g_554_10 := (f_554 10 (by decide)).trans g_553_10
  have g_554_11 := (f_554 11 (by decide)).trans g_553_11
  have g_554_12 := (f_554 12 (by decide)).trans g_553_12
  have g_554_13 := (f_554 13 (by decide)).trans g_553_13
  have g_554_15 := (f_554 15 (by decide)).trans g_553_15
  have g_554_16 := (f_554 16 (by decide)).trans g_553_16
  have g_554_57 := (f_554 57 (by decide)).trans g_553_57
  have g_554_62 := (f_554 62 (by decide)).trans g_553_62
  have g_554_63 := (f_554 63 (by decide)).trans g_553_63
  have g_554_64 := (f_554 64 (by decide)).trans g_553_64
  have g_554_65 := (f_554 65 (by decide)).trans g_553_65
  have g_554_14 : cE h_554 14 (.inr (1, [.ref 7, .ref 15, .ref 16, fI im_, fJ id_])) := e_554
  refine ik_Wk 2 (pc' := 54) (loc' := [some (.ref 62), some (.ref 7), some (.ref 14)]) (st' := [.ref 62, .ref 7]) (h' := h_554) (cl' := 0) (sl' := 0) rfl ?_
  refine fw_gf rfl rfl g_554_62 rfl ?_
  refine fx_pf rfl rfl g_554_7 (Nat.le_of_ble_eq_true rfl) rfl rfl ?_
  intro h_555 e_555 f_555 l_555
  have k_555 := l_555.trans k_554
  have fr_555 := hfr_w fr_554 f_555 l_555 (by decide)
  have g_555_0 := (f_555 0 (by decide)).trans g_554_0
  have g_555_8 := (f_555 8 (by decide)).trans g_554_8
  have g_555_9 := (f_555 9 (by decide)).trans g_554_9
  have g_555_10 := (f_555 10 (by decide)).trans g_554_10
  have g_555_11 := (f_555 11 (by decide)).trans g_554_11
  have g_555_12 := (f_555 12 (by decide)).trans g_554_12
  have g_555_13 := (f_555 13 (by decide)).trans g_554_13
  have g_555_14 := (f_555 14 (by decide)).trans g_554_14
  have g_555_15 := (f_555 15 (by decide)).trans g_554_15
  have g_555_16 := (f_555 16 (by decide)).trans g_554_16
  have g_555_57 := (f_555 57 (by decide)).trans g_554_57
  have g_555_62 := (f_555 62 (by decide)).trans g_554_62
  have g_555_63 := (f_555 63 (by decide)).trans g_554_63
  have g_555_64 := (f_555 64 (by decide)).trans g_554_64
  have g_555_65 := (f_555 65 (by decide)).trans g_554_65
  have g_555_7 : cE h_555 7 (.inr (0, [fI pl, fI ((s2 : Nat) : Int), fI lo, .ref 8, .ref 9, .ref 10, .ref 11, .ref 12, .ref 13])) := e_555
  refine ik_Wk 1 (pc' := 61) (loc' := [some (.ref 62), some (.ref 7), some (.ref 14)]) (st' := [.ref 62]) (h' := h_555) (cl' := 0) (sl' := 0) rfl ?_
  refine fw_gf rfl rfl g_555_62 rfl ?_
  refine ik_Wk 2 (pc' := 66) (loc' := [some (.ref 62), some (.ref 7), some (.ref 14)]) (st' := [.ref 7, fI 0, .ref 65]) (h' := h_555) (cl' := 0) (sl' := 0) rfl ?_
  refine fw_gf rfl rfl g_555_7 rfl ?_
  refine ik_Wk 2 (pc' := 71) (loc' := [some (.ref 62), some (.ref 7), some (.ref 14)]) (st' := [.ref 62, fI 0, .ref 10, fI 0, .ref 65]) (h' := h_555) (cl' := 0) (sl' := 0) rfl ?_
  refine fw_gf rfl rfl g_555_62 rfl ?_
  refine fx_aln rfl g_555_65 ((fA_len _).trans n65) (by decide) ?_
  refine fx_cpy rfl rfl rfl g_555_65 g_555_10 (by decide) (by decide) n65 n10 (by decide) ⟨Nat.le_of_ble_eq_true rfl, Nat.le_of_ble_eq_true rfl, Nat.le_of_ble_eq_true rfl⟩ ?_
  intro h_556 e_556 f_556 l_556
  have k_556 := l_556.trans k_555
  have fr_556 := hfr_w fr_555 f_556 l_556 (by decide)
  have g_556_0 := (f_556 0 (by decide)).trans g_555_0
  have g_556_7 := (f_556 7 (by decide)).trans g_555_7
  have g_556_8 := (f_556 8 (by decide)).trans g_555_8
  have g_556_9 := (f_556 9 (by decide)).trans g_555_9
  have g_556_11 := (f_556 11 (by decide)).trans g_555_11
  have g_556_12 := (f_556 12 (by decide)).trans g_555_12
  have g_556_13 := (f_556 13 (by decide)).trans g_555_13
  have g_556_14 := (f_556 14 (by decide)).trans g_555_14
  have g_556_15 := (f_556 15 (by decide)).trans g_555_15
  have g_556_16 := (f_556 16 (by decide)).trans g_555_16
  have g_556_57 := (f_556 57 (by decide)).trans g_555_57
  have g_556_62 := (f_556 62 (by decide)).trans g_555_62
  have g_556_63 := (f_556 63 (by decide)).trans g_555_63
  have g_556_64 := (f_556 64 (by decide)).trans g_555_64
  have g_556_65 := (f_556 65 (by decide)).trans g_555_65
  have g_556_10 : cE h_556 10 (.inl (.int, fA ci)) := e_556
  refine ik_Wk 1 (pc' := 79) (loc' := [some (.ref 62), some (.ref 7), some (.ref 14)]) (st' := [.ref 7]) (h' := h_556) (cl' := 0) (sl' := 0) rfl ?_
  refine fw_call 11 1 0 [.ref 7] [] rfl rfl rfl (by decide) rfl rfl (fw_rec k_556 rfl g_556_7 rfl (by decide)) (cs_settleAll (pl := pl) (lo := lo) (s := s2) (cn := cn) (go := go) (ch := ci) (wg := wg) (wc := wc) (we := we) (by omega) q1 q2 q3 q4 g_556_7 g_556_8 n8 g_556_9 n9 g_556_10 n65 g_556_11 n11 g_556_12 n12 g_556_13 n13 k_556) ?_
  rintro _ h_557 ⟨wg'_557, wc'_557, we'_557, rfl, e_557_11, m_557_11, e_557_12, m_557_12, e_557_13, m_557_13, p_557_0, F_557⟩
  have k_557 := F_557.1.trans k_556
  have fr_557 := hfr_c fr_556 F_557 (by decide)
  have g_557_0 := (F_557.2 0 (by decide +kernel)).trans g_556_0
  have g_557_7 := (F_557.2 7 (by decide +kernel)).trans g_556_7
  have g_557_8 := (F_557.2 8 (by decide +kernel)).trans g_556_8
  have g_557_9 := (F_557.2 9 (by decide +kernel)).trans g_556_9
  have g_557_10 := (F_557.2 10 (by decide +kernel)).trans g_556_10
  have g_557_14 := (F_557.2 14 (by decide +kernel)).trans g_556_14
  have g_557_15 := (F_557.2 15 (by decide +kernel)).trans g_556_15
  have g_557_16 := (F_557.2 16 (by decide +kernel)).trans g_556_16
  have g_557_57 := (F_557.2 57 (by decide +kernel)).trans g_556_57
  have g_557_62 := (F_557.2 62 (by decide +kernel)).trans g_556_62
  have g_557_63 := (F_557.2 63 (by decide +kernel)).trans g_556_63
  have g_557_64 := (F_557.2 64 (by decide +kernel)).trans g_556_64
  have g_557_65 := (F_557.2 65 (by decide +kernel)).trans g_556_65
  have g_557_11 : cE h_557 11 (.inl (.int, fA wg'_557)) := e_557_11
  have g_557_12 : cE h_557 12 (.inl (.int, fA wc'_557)) := e_557_12
  have g_557_13 : cE h_557 13 (.inl (.int, fA we'_557)) := e_557_13
  refine ik_Wk 0 (pc' := 82) (loc' := [some (.ref 62), some (.ref 7), some (.ref 14)]) (st' := []) (h' := h_557) (cl' := 0) (sl' := 0) rfl ?_
  refine ik_Wret rfl rfl ⟨_, _, rfl, rfl, ?_⟩
  refine ik_Wk 0 (pc' := 43) (loc' := [some (.ref 0), some (fI 1)]) (st' := []) (h' := h_557) (cl' := 0) (sl' := 0) rfl ?_
  refine ik_Wk 1 (pc' := 44) (loc' := [some (.ref 0), some (fI 1)]) (st' := [fI 1]) (h' := h_557) (cl' := 0) (sl' := 0) rfl ?_
  exact ik_Wret rfl rfl ⟨_, _, rfl, rfl, rfl, rfl, ⟨wg'_557, wc'_557, we'_557, rfl, g_557_7, g_557_10, n65, g_557_11, m_557_11, g_557_12, m_557_12, g_557_13, m_557_13, g_557_14, g_557_15, g_557_16, p_557_0, fr_557⟩⟩

theorem cp_goBack1N {h : List ik_E} {im_ : Int} {id_ : Int} {is_ : Int}  (h0 : cE h 0 (.inr (9, [.ref 1, .ref 7, .ref 14, .ref 17, .ref 45, .ref 51, .ref 54, .ref 57]))) (h57 : cE h 57 (.inl (.object "SlowerCork$Image", [.ref 58, .ref 62]))) (h62 : cE h 62 (.inr (3, [fI 0, .ref 63, .ref 64, fI im_, fJ id_, fI is_, .ref 65]))) (hl : h.length = 94) : ik_F 120 [.ref 0, fI 1] h (fun rv h' => rv = [fI (-1000000003)] ∧ hfr [] h h') := by
  refine ik_Wk 2 (pc' := 2) (loc' := [some (.ref 0), some (fI 1)]) (st' := [fI 1, .ref 0]) (h' := h) (cl' := 0) (sl' := 0) rfl ?_
  refine ik_Wc 124 2 0 [.ref 0, fI 1] [] rfl rfl rfl (by decide) rfl rfl (fw_rec hl rfl h0 rfl (by decide)) ?_
  refine ik_Wk 0 (pc' := 0) (loc' := [some (.ref 0), some (fI 1)]) (st' := []) (h' := h) (cl' := 0) (sl' := 0) rfl ?_
  refine ik_Wk 1 (pc' := 1) (loc' := [some (.ref 0), some (fI 1)]) (st' := [fI 1]) (h' := h) (cl' := 0) (sl' := 0) rfl ?_
  refine fw_if_lt rfl rfl (by omega) (by omega) (fun hc1 => absurd hc1 (by omega)) (fun hc1 => ?_)
  refine ik_Wk 2 (pc' := 6) (loc' := [some (.ref 0), some (fI 1)]) (st' := [.ref 0, fI 1]) (h' := h) (cl' := 0) (sl' := 0) rfl ?_
  refine fw_gf rfl rfl h0 rfl ?_
  refine fx_aln (L := 2) rfl h57 (rfl : [(.ref 58 : Value), (.ref 62 : Value)].length = 2) (by decide) ?_
  refine fw_ic_ge rfl rfl (by omega) (by omega) (by omega) (by omega) (fun hc2 => absurd hc2 (by omega)) (fun hc2 => ?_)
  refine ik_Wk 2 (pc' := 18) (loc' := [some (.ref 0), some (fI 1)]) (st' := [fI 1]) (h' := h) (cl' := 0) (sl' := 0) rfl ?_
  refine ik_Wret rfl rfl ⟨_, _, rfl, rfl, ?_⟩
  refine ik_Wk 0 (pc' := 5) (loc' := [some (.ref 0), some (fI 1)]) (st' := [fI 1]) (h' := h) (cl' := 0) (sl' := 0) rfl ?_
  refine fw_if_ne rfl rfl (by omega) (by omega) (fun hc3 => absurd hc3 (by omega)) (fun hc3 => ?_)
  refine ik_Wk 1 (pc' := 12) (loc' := [some (.ref 0), some (fI 1)]) (st' := [.ref 0]) (h' := h) (cl' := 0) (sl' := 0) rfl ?_
  refine fw_gf rfl rfl h0 rfl ?_
  refine ik_Wk 1 (pc' := 16) (loc' := [some (.ref 0), some (fI 1)]) (st' := [fI 1, .ref 57]) (h' := h) (cl' := 0) (sl' := 0) rfl ?_
  refine fx_aal (z := 1) rfl h57 (by decide) (by decide) rfl ?_
  refine fw_gf rfl rfl h62 rfl ?_
  refine fw_if_ne rfl rfl (by omega) (by omega) (fun hc4 => ?_) (fun hc4 => absurd hc4 (by omega))
  refine fw_ld (-1000000003) rfl rfl (by decide) ?_
  exact ik_Wret rfl rfl ⟨_, _, rfl, rfl, rfl, rfl, ⟨rfl, (hfr_refl [] h)⟩⟩

theorem rp_keep1L {h : List ik_E} {f : Nat → Int} {s : Nat} {t0 : Int} {t1 : Int} {ka : Int} {pa : Int} {fa : Int} {kb : Int} {pb : Int} {fb : Int} {xa : Int} {xb : Int} {mi : Int} {sd : Int} {ch : List Int} {im : List Int}   : ∀ (k : Nat) (i : Int) (m1 : List Int) (u : List ik_E) (u66 : cE u 66 (.inr (10, [fI (f 0), .ref 67, .ref 68, .ref 69, fI ((s : Nat) : Int), .ref 70, .ref 71, fI mi, fI sd, .ref 72, fI (f 10), fI (f 11), fI (f 12), fJ (f 13), fI (f 14), fI (f 15), fI (f 16), fI (f 17), .ref 73, .ref 74, .ref 75, .ref 76, .ref 77, .ref 78, fI (f 24), .ref 79, .ref 80, .ref 81, .ref 82, .ref 83, .ref 84, .ref 85, fJ (f 32), fJ (f 33), .ref 86, .ref 87, fI (f 36), .ref 88, .ref 89, .ref 90, .ref 91, .ref 92, .ref 93]))) (u69 : cE u 69 (.inl (.int, fA ch))) (n69 : ch.length = 48) (u70 : cE u 70 (.inl (.int, fA [ka, pa, fa, kb, pb, fb]))) (u71 : cE u 71 (.inl (.int, fA [xa, xb]))) (u92 : cE u 92 (.inl (.int, fA m1))) (n92 : m1.length = 160) (u93 : cE u 93 (.inl (.boolean, fA [t0, t1]))) (ul : u.length = 94) (F : hfr [92, 93] h u) (hi : 0 ≤ i ∧ i ≤ 48) (hc : ∀ j : Nat, (j : Int) < i → m1.getD (80 + j) 0 = ch.getD j 0) (ho : mx_out 80 160 im m1) (hk : 48 - i < (k : Int)), ik_G 209 20 [some (.ref 66), some (fI 1), some (fI 80), some (fI i)] [] u (fun rv h' => ∃ (im' : List Int), rv = [fI 1] ∧ cE h' 92 (.inl (.int, fA im')) ∧ im'.length = 160 ∧ cE h' 93 (.inl (.boolean, fA [t0, 1])) ∧ (mi_ok im' 80 ch ka pa fa kb pb fb xa xb mi s sd) ∧ (mx_out 80 160 im im') ∧ hfr [92, 93] h h') := by
  intro k
  induction k with
  | zero => intro i m1 u u66 u69 n69 u70 u71 u92 n92 u93 ul F hi hc ho hk; omega
  | succ k ih =>
    intro i m1 u u66 u69 n69 u70 u71 u92 n92 u93 ul F hi hc ho hk
    refine ik_Wk 1 (pc' := 21) (loc' := [some (.ref 66), some (fI 1), some (fI 80), some (fI i)]) (st' := [fI i]) (h' := u) (cl' := 0) (sl' := 0) rfl ?_
    refine fw_bi rfl (by decide) ?_
    refine fw_ic_ge rfl rfl (by omega) (by omega) (by omega) (by omega) (fun hc1 => ?_) (fun hc1 => ?_)
    · refine ik_Wk 3 (pc' := 49) (loc' := [some (.ref 66), some (fI 1), some (fI 80), some (fI 0)]) (st' := [fI 0]) (h' := u) (cl' := 0) (sl' := 0) rfl ?_
      refine fw_bi rfl (by decide) ?_
      refine fw_ic_ge rfl rfl (by omega) (by omega) (by omega) (by omega) (fun hc2 => absurd hc2 (by omega)) (fun hc2 => ?_)
      refine ik_Wk 1 (pc' := 55) (loc' := [some (.ref 66), some (fI 1), some (fI 80), some (fI 0)]) (st' := [.ref 66]) (h' := u) (cl' := 0) (sl' := 0) rfl ?_
      refine fw_gf rfl rfl u66 rfl ?_
      refine ik_Wk 1 (pc' := 59) (loc' := [some (.ref 66), some (fI 1), some (fI 80), some (fI 0)]) (st' := [fI 80, .ref 92]) (h' := u) (cl' := 0) (sl' := 0) rfl ?_
      refine fw_bi rfl (by decide) ?_
      refine fw_add rfl ?_
      refine ik_Wk 1 (pc' := 63) (loc' := [some (.ref 66), some (fI 1), some (fI 80), some (fI 0)]) (st' := [fI 0, fI 128, .ref 92]) (h' := u) (cl' := 0) (sl' := 0) rfl ?_
      refine fw_add rfl ?_
      refine ik_Wk 1 (pc' := 65) (loc' := [some (.ref 66), some (fI 1), some (fI 80), some (fI 0)]) (st' := [.ref 66, fI 128, .ref 92]) (h' := u) (cl' := 0) (sl' := 0) rfl ?_
      refine fw_gf rfl rfl u66 rfl ?_
      refine ik_Wk 1 (pc' := 69) (loc' := [some (.ref 66), some (fI 1), some (fI 80), some (fI 0)]) (st' := [fI 0, .ref 70, fI 128, .ref 92]) (h' := u) (cl' := 0) (sl' := 0) rfl ?_
      refine fw_ial (z := 0) rfl u70 (by decide) (Nat.le_of_ble_eq_true rfl) (by decide) ?_
      refine ik_Wk 0 (pc' := 70) (loc' := [some (.ref 66), some (fI 1), some (fI 80), some (fI 0)]) (st' := [fI ka, fI 128, .ref 92]) (h' := u) (cl' := 0) (sl' := 0) rfl ?_
      have hl3 : (m1.set (128 : Int).toNat ka).length = 160 := (List.length_set ..).trans n92
      refine fx_ias rfl u92 (by omega) (by omega) (by omega) ?_
      intro h_558 e_558 f_558 l_558
      have k_558 := l_558.trans ul
      have fr_558 := hfr_w F f_558 l_558 (by decide)
      have g_558_66 := (f_558 66 (by decide)).trans u66
      have g_558_69 := (f_558 69 (by decide)).trans u69
      have g_558_70 := (f_558 70 (by decide)).trans u70
      have g_558_71 := (f_558 71 (by decide)).trans u71
      have g_558_93 := (f_558 93 (by decide)).trans u93
      have g_558_92 : cE h_558 92 (.inl (.int, fA (m1.set (128 : Int).toNat ka))) := e_558
      refine fw_inc (a := 0) (loc' := [some (.ref 66), some (fI 1), some (fI 80), some (fI 1)]) rfl rfl (Nat.le_of_ble_eq_true rfl) rfl ?_
      refine ik_Wk 2 (pc' := 49) (loc' := [some (.ref 66), some (fI 1), some (fI 80), some (fI 1)]) (st' := [fI 1]) (h' := h_558) (cl' := 0) (sl' := 0) rfl ?_
      refine fw_bi rfl (by decide) ?_
      refine fw_ic_ge rfl rfl (by omega) (by omega) (by omega) (by omega) (fun hc4 => absurd hc4 (by omega)) (fun hc4 => ?_)
      refine ik_Wk 1 (pc' := 55) (loc' := [some (.ref 66), some (fI 1), some (fI 80), some (fI 1)]) (st' := [.ref 66]) (h' := h_558) (cl' := 0) (sl' := 0) rfl ?_
      refine fw_gf rfl rfl g_558_66 rfl ?_
      refine ik_Wk 1 (pc' := 59) (loc' := [some (.ref 66), some (fI 1), some (fI 80), some (fI 1)]) (st' := [fI 80, .ref 92]) (h' := h_558) (cl' := 0) (sl' := 0) rfl ?_
      refine fw_bi rfl (by decide) ?_
      refine fw_add rfl ?_
      refine ik_Wk 1 (pc' := 63) (loc' := [some (.ref 66), some (fI 1), some (fI 80), some (fI 1)]) (st' := [fI 1, fI 128, .ref 92]) (h' := h_558) (cl' := 0) (sl' := 0) rfl ?_
      refine fw_add rfl ?_
      refine ik_Wk 1 (pc' := 65) (loc' := [some (.ref 66), some (fI 1), some (fI 80), some (fI 1)]) (st' := [.ref 66, fI 129, .ref 92]) (h' := h_558) (cl' := 0) (sl' := 0) rfl ?_
      refine fw_gf rfl rfl g_558_66 rfl ?_
      refine ik_Wk 1 (pc' := 69) (loc' := [some (.ref 66), some (fI 1), some (fI 80), some (fI 1)]) (st' := [fI 1, .ref 70, fI 129, .ref 92]) (h' := h_558) (cl' := 0) (sl' := 0) rfl ?_
      refine fw_ial (z := 1) rfl g_558_70 (by decide) (Nat.le_of_ble_eq_true rfl) (by decide) ?_
      refine ik_Wk 0 (pc' := 70) (loc' := [some (.ref 66), some (fI 1), some (fI 80), some (fI 1)]) (st' := [fI pa, fI 129, .ref 92]) (h' := h_558) (cl' := 0) (sl' := 0) rfl ?_
      have hl5 : ((m1.set (128 : Int).toNat ka).set (129 : Int).toNat pa).length = 160 := (List.length_set ..).trans hl3
      refine fx_ias rfl g_558_92 (by omega) (by omega) (by omega) ?_
      intro h_559 e_559 f_559 l_559
      have k_559 := l_559.trans k_558
      have fr_559 := hfr_w fr_558 f_559 l_559 (by decide)
      have g_559_66 := (f_559 66 (by decide)).trans g_558_66
      have g_559_69 := (f_559 69 (by decide)).trans g_558_69
      have g_559_70 := (f_559 70 (by decide)).trans g_558_70
      have g_559_71 := (f_559 71 (by decide)).trans g_558_71
      have g_559_93 := (f_559 93 (by decide)).trans g_558_93
      have g_559_92 : cE h_559 92 (.inl (.int, fA ((m1.set (128 : Int).toNat ka).set (129 : Int).toNat pa))) := e_559
      refine fw_inc (a := 1) (loc' := [some (.ref 66), some (fI 1), some (fI 80), some (fI 2)]) rfl rfl (Nat.le_of_ble_eq_true rfl) rfl ?_
      refine ik_Wk 2 (pc' := 49) (loc' := [some (.ref 66), some (fI 1), some (fI 80), some (fI 2)]) (st' := [fI 2]) (h' := h_559) (cl' := 0) (sl' := 0) rfl ?_
      refine fw_bi rfl (by decide) ?_
      refine fw_ic_ge rfl rfl (by omega) (by omega) (by omega) (by omega) (fun hc6 => absurd hc6 (by omega)) (fun hc6 => ?_)
      refine ik_Wk 1 (pc' := 55) (loc' := [some (.ref 66), some (fI 1), some (fI 80), some (fI 2)]) (st' := [.ref 66]) (h' := h_559) (cl' := 0) (sl' := 0) rfl ?_
      refine fw_gf rfl rfl g_559_66 rfl ?_
      refine ik_Wk 1 (pc' := 59) (loc' := [some (.ref 66), some (fI 1), some (fI 80), some (fI 2)]) (st' := [fI 80, .ref 92]) (h' := h_559) (cl' := 0) (sl' := 0) rfl ?_
      refine fw_bi rfl (by decide) ?_
      refine fw_add rfl ?_
      refine ik_Wk 1 (pc' := 63) (loc' := [some (.ref 66), some (fI 1), some (fI 80), some (fI 2)]) (st' := [fI 2, fI 128, .ref 92]) (h' := h_559) (cl' := 0) (sl' := 0) rfl ?_
      refine fw_add rfl ?_
      refine ik_Wk 1 (pc' := 65) (loc' := [some (.ref 66), some (fI 1), some (fI 80), some (fI 2)]) (st' := [.ref 66, fI 130, .ref 92]) (h' := h_559) (cl' := 0) (sl' := 0) rfl ?_
      refine fw_gf rfl rfl g_559_66 rfl ?_
      refine ik_Wk 1 (pc' := 69) (loc' := [some (.ref 66), some (fI 1), some (fI 80), some (fI 2)]) (st' := [fI 2, .ref 70, fI 130, .ref 92]) (h' := h_559) (cl' := 0) (sl' := 0) rfl ?_
      refine fw_ial (z := 2) rfl g_559_70 (by decide) (Nat.le_of_ble_eq_true rfl) (by decide) ?_
      refine ik_Wk 0 (pc' := 70) (loc' := [some (.ref 66), some (fI 1), some (fI 80), some (fI 2)]) (st' := [fI fa, fI 130, .ref 92]) (h' := h_559) (cl' := 0) (sl' := 0) rfl ?_
      have hl7 : (((m1.set (128 : Int).toNat ka).set (129 : Int).toNat pa).set (130 : Int).toNat fa).length = 160 := (List.length_set ..).trans hl5
      refine fx_ias rfl g_559_92 (by omega) (by omega) (by omega) ?_
      intro h_560 e_560 f_560 l_560
      have k_560 := l_560.trans k_559
      have fr_560 := hfr_w fr_559 f_560 l_560 (by decide)
      have g_560_66 := (f_560 66 (by decide)).trans g_559_66
      have g_560_69 := (f_560 69 (by decide)).trans g_559_69
      have g_560_70 := (f_560 70 (by decide)).trans g_559_70
      have g_560_71 := (f_560 71 (by decide)).trans g_559_71
      have g_560_93 := (f_560 93 (by decide)).trans g_559_93
      have g_560_92 : cE h_560 92 (.inl (.int, fA (((m1.set (128 : Int).toNat ka).set (129 : Int).toNat pa).set (130 : Int).toNat fa))) := e_560
      refine fw_inc (a := 2) (loc' := [some (.ref 66), some (fI 1), some (fI 80), some (fI 3)]) rfl rfl (Nat.le_of_ble_eq_true rfl) rfl ?_
      refine ik_Wk 2 (pc' := 49) (loc' := [some (.ref 66), some (fI 1), some (fI 80), some (fI 3)]) (st' := [fI 3]) (h' := h_560) (cl' := 0) (sl' := 0) rfl ?_
      refine fw_bi rfl (by decide) ?_
      refine fw_ic_ge rfl rfl (by omega) (by omega) (by omega) (by omega) (fun hc8 => absurd hc8 (by omega)) (fun hc8 => ?_)
      refine ik_Wk 1 (pc' := 55) (loc' := [some (.ref 66), some (fI 1), some (fI 80), some (fI 3)]) (st' := [.ref 66]) (h' := h_560) (cl' := 0) (sl' := 0) rfl ?_
      refine fw_gf rfl rfl g_560_66 rfl ?_
      refine ik_Wk 1 (pc' := 59) (loc' := [some (.ref 66), some (fI 1), some (fI 80), some (fI 3)]) (st' := [fI 80, .ref 92]) (h' := h_560) (cl' := 0) (sl' := 0) rfl ?_
      refine fw_bi rfl (by decide) ?_
      refine fw_add rfl ?_
      refine ik_Wk 1 (pc' := 63) (loc' := [some (.ref 66), some (fI 1), some (fI 80), some (fI 3)]) (st' := [fI 3, fI 128, .ref 92]) (h' := h_560) (cl' := 0) (sl' := 0) rfl ?_
      refine fw_add rfl ?_
      refine ik_Wk 1 (pc' := 65) (loc' := [some (.ref 66), some (fI 1), some (fI 80), some (fI 3)]) (st' := [.ref 66, fI 131, .ref 92]) (h' := h_560) (cl' := 0) (sl' := 0) rfl ?_
      refine fw_gf rfl rfl g_560_66 rfl ?_
      refine ik_Wk 1 (pc' := 69) (loc' := [some (.ref 66), some (fI 1), some (fI 80), some (fI 3)]) (st' := [fI 3, .ref 70, fI 131, .ref 92]) (h' := h_560) (cl' := 0) (sl' := 0) rfl ?_
      refine fw_ial (z := 3) rfl g_560_70 (by decide) (Nat.le_of_ble_eq_true rfl) (by decide) ?_
      refine ik_Wk 0 (pc' := 70) (loc' := [some (.ref 66), some (fI 1), some (fI 80), some (fI 3)]) (st' := [fI kb, fI 131, .ref 92]) (h' := h_560) (cl' := 0) (sl' := 0) rfl ?_
      have hl9 : ((((m1.set (128 : Int).toNat ka).set (129 : Int).toNat pa).set (130 : Int).toNat fa).set (131 : Int).toNat kb).length = 160 := (List.length_set ..).trans hl7
      refine fx_ias rfl g_560_92 (by omega) (by omega) (by omega) ?_
      intro h_561 e_561 f_561 l_561
      have k_561 := l_561.trans k_560
      have fr_561 := hfr_w fr_560 f_561 l_561 (by decide)
      have g_561_66 := (f_561 66 (by decide)).trans g_560_66
      have g_561_69 := (f_561 69 (by decide)).trans g_560_69
      have g_561_70 := (f_561 70 (by decide)).trans g_560_70
      have g_561_71 := (f_561 71 (by decide)).trans g_560_71
      have g_561_93 := (f_561 93 (by decide)).trans g_560_93
      have g_561_92 : cE h_561 92 (.inl (.int, fA ((((m1.set (128 : Int).toNat ka).set (129 : Int).toNat pa).set (130 : Int).toNat fa).set (131 : Int).toNat kb))) := e_561
      refine fw_inc (a := 3) (loc' := [some (.ref 66), some (fI 1), some (fI 80), some (fI 4)]) rfl rfl (Nat.le_of_ble_eq_true rfl) rfl ?_
      refine ik_Wk 2 (pc' := 49) (loc' := [some (.ref 66), some (fI 1), some (fI 80), some (fI 4)]) (st' := [fI 4]) (h' := h_561) (cl' := 0) (sl' := 0) rfl ?_
      refine fw_bi rfl (by decide) ?_
      refine fw_ic_ge rfl rfl (by omega) (by omega) (by omega) (by omega) (fun hc10 => absurd hc10 (by omega)) (fun hc10 => ?_)
      refine ik_Wk 1 (pc' := 55) (loc' := [some (.ref 66), some (fI 1), some (fI 80), some (fI 4)]) (st' := [.ref 66]) (h' := h_561) (cl' := 0) (sl' := 0) rfl ?_
      refine fw_gf rfl rfl g_561_66 rfl ?_
      refine ik_Wk 1 (pc' := 59) (loc' := [some (.ref 66), some (fI 1), some (fI 80), some (fI 4)]) (st' := [fI 80, .ref 92]) (h' := h_561) (cl' := 0) (sl' := 0) rfl ?_
      refine fw_bi rfl (by decide) ?_
      refine fw_add rfl ?_
      refine ik_Wk 1 (pc' := 63) (loc' := [some (.ref 66), some (fI 1), some (fI 80), some (fI 4)]) (st' := [fI 4, fI 128, .ref 92]) (h' := h_561) (cl' := 0) (sl' := 0) rfl ?_
      refine fw_add rfl ?_
      refine ik_Wk 1 (pc' := 65) (loc' := [some (.ref 66), some (fI 1), some (fI 80), some (fI 4)]) (st' := [.ref 66, fI 132, .ref 92]) (h' := h_561) (cl' := 0) (sl' := 0) rfl ?_
      refine fw_gf rfl rfl g_561_66 rfl ?_
      refine ik_Wk 1 (pc' := 69) (loc' := [some (.ref 66), some (fI 1), some (fI 80), some (fI 4)]) (st' := [fI 4, .ref 70, fI 132, .ref 92]) (h' := h_561) (cl' := 0) (sl' := 0) rfl ?_
      refine fw_ial (z := 4) rfl g_561_70 (by decide) (Nat.le_of_ble_eq_true rfl) (by decide) ?_
      refine ik_Wk 0 (pc' := 70) (loc' := [some (.ref 66), some (fI 1), some (fI 80), some (fI 4)]) (st' := [fI pb, fI 132, .ref 92]) (h' := h_561) (cl' := 0) (sl' := 0) rfl ?_
      have hl11 : (((((m1.set (128 : Int).toNat ka).set (129 : Int).toNat pa).set (130 : Int).toNat fa).set (131 : Int).toNat kb).set (132 : Int).toNat pb).length = 160 := (List.length_set ..).trans hl9
      refine fx_ias rfl g_561_92 (by omega) (by omega) (by omega) ?_
      intro h_562 e_562 f_562 l_562
      have k_562 := l_562.trans k_561
      have fr_562 := hfr_w fr_561 f_562 l_562 (by decide)
      have g_562_66 := (f_562 66 (by decide)).trans g_561_66
      have g_562_69 := (f_562 69 (by decide)).trans g_561_69
      have g_562_70 := (f_562 70 (by decide)).trans g_561_70
      have g_562_71 := (f_562 71 (by decide)).trans g_561_71
      have g_562_93 := (f_562 93 (by decide)).trans g_561_93
      have g_562_92 : cE h_562 92 (.inl (.int, fA (((((m1.set (128 : Int).toNat ka).set (129 : Int).toNat pa).set (130 : Int).toNat fa).set (131 : Int).toNat kb).set (132 : Int).toNat pb))) := e_562
      refine fw_inc (a := 4) (loc' := [some (.ref 66), some (fI 1), some (fI 80), some (fI 5)]) rfl rfl (Nat.le_of_ble_eq_true rfl) rfl ?_
      refine ik_Wk 2 (pc' := 49) (loc' := [some (.ref 66), some (fI 1), some (fI 80), some (fI 5)]) (st' := [fI 5]) (h' := h_562) (cl' := 0) (sl' := 0) rfl ?_
      refine fw_bi rfl (by decide) ?_
      refine fw_ic_ge rfl rfl (by omega) (by omega) (by omega) (by omega) (fun hc12 => absurd hc12 (by omega)) (fun hc12 => ?_)
      refine ik_Wk 1 (pc' := 55) (loc' := [some (.ref 66), some (fI 1), some (fI 80), some (fI 5)]) (st' := [.ref 66]) (h' := h_562) (cl' := 0) (sl' := 0) rfl ?_
      refine fw_gf rfl rfl g_562_66 rfl ?_
      refine ik_Wk 1 (pc' := 59) (loc' := [some (.ref 66), some (fI 1), some (fI 80), some (fI 5)]) (st' := [fI 80, .ref 92]) (h' := h_562) (cl' := 0) (sl' := 0) rfl ?_
      refine fw_bi rfl (by decide) ?_
      refine fw_add rfl ?_
      refine ik_Wk 1 (pc' := 63) (loc' := [some (.ref 66), some (fI 1), some (fI 80), some (fI 5)]) (st' := [fI 5, fI 128, .ref 92]) (h' := h_562) (cl' := 0) (sl' := 0) rfl ?_
      refine fw_add rfl ?_
      refine ik_Wk 1 (pc' := 65) (loc' := [some (.ref 66), some (fI 1), some (fI 80), some (fI 5)]) (st' := [.ref 66, fI 133, .ref 92]) (h' := h_562) (cl' := 0) (sl' := 0) rfl ?_
      refine fw_gf rfl rfl g_562_66 rfl ?_
      refine ik_Wk 1 (pc' := 69) (loc' := [some (.ref 66), some (fI 1), some (fI 80), some (fI 5)]) (st' := [fI 5, .ref 70, fI 133, .ref 92]) (h' := h_562) (cl' := 0) (sl' := 0) rfl ?_
      refine fw_ial (z := 5) rfl g_562_70 (by decide) (Nat.le_of_ble_eq_true rfl) (by decide) ?_
      refine ik_Wk 0 (pc' := 70) (loc' := [some (.ref 66), some (fI 1), some (fI 80), some (fI 5)]) (st' := [fI fb, fI 133, .ref 92]) (h' := h_562) (cl' := 0) (sl' := 0) rfl ?_
      have hl13 : ((((((m1.set (128 : Int).toNat ka).set (129 : Int).toNat pa).set (130 : Int).toNat fa).set (131 : Int).toNat kb).set (132 : Int).toNat pb).set (133 : Int).toNat fb).length = 160 := (List.length_set ..).trans hl11
      refine fx_ias rfl g_562_92 (by omega) (by omega) (by omega) ?_
      intro h_563 e_563 f_563 l_563
      have k_563 := l_563.trans k_562
      have fr_563 := hfr_w fr_562 f_563 l_563 (by decide)
      have g_563_66 := (f_563 66 (by decide)).trans g_562_66
      have g_563_69 := (f_563 69 (by decide)).trans g_562_69
      have g_563_70 := (f_563 70 (by decide)).trans g_562_70
      have g_563_71 := (f_563 71 (by decide)).trans g_562_71
      have g_563_93 := (f_563 93 (by decide)).trans g_562_93
      have g_563_92 : cE h_563 92 (.inl (.int, fA ((((((m1.set (128 : Int).toNat ka).set (129 : Int).toNat pa).set (130 : Int).toNat fa).set (131 : Int).toNat kb).set (132 : Int).toNat pb).set (133 : Int).toNat fb))) := e_563
      refine fw_inc (a := 5) (loc' := [some (.ref 66), some (fI 1), some (fI 80), some (fI 6)]) rfl rfl (Nat.le_of_ble_eq_true rfl) rfl ?_
      refine ik_Wk 2 (pc' := 49) (loc' := [some (.ref 66), some (fI 1), some (fI 80), some (fI 6)]) (st' := [fI 6]) (h' := h_563) (cl' := 0) (sl' := 0) rfl ?_
      refine fw_bi rfl (by decide) ?_
      refine fw_ic_ge rfl rfl (by omega) (by omega) (by omega) (by omega) (fun hc14 => ?_) (fun hc14 => absurd hc14 (by omega))
      refine ik_Wk 1 (pc' := 78) (loc' := [some (.ref 66), some (fI 1), some (fI 80), some (fI 6)]) (st' := [.ref 66]) (h' := h_563) (cl' := 0) (sl' := 0) rfl ?_
      refine fw_gf rfl rfl g_563_66 rfl ?_
      refine ik_Wk 1 (pc' := 82) (loc' := [some (.ref 66), some (fI 1), some (fI 80), some (fI 6)]) (st' := [fI 80, .ref 92]) (h' := h_563) (cl' := 0) (sl' := 0) rfl ?_
      refine fw_bi rfl (by decide) ?_
      refine fw_add rfl ?_
      refine ik_Wk 1 (pc' := 86) (loc' := [some (.ref 66), some (fI 1), some (fI 80), some (fI 6)]) (st' := [.ref 66, fI 134, .ref 92]) (h' := h_563) (cl' := 0) (sl' := 0) rfl ?_
      refine fw_gf rfl rfl g_563_66 rfl ?_
      refine ik_Wk 1 (pc' := 90) (loc' := [some (.ref 66), some (fI 1), some (fI 80), some (fI 6)]) (st' := [fI 0, .ref 71, fI 134, .ref 92]) (h' := h_563) (cl' := 0) (sl' := 0) rfl ?_
      refine fw_ial (z := 0) rfl g_563_71 (by decide) (Nat.le_of_ble_eq_true rfl) (by decide) ?_
      refine ik_Wk 0 (pc' := 91) (loc' := [some (.ref 66), some (fI 1), some (fI 80), some (fI 6)]) (st' := [fI xa, fI 134, .ref 92]) (h' := h_563) (cl' := 0) (sl' := 0) rfl ?_
      have hl15 : (((((((m1.set (128 : Int).toNat ka).set (129 : Int).toNat pa).set (130 : Int).toNat fa).set (131 : Int).toNat kb).set (132 : Int).toNat pb).set (133 : Int).toNat fb).set (134 : Int).toNat xa).length = 160 := (List.length_set ..).trans hl13
      refine fx_ias rfl g_563_92 (by omega) (by omega) (by omega) ?_
      intro h_564 e_564 f_564 l_564
      have k_564 := l_564.trans k_563
      have fr_564 := hfr_w fr_563 f_564 l_564 (by decide)
      have g_564_66 := (f_564 66 (by decide)).trans g_563_66
      have g_564_69 := (f_564 69 (by decide)).trans g_563_69
      have g_564_70 := (f_564 70 (by decide)).trans g_563_70
      have g_564_71 := (f_564 71 (by decide)).trans g_563_71
      have g_564_93 := (f_564 93 (by decide)).trans g_563_93
      have g_564_92 : cE h_564 92 (.inl (.int, fA (((((((m1.set (128 : Int).toNat ka).set (129 : Int).toNat pa).set (130 : Int).toNat fa).set (131 : Int).toNat kb).set (132 : Int).toNat pb).set (133 : Int).toNat fb).set (134 : Int).toNat xa))) := e_564
      refine ik_Wk 1 (pc' := 93) (loc' := [some (.ref 66), some (fI 1), some (fI 80), some (fI 6)]) (st' := [.ref 66]) (h' := h_564) (cl' := 0) (sl' := 0) rfl ?_
      refine fw_gf rfl rfl g_564_66 rfl ?_
      refine ik_Wk 1 (pc' := 97) (loc' := [some (.ref 66), some (fI 1), some (fI 80), some (fI 6)]) (st' := [fI 80, .ref 92]) (h' := h_564) (cl' := 0) (sl' := 0) rfl ?_
      refine fw_bi rfl (by decide) ?_
      refine fw_add rfl ?_
      refine ik_Wk 1 (pc' := 101) (loc' := [some (.ref 66), some (fI 1), some (fI 80), some (fI 6)]) (st' := [.ref 66, fI 135, .ref 92]) (h' := h_564) (cl' := 0) (sl' := 0) rfl ?_
      refine fw_gf rfl rfl g_564_66 rfl ?_
      refine ik_Wk 1 (pc' := 105) (loc' := [some (.ref 66), some (fI 1), some (fI 80), some (fI 6)]) (st' := [fI 1, .ref 71, fI 135, .ref 92]) (h' := h_564) (cl' := 0) (sl' := 0) rfl ?_
      refine fw_ial (z := 1) rfl g_564_71 (by decide) (Nat.le_of_ble_eq_true rfl) (by decide) ?_
      refine ik_Wk 0 (pc' := 106) (loc' := [some (.ref 66), some (fI 1), some (fI 80), some (fI 6)]) (st' := [fI xb, fI 135, .ref 92]) (h' := h_564) (cl' := 0) (sl' := 0) rfl ?_
      have hl16 : ((((((((m1.set (128 : Int).toNat ka).set (129 : Int).toNat pa).set (130 : Int).toNat fa).set (131 : Int).toNat kb).set (132 : Int).toNat pb).set (133 : Int).toNat fb).set (134 : Int).toNat xa).set (135 : Int).toNat xb).length = 160 := (List.length_set ..).trans hl15
      refine fx_ias rfl g_564_92 (by omega) (by omega) (by omega) ?_
      intro h_565 e_565 f_565 l_565
      have k_565 := l_565.trans k_564
      have fr_565 := hfr_w fr_564 f_565 l_565 (by decide)
      have g_565_66 := (f_565 66 (by decide)).trans g_564_66
      have g_565_69 := (f_565 69 (by decide)).trans g_564_69
      have g_565_70 := (f_565 70 (by decide)).trans g_564_70
      have g_565_71 := (f_565 71 (by decide)).trans g_564_71
      have g_565_93 := (f_565 93 (by decide)).trans g_564_93
      have g_565_92 : cE h_565 92 (.inl (.int, fA ((((((((m1.set (128 : Int).toNat ka).set (129 : Int).toNat pa).set (130 : Int).toNat fa).set (131 : Int).toNat kb).set (132 : Int).toNat pb).set (133 : Int).toNat fb).set (134 : Int).toNat xa).set (135 : Int).toNat xb))) := e_565
      refine ik_Wk 1 (pc' := 108) (loc' := [some (.ref 66), some (fI 1), some (fI 80), some (fI 6)]) (st' := [.ref 66]) (h' := h_565) (cl' := 0) (sl' := 0) rfl ?_
      refine fw_gf rfl rfl g_565_66 rfl ?_
      refine ik_Wk 1 (pc' := 112) (loc' := [some (.ref 66), some (fI 1), some (fI 80), some (fI 6)]) (st' := [fI 80, .ref 92]) (h' := h_565) (cl' := 0) (sl' := 0) rfl ?_
      refine fw_bi rfl (by decide) ?_
      refine fw_add rfl ?_
      refine ik_Wk 1 (pc' := 116) (loc' := [some (.ref 66), some (fI 1), some (fI 80), some (fI 6)]) (st' := [.ref 66, fI 136, .ref 92]) (h' := h_565) (cl' := 0) (sl' := 0) rfl ?_
      refine fw_gf rfl rfl g_565_66 rfl ?_
      have hl17 : (((((((((m1.set (128 : Int).toNat ka).set (129 : Int).toNat pa).set (130 : Int).toNat fa).set (131 : Int).toNat kb).set (132 : Int).toNat pb).set (133 : Int).toNat fb).set (134 : Int).toNat xa).set (135 : Int).toNat xb).set (136 : Int).toNat mi).length = 160 := (List.length_set ..).trans hl16
      refine fx_ias rfl g_565_92 (by omega) (by omega) (by omega) ?_
      intro h_566 e_566 f_566 l_566
      have k_566 := l_566.trans k_565
      have fr_566 := hfr_w fr_565 f_566 l_566 (by decide)
      have g_566_66 := (f_566 66 (by decide)).trans g_565_66
      have g_566_69 := (f_566 69 (by decide)).trans g_565_69
      have g_566_70 := (f_566 70 (by decide)).trans g_565_70
      have g_566_71 := (f_566 71 (by decide)).trans g_565_71
      have g_566_93 := (f_566 93 (by decide)).trans g_565_93
      have g_566_92 : cE h_566 92 (.inl (.int, fA (((((((((m1.set (128 : Int).toNat ka).set (129 : Int).toNat pa).set (130 : Int).toNat fa).set (131 : Int).toNat kb).set (132 : Int).toNat pb).set (133 : Int).toNat fb).set (134 : Int).toNat xa).set (135 : Int).toNat xb).set (136 : Int).toNat mi))) := e_566
      refine ik_Wk 1 (pc' := 121) (loc' := [some (.ref 66), some (fI 1), some (fI 80), some (fI 6)]) (st' := [.ref 66]) (h' := h_566) (cl' := 0) (sl' := 0) rfl ?_
      refine fw_gf rfl rfl g_566_66 rfl ?_
      refine ik_Wk 1 (pc' := 125) (loc' := [some (.ref 66), some (fI 1), some (fI 80), some (fI 6)]) (st' := [fI 80, .ref 92]) (h' := h_566) (cl' := 0) (sl' := 0) rfl ?_
      refine fw_bi rfl (by decide) ?_
      refine fw_add rfl ?_
      refine ik_Wk 1 (pc' := 129) (loc' := [some (.ref 66), some (fI 1), some (fI 80), some (fI 6)]) (st' := [.ref 66, fI 137, .ref 92]) (h' := h_566) (cl' := 0) (sl' := 0) rfl ?_
      refine fw_gf rfl rfl g_566_66 rfl ?_
      have hl18 : ((((((((((m1.set (128 : Int).toNat ka).set (129 : Int).toNat pa).set (130 : Int).toNat fa).set (131 : Int).toNat kb).set (132 : Int).toNat pb).set (133 : Int).toNat fb).set (134 : Int).toNat xa).set (135 : Int).toNat xb).set (136 : Int).toNat mi).set (137 : Int).toNat ((s : Nat) : Int)).length = 160 := (List.length_set ..).trans hl17
      refine fx_ias rfl g_566_92 (by omega) (by omega) (by omega) ?_
      intro h_567 e_567 f_567 l_567
      have k_567 := l_567.trans k_566
      have fr_567 := hfr_w fr_566 f_567 l_567 (by decide)
      have g_567_66 := (f_567 66 (by decide)).trans g_566_66
      have g_567_69 := (f_567 69 (by decide)).trans g_566_69
      have g_567_70 := (f_567 70 (by decide)).trans g_566_70
      have g_567_71 := (f_567 71 (by decide)).trans g_566_71
      have g_567_93 := (f_567 93 (by decide)).trans g_566_93
      have g_567_92 : cE h_567 92 (.inl (.int, fA ((((((((((m1.set (128 : Int).toNat ka).set (129 : Int).toNat pa).set (130 : Int).toNat fa).set (131 : Int).toNat kb).set (132 : Int).toNat pb).set (133 : Int).toNat fb).set (134 : Int).toNat xa).set (135 : Int).toNat xb).set (136 : Int).toNat mi).set (137 : Int).toNat ((s : Nat) : Int)))) := e_567
      refine ik_Wk 1 (pc' := 134) (loc' := [some (.ref 66), some (fI 1), some (fI 80), some (fI 6)]) (st' := [.ref 66]) (h' := h_567) (cl' := 0) (sl' := 0) rfl ?_
      refine fw_gf rfl rfl g_567_66 rfl ?_
      refine ik_Wk 1 (pc' := 138) (loc' := [some (.ref 66), some (fI 1), some (fI 80), some (fI 6)]) (st' := [fI 80, .ref 92]) (h' := h_567) (cl' := 0) (sl' := 0) rfl ?_
      refine fw_bi rfl (by decide) ?_
      refine fw_add rfl ?_
      refine ik_Wk 1 (pc' := 142) (loc' := [some (.ref 66), some (fI 1), some (fI 80), some (fI 6)]) (st' := [.ref 66, fI 138, .ref 92]) (h' := h_567) (cl' := 0) (sl' := 0) rfl ?_
      refine fw_gf rfl rfl g_567_66 rfl ?_
      have hl19 : (((((((((((m1.set (128 : Int).toNat ka).set (129 : Int).toNat pa).set (130 : Int).toNat fa).set (131 : Int).toNat kb).set (132 : Int).toNat pb).set (133 : Int).toNat fb).set (134 : Int).toNat xa).set (135 : Int).toNat xb).set (136 : Int).toNat mi).set (137 : Int).toNat ((s : Nat) : Int)).set (138 : Int).toNat sd).length = 160 := (List.length_set ..).trans hl18
      refine fx_ias rfl g_567_92 (by omega) (by omega) (by omega) ?_
      intro h_568 e_568 f_568 l_568
      have k_568 := l_568.trans k_567
      have fr_568 := hfr_w fr_567 f_568 l_568 (by decide)
      have g_568_66 := (f_568 66 (by decide)).trans g_567_66
      have g_568_69 := (f_568 69 (by decide)).trans g_567_69
      have g_568_70 := (f_568 70 (by decide)).trans g_567_70
      have g_568_71 := (f_568 71 (by decide)).trans g_567_71
      have g_568_93 := (f_568 93 (by decide)).trans g_567_93
      have g_568_92 : cE h_568 92 (.inl (.int, fA (((((((((((m1.set (128 : Int).toNat ka).set (129 : Int).toNat pa).set (130 : Int).toNat fa).set (131 : Int).toNat kb).set (132 : Int).toNat pb).set (133 : Int).toNat fb).set (134 : Int).toNat xa).set (135 : Int).toNat xb).set (136 : Int).toNat mi).set (137 : Int).toNat ((s : Nat) : Int)).set (138 : Int).toNat sd))) := e_568
      refine ik_Wk 1 (pc' := 147) (loc' := [some (.ref 66), some (fI 1), some (fI 80), some (fI 6)]) (st' := [.ref 66]) (h' := h_568) (cl' := 0) (sl' := 0) rfl ?_
      refine fw_gf rfl rfl g_568_66 rfl ?_
      refine ik_Wk 2 (pc' := 152) (loc' := [some (.ref 66), some (fI 1), some (fI 80), some (fI 6)]) (st' := [fI 1, fI 1, .ref 93]) (h' := h_568) (cl' := 0) (sl' := 0) rfl ?_
      refine fx_bsb (z := 1) (v := 1) rfl g_568_93 (by decide) (Nat.le_of_ble_eq_true rfl) (by decide) (by decide) ?_
      intro h_569 e_569 f_569 l_569
      have k_569 := l_569.trans k_568
      have fr_569 := hfr_w fr_568 f_569 l_569 (by decide)
      have g_569_66 := (f_569 66 (by decide)).trans g_568_66
      have g_569_69 := (f_569 69 (by decide)).trans g_568_69
      have g_569_70 := (f_569 70 (by decide)).trans g_568_70
      have g_569_71 := (f_569 71 (by decide)).trans g_568_71
      have g_569_92 := (f_569 92 (by decide)).trans g_568_92
      have g_569_93 : cE h_569 93 (.inl (.boolean, fA [t0, 1])) := e_569
      refine ik_Wk 1 (pc' := 154) (loc' := [some (.ref 66), some (fI 1), some (fI 80), some (fI 6)]) (st' := [fI 1]) (h' := h_569) (cl' := 0) (sl' := 0) rfl ?_
      have ew : ((((((((((m1.set (128 : Int).toNat ka).set (129 : Int).toNat pa).set (130 : Int).toNat fa).set (131 : Int).toNat kb).set (132 : Int).toNat pb).set (133 : Int).toNat fb).set (134 : Int).toNat xa).set (135 : Int).toNat xb).set (136 : Int).toNat mi).set (137 : Int).toNat ((s : Nat) : Int)).set (138 : Int).toNat sd = mi_w m1 128 [ka, pa, fa, kb, pb, fb, xa, xb, mi, ((s : Nat) : Int), sd] := rfl
      have gw := mi_w_get [ka, pa, fa, kb, pb, fb, xa, xb, mi, ((s : Nat) : Int), sd] m1 128
      exact ik_Wret rfl rfl ⟨_, _, rfl, rfl, rfl, rfl, ⟨(((((((((((m1.set (128 : Int).toNat ka).set (129 : Int).toNat pa).set (130 : Int).toNat fa).set (131 : Int).toNat kb).set (132 : Int).toNat pb).set (133 : Int).toNat fb).set (134 : Int).toNat xa).set (135 : Int).toNat xb).set (136 : Int).toNat mi).set (137 : Int).toNat ((s : Nat) : Int)).set (138 : Int).toNat sd), rfl, g_569_92, hl19, g_569_93, (by rw [ew]; exact ⟨fun j hj => by rw [gw _ (by simp only [List.length_cons, List.length_nil]; omega), if_neg (by omega)]; exact hc j (by omega), fun j hj => by rw [gw _ (by simp only [List.length_cons, List.length_nil]; omega), if_pos (by simp only [List.length_cons, List.length_nil]; omega), show 80 + 48 + j - 128 = j by omega]⟩), (by rw [ew]; intro j hj; rw [gw _ (by simp only [List.length_cons, List.length_nil]; omega), if_neg (by simp only [List.length_cons, List.length_nil]; omega)]; exact ho j hj), fr_569⟩⟩
    · refine ik_Wk 1 (pc' := 27) (loc' := [some (.ref 66), some (fI 1), some (fI 80), some (fI i)]) (st' := [.ref 66]) (h' := u) (cl' := 0) (sl' := 0) rfl ?_
      refine fw_gf rfl rfl u66 rfl ?_
      refine ik_Wk 2 (pc' := 32) (loc' := [some (.ref 66), some (fI 1), some (fI 80), some (fI i)]) (st' := [fI i, fI 80, .ref 92]) (h' := u) (cl' := 0) (sl' := 0) rfl ?_
      refine fw_add rfl ?_
      refine ik_Wk 1 (pc' := 34) (loc' := [some (.ref 66), some (fI 1), some (fI 80), some (fI i)]) (st' := [.ref 66, fI (80 + i), .ref 92]) (h' := u) (cl' := 0) (sl' := 0) rfl ?_
      refine fw_gf rfl rfl u66 rfl ?_
      refine ik_Wk 1 (pc' := 38) (loc' := [some (.ref 66), some (fI 1), some (fI 80), some (fI i)]) (st' := [fI i, .ref 69, fI (80 + i), .ref 92]) (h' := u) (cl' := 0) (sl' := 0) rfl ?_
      refine fw_ial rfl u69 (by omega) (by omega) (by omega) ?_
      have hl20 : (m1.set (80 + i).toNat (ch.getD i.toNat 0)).length = 160 := (List.length_set ..).trans n92
      refine fx_ias rfl u92 (by omega) (by omega) (by omega) ?_
      intro h_570 e_570 f_570 l_570
      have k_570 := l_570.trans ul
      have fr_570 := hfr_w F f_570 l_570 (by decide)
      have g_570_66 := (f_570 66 (by decide)).trans u66
      have g_570_69 := (f_570 69 (by decide)).trans u69
      have g_570_70 := (f_570 70 (by decide)).trans u70
      have g_570_71 := (f_570 71 (by decide)).trans u71
      have g_570_93 := (f_570 93 (by decide)).trans u93
      have g_570_92 : cE h_570 92 (.inl (.int, fA (m1.set (80 + i).toNat (ch.getD i.toNat 0)))) := e_570
      refine fw_inc (a := i) (loc' := [some (.ref 66), some (fI 1), some (fI 80), some (fI (i + 1))]) rfl rfl (Nat.le_of_ble_eq_true rfl) rfl ?_
      refine ik_Wk 1 (pc' := 20) (loc' := [some (.ref 66), some (fI 1), some (fI 80), some (fI (i + 1))]) (st' := []) (h' := h_570) (cl' := 0) (sl' := 0) rfl ?_
      have hc2 : ∀ j : Nat, (j : Int) < i + 1 → (m1.set (80 + i).toNat (ch.getD i.toNat 0)).getD (80 + j) 0 = ch.getD j 0 := by
        intro j hj
        rw [fz_getD_set]
        by_cases z : j = i.toNat
        · rw [if_pos ⟨by omega, by omega⟩, z]
        · rw [if_neg (fun y => z (by omega))]; exact hc j (by omega)
      exact ih  (i + 1) (m1.set (80 + i).toNat (ch.getD i.toNat 0)) h_570 g_570_66 g_570_69 n69 g_570_70 g_570_71 g_570_92 hl20 g_570_93 k_570 fr_570 (by omega) hc2 (mx_out_s ho (by omega) (by omega)) (by omega)

theorem rp_keep1 {h : List ik_E} {f : Nat → Int} {s : Nat} {t0 : Int} {t1 : Int} {ka : Int} {pa : Int} {fa : Int} {kb : Int} {pb : Int} {fb : Int} {xa : Int} {xb : Int} {mi : Int} {sd : Int} {ch : List Int} {im : List Int}  (h66 : cE h 66 (.inr (10, [fI (f 0), .ref 67, .ref 68, .ref 69, fI ((s : Nat) : Int), .ref 70, .ref 71, fI mi, fI sd, .ref 72, fI (f 10), fI (f 11), fI (f 12), fJ (f 13), fI (f 14), fI (f 15), fI (f 16), fI (f 17), .ref 73, .ref 74, .ref 75, .ref 76, .ref 77, .ref 78, fI (f 24), .ref 79, .ref 80, .ref 81, .ref 82, .ref 83, .ref 84, .ref 85, fJ (f 32), fJ (f 33), .ref 86, .ref 87, fI (f 36), .ref 88, .ref 89, .ref 90, .ref 91, .ref 92, .ref 93]))) (h69 : cE h 69 (.inl (.int, fA ch))) (n69 : ch.length = 48) (h70 : cE h 70 (.inl (.int, fA [ka, pa, fa, kb, pb, fb]))) (h71 : cE h 71 (.inl (.int, fA [xa, xb]))) (h92 : cE h 92 (.inl (.int, fA im))) (n92 : im.length = 160) (h93 : cE h 93 (.inl (.boolean, fA [t0, t1]))) (hl : h.length = 94) : ik_F 209 [.ref 66, fI 1] h (fun rv h' => ∃ (im' : List Int), rv = [fI 1] ∧ cE h' 92 (.inl (.int, fA im')) ∧ im'.length = 160 ∧ cE h' 93 (.inl (.boolean, fA [t0, 1])) ∧ (mi_ok im' 80 ch ka pa fa kb pb fb xa xb mi s sd) ∧ (mx_out 80 160 im im') ∧ hfr [92, 93] h h') := by
  refine ik_Wk 1 (pc' := 1) (loc' := [some (.ref 66), some (fI 1), none, none]) (st' := [fI 1]) (h' := h) (cl' := 0) (sl' := 0) rfl ?_
  refine fw_i2l rfl (by omega) (by omega) ?_
  refine fw_lc (z := 0) rfl (by decide) ?_
  refine fw_lc (z := 1) rfl (by decide) ?_
  refine fw_call 127 3 3 [fJ 1, fJ 0, fJ 1] [] rfl rfl rfl (by decide) rfl rfl (fw_sta hl rfl (by decide)) (cr_in (v := 1) (a := 0) (b := 1) (by omega) (by omega) (by omega)  hl) ?_
  rintro _ h_571 (⟨rfl, p_571_0, F_571⟩ | ⟨rfl, p_571_0, F_571⟩)
  · have k_571 := F_571.1.trans hl
    have fr_571 := hfr_c (hfr_refl [92, 93] h) F_571 (by decide)
    have g_571_66 := (F_571.2 66 (by decide +kernel)).trans h66
    have g_571_69 := (F_571.2 69 (by decide +kernel)).trans h69
    have g_571_70 := (F_571.2 70 (by decide +kernel)).trans h70
    have g_571_71 := (F_571.2 71 (by decide +kernel)).trans h71
    have g_571_92 := (F_571.2 92 (by decide +kernel)).trans h92
    have g_571_93 := (F_571.2 93 (by decide +kernel)).trans h93
    refine ik_Wk 0 (pc' := 7) (loc' := [some (.ref 66), some (fI 1), none, none]) (st' := [fI 1]) (h' := h_571) (cl' := 0) (sl' := 0) rfl ?_
    refine fw_if_ne rfl rfl (by omega) (by omega) (fun hc1 => absurd hc1 (by omega)) (fun hc1 => ?_)
    refine fw_bi rfl (by decide) ?_
    refine ik_Wk 1 (pc' := 16) (loc' := [some (.ref 66), some (fI 1), none, none]) (st' := [fI 1, fI 80]) (h' := h_571) (cl' := 0) (sl' := 0) rfl ?_
    refine fw_mul rfl ?_
    refine ik_Wk 3 (pc' := 20) (loc' := [some (.ref 66), some (fI 1), some (fI 80), some (fI 0)]) (st' := []) (h' := h_571) (cl' := 0) (sl' := 0) rfl ?_
    exact rp_keep1L (f := f) (s := s) (t0 := t0) (t1 := t1) (ka := ka) (pa := pa) (fa := fa) (kb := kb) (pb := pb) (fb := fb) (xa := xa) (xb := xb) (mi := mi) (sd := sd) (ch := ch) (im := im)   49 0 im h_571 g_571_66 g_571_69 n69 g_571_70 g_571_71 g_571_92 n92 g_571_93 k_571 fr_571 (by omega) (fun j hj => absurd hj (by omega)) (mx_out_r _ _ _) (by omega)
  · have k_571 := F_571.1.trans hl
    have fr_571 := hfr_c (hfr_refl [92, 93] h) F_571 (by decide)
    have g_571_66 := (F_571.2 66 (by decide +kernel)).trans h66
    have g_571_69 := (F_571.2 69 (by decide +kernel)).trans h69
    have g_571_70 := (F_571.2 70 (by decide +kernel)).trans h70
    have g_571_71 := (F_571.2 71 (by decide +kernel)).trans h71
    have g_571_92 := (F_571.2 92 (by decide +kernel)).trans h92
    have g_571_93 := (F_571.2 93 (by decide +kernel)).trans h93
    omega

theorem rp_goBack1L {h : List ik_E} {f : Nat → Int} {s : Nat} {s2 : Nat} {t0 : Int} {t1 : Int} {e0 : Int} {e1 : Int} {e2 : Int} {e3 : Int} {e4 : Int} {e5 : Int} {y0 : Int} {y1 : Int} {m2 : Int} {d2 : Int} {ka : Int} {pa : Int} {fa : Int} {kb : Int} {pb : Int} {fb : Int} {xa : Int} {xb : Int} {mi : Int} {sd : Int} {ch : List Int} {im : List Int} {ci : List Int} (q0 : mi_ok im 80 ci e0 e1 e2 e3 e4 e5 y0 y1 m2 s2 d2) (q1 : ci.length = 48)  : ∀ (k : Nat) (i : Int) (c1 : List Int) (u : List ik_E) (u66 : cE u 66 (.inr (10, [fI (f 0), .ref 67, .ref 68, .ref 69, fI ((s : Nat) : Int), .ref 70, .ref 71, fI mi, fI sd, .ref 72, fI (f 10), fI (f 11), fI (f 12), fJ (f 13), fI (f 14), fI (f 15), fI (f 16), fI (f 17), .ref 73, .ref 74, .ref 75, .ref 76, .ref 77, .ref 78, fI (f 24), .ref 79, .ref 80, .ref 81, .ref 82, .ref 83, .ref 84, .ref 85, fJ (f 32), fJ (f 33), .ref 86, .ref 87, fI (f 36), .ref 88, .ref 89, .ref 90, .ref 91, .ref 92, .ref 93]))) (u69 : cE u 69 (.inl (.int, fA c1))) (n69 : c1.length = 48) (u70 : cE u 70 (.inl (.int, fA [ka, pa, fa, kb, pb, fb]))) (u71 : cE u 71 (.inl (.int, fA [xa, xb]))) (u92 : cE u 92 (.inl (.int, fA im))) (n92 : im.length = 160) (u93 : cE u 93 (.inl (.boolean, fA [t0, 1]))) (ul : u.length = 94) (F : hfr [66, 69, 70, 71] h u) (hi : 0 ≤ i ∧ i ≤ 48) (hc : ∀ j : Nat, (j : Int) < i → c1.getD j 0 = ci.getD j 0) (hk : 48 - i < (k : Int)), ik_G 210 32 [some (.ref 66), some (fI 1), some (fI 80), some (fI i)] [] u (fun rv h' => rv = [fI 1] ∧ cE h' 66 (.inr (10, [fI (f 0), .ref 67, .ref 68, .ref 69, fI ((s2 : Nat) : Int), .ref 70, .ref 71, fI m2, fI d2, .ref 72, fI (f 10), fI (f 11), fI (f 12), fJ (f 13), fI (f 14), fI (f 15), fI (f 16), fI (f 17), .ref 73, .ref 74, .ref 75, .ref 76, .ref 77, .ref 78, fI (f 24), .ref 79, .ref 80, .ref 81, .ref 82, .ref 83, .ref 84, .ref 85, fJ (f 32), fJ (f 33), .ref 86, .ref 87, fI (f 36), .ref 88, .ref 89, .ref 90, .ref 91, .ref 92, .ref 93])) ∧ cE h' 69 (.inl (.int, fA ci)) ∧ ci.length = 48 ∧ cE h' 70 (.inl (.int, fA [e0, e1, e2, e3, e4, e5])) ∧ cE h' 71 (.inl (.int, fA [y0, y1])) ∧ hfr [66, 69, 70, 71] h h') := by
  intro k
  induction k with
  | zero => intro i c1 u u66 u69 n69 u70 u71 u92 n92 u93 ul F hi hc hk; omega
  | succ k ih =>
    intro i c1 u u66 u69 n69 u70 u71 u92 n92 u93 ul F hi hc hk
    refine ik_Wk 1 (pc' := 33) (loc' := [some (.ref 66), some (fI 1), some (fI 80), some (fI i)]) (st' := [fI i]) (h' := u) (cl' := 0) (sl' := 0) rfl ?_
    refine fw_bi rfl (by decide) ?_
    refine fw_ic_ge rfl rfl (by omega) (by omega) (by omega) (by omega) (fun hc1 => ?_) (fun hc1 => ?_)
    · refine ik_Wk 3 (pc' := 61) (loc' := [some (.ref 66), some (fI 1), some (fI 80), some (fI 0)]) (st' := [fI 0]) (h' := u) (cl' := 0) (sl' := 0) rfl ?_
      refine fw_bi rfl (by decide) ?_
      refine fw_ic_ge rfl rfl (by omega) (by omega) (by omega) (by omega) (fun hc2 => absurd hc2 (by omega)) (fun hc2 => ?_)
      refine ik_Wk 1 (pc' := 67) (loc' := [some (.ref 66), some (fI 1), some (fI 80), some (fI 0)]) (st' := [.ref 66]) (h' := u) (cl' := 0) (sl' := 0) rfl ?_
      refine fw_gf rfl rfl u66 rfl ?_
      refine ik_Wk 2 (pc' := 72) (loc' := [some (.ref 66), some (fI 1), some (fI 80), some (fI 0)]) (st' := [.ref 66, fI 0, .ref 70]) (h' := u) (cl' := 0) (sl' := 0) rfl ?_
      refine fw_gf rfl rfl u66 rfl ?_
      refine ik_Wk 1 (pc' := 76) (loc' := [some (.ref 66), some (fI 1), some (fI 80), some (fI 0)]) (st' := [fI 80, .ref 92, fI 0, .ref 70]) (h' := u) (cl' := 0) (sl' := 0) rfl ?_
      refine fw_bi rfl (by decide) ?_
      refine fw_add rfl ?_
      refine ik_Wk 1 (pc' := 80) (loc' := [some (.ref 66), some (fI 1), some (fI 80), some (fI 0)]) (st' := [fI 0, fI 128, .ref 92, fI 0, .ref 70]) (h' := u) (cl' := 0) (sl' := 0) rfl ?_
      refine fw_add rfl ?_
      refine fw_ial rfl u92 (by omega) (by omega) (by omega) ?_
      refine ik_Wk 0 (pc' := 82) (loc' := [some (.ref 66), some (fI 1), some (fI 80), some (fI 0)]) (st' := [fI (im.getD (128 : Int).toNat 0), fI 0, .ref 70]) (h' := u) (cl' := 0) (sl' := 0) rfl ?_
      rw [show im.getD (128 : Int).toNat 0 = e0 from q0.2 0 (by decide)]
      refine fx_ias (z := 0) rfl u70 (by decide) (Nat.le_of_ble_eq_true rfl) (by decide) ?_
      intro h_572 e_572 f_572 l_572
      have k_572 := l_572.trans ul
      have fr_572 := hfr_w F f_572 l_572 (by decide)
      have g_572_66 := (f_572 66 (by decide)).trans u66
      have g_572_69 := (f_572 69 (by decide)).trans u69
      have g_572_71 := (f_572 71 (by decide)).trans u71
      have g_572_92 := (f_572 92 (by decide)).trans u92
      have g_572_93 := (f_572 93 (by decide)).trans u93
      have g_572_70 : cE h_572 70 (.inl (.int, fA [e0, pa, fa, kb, pb, fb])) := e_572
      refine fw_inc (a := 0) (loc' := [some (.ref 66), some (fI 1), some (fI 80), some (fI 1)]) rfl rfl (Nat.le_of_ble_eq_true rfl) rfl ?_
      refine ik_Wk 2 (pc' := 61) (loc' := [some (.ref 66), some (fI 1), some (fI 80), some (fI 1)]) (st' := [fI 1]) (h' := h_572) (cl' := 0) (sl' := 0) rfl ?_
      refine fw_bi rfl (by decide) ?_
      refine fw_ic_ge rfl rfl (by omega) (by omega) (by omega) (by omega) (fun hc3 => absurd hc3 (by omega)) (fun hc3 => ?_)
      refine ik_Wk 1 (pc' := 67) (loc' := [some (.ref 66), some (fI 1), some (fI 80), some (fI 1)]) (st' := [.ref 66]) (h' := h_572) (cl' := 0) (sl' := 0) rfl ?_
      refine fw_gf rfl rfl g_572_66 rfl ?_
      refine ik_Wk 2 (pc' := 72) (loc' := [some (.ref 66), some (fI 1), some (fI 80), some (fI 1)]) (st' := [.ref 66, fI 1, .ref 70]) (h' := h_572) (cl' := 0) (sl' := 0) rfl ?_
      refine fw_gf rfl rfl g_572_66 rfl ?_
      refine ik_Wk 1 (pc' := 76) (loc' := [some (.ref 66), some (fI 1), some (fI 80), some (fI 1)]) (st' := [fI 80, .ref 92, fI 1, .ref 70]) (h' := h_572) (cl' := 0) (sl' := 0) rfl ?_
      refine fw_bi rfl (by decide) ?_
      refine fw_add rfl ?_
      refine ik_Wk 1 (pc' := 80) (loc' := [some (.ref 66), some (fI 1), some (fI 80), some (fI 1)]) (st' := [fI 1, fI 128, .ref 92, fI 1, .ref 70]) (h' := h_572) (cl' := 0) (sl' := 0) rfl ?_
      refine fw_add rfl ?_
      refine fw_ial rfl g_572_92 (by omega) (by omega) (by omega) ?_
      refine ik_Wk 0 (pc' := 82) (loc' := [some (.ref 66), some (fI 1), some (fI 80), some (fI 1)]) (st' := [fI (im.getD (129 : Int).toNat 0), fI 1, .ref 70]) (h' := h_572) (cl' := 0) (sl' := 0) rfl ?_
      rw [show im.getD (129 : Int).toNat 0 = e1 from q0.2 1 (by decide)]
      refine fx_ias (z := 1) rfl g_572_70 (by decide) (Nat.le_of_ble_eq_true rfl) (by decide) ?_
      intro h_573 e_573 f_573 l_573
      have k_573 := l_573.trans k_572
      have fr_573 := hfr_w fr_572 f_573 l_573 (by decide)
      have g_573_66 := (f_573 66 (by decide)).trans g_572_66
      have g_573_69 := (f_573 69 (by decide)).trans g_572_69
      have g_573_71 := (f_573 71 (by decide)).trans g_572_71
      have g_573_92 := (f_573 92 (by decide)).trans g_572_92
      have g_573_93 := (f_573 93 (by decide)).trans g_572_93
      have g_573_70 : cE h_573 70 (.inl (.int, fA [e0, e1, fa, kb, pb, fb])) := e_573
      refine fw_inc (a := 1) (loc' := [some (.ref 66), some (fI 1), some (fI 80), some (fI 2)]) rfl rfl (Nat.le_of_ble_eq_true rfl) rfl ?_
      refine ik_Wk 2 (pc' := 61) (loc' := [some (.ref 66), some (fI 1), some (fI 80), some (fI 2)]) (st' := [fI 2]) (h' := h_573) (cl' := 0) (sl' := 0) rfl ?_
      refine fw_bi rfl (by decide) ?_
      refine fw_ic_ge rfl rfl (by omega) (by omega) (by omega) (by omega) (fun hc4 => absurd hc4 (by omega)) (fun hc4 => ?_)
      refine ik_Wk 1 (pc' := 67) (loc' := [some (.ref 66), some (fI 1), some (fI 80), some (fI 2)]) (st' := [.ref 66]) (h' := h_573) (cl' := 0) (sl' := 0) rfl ?_
      refine fw_gf rfl rfl g_573_66 rfl ?_
      refine ik_Wk 2 (pc' := 72) (loc' := [some (.ref 66), some (fI 1), some (fI 80), some (fI 2)]) (st' := [.ref 66, fI 2, .ref 70]) (h' := h_573) (cl' := 0) (sl' := 0) rfl ?_
      refine fw_gf rfl rfl g_573_66 rfl ?_
      refine ik_Wk 1 (pc' := 76) (loc' := [some (.ref 66), some (fI 1), some (fI 80), some (fI 2)]) (st' := [fI 80, .ref 92, fI 2, .ref 70]) (h' := h_573) (cl' := 0) (sl' := 0) rfl ?_
      refine fw_bi rfl (by decide) ?_
      refine fw_add rfl ?_
      refine ik_Wk 1 (pc' := 80) (loc' := [some (.ref 66), some (fI 1), some (fI 80), some (fI 2)]) (st' := [fI 2, fI 128, .ref 92, fI 2, .ref 70]) (h' := h_573) (cl' := 0) (sl' := 0) rfl ?_
      refine fw_add rfl ?_
      refine fw_ial rfl g_573_92 (by omega) (by omega) (by omega) ?_
      refine ik_Wk 0 (pc' := 82) (loc' := [some (.ref 66), some (fI 1), some (fI 80), some (fI 2)]) (st' := [fI (im.getD (130 : Int).toNat 0), fI 2, .ref 70]) (h' := h_573) (cl' := 0) (sl' := 0) rfl ?_
      rw [show im.getD (130 : Int).toNat 0 = e2 from q0.2 2 (by decide)]
      refine fx_ias (z := 2) rfl g_573_70 (by decide) (Nat.le_of_ble_eq_true rfl) (by decide) ?_
      intro h_574 e_574 f_574 l_574
      have k_574 := l_574.trans k_573
      have fr_574 := hfr_w fr_573 f_574 l_574 (by decide)
      have g_574_66 := (f_574 66 (by decide)).trans g_573_66
      have g_574_69 := (f_574 69 (by decide)).trans g_573_69
      have g_574_71 := (f_574 71 (by decide)).trans g_573_71
      have g_574_92 := (f_574 92 (by decide)).trans g_573_92
      have g_574_93 := (f_574 93 (by decide)).trans g_573_93
      have g_574_70 : cE h_574 70 (.inl (.int, fA [e0, e1, e2, kb, pb, fb])) := e_574
      refine fw_inc (a := 2) (loc' := [some (.ref 66), some (fI 1), some (fI 80), some (fI 3)]) rfl rfl (Nat.le_of_ble_eq_true rfl) rfl ?_
      refine ik_Wk 2 (pc' := 61) (loc' := [some (.ref 66), some (fI 1), some (fI 80), some (fI 3)]) (st' := [fI 3]) (h' := h_574) (cl' := 0) (sl' := 0) rfl ?_
      refine fw_bi rfl (by decide) ?_
      refine fw_ic_ge rfl rfl (by omega) (by omega) (by omega) (by omega) (fun hc5 => absurd hc5 (by omega)) (fun hc5 => ?_)
      refine ik_Wk 1 (pc' := 67) (loc' := [some (.ref 66), some (fI 1), some (fI 80), some (fI 3)]) (st' := [.ref 66]) (h' := h_574) (cl' := 0) (sl' := 0) rfl ?_
      refine fw_gf rfl rfl g_574_66 rfl ?_
      refine ik_Wk 2 (pc' := 72) (loc' := [some (.ref 66), some (fI 1), some (fI 80), some (fI 3)]) (st' := [.ref 66, fI 3, .ref 70]) (h' := h_574) (cl' := 0) (sl' := 0) rfl ?_
      refine fw_gf rfl rfl g_574_66 rfl ?_
      refine ik_Wk 1 (pc' := 76) (loc' := [some (.ref 66), some (fI 1), some (fI 80), some (fI 3)]) (st' := [fI 80, .ref 92, fI 3, .ref 70]) (h' := h_574) (cl' := 0) (sl' := 0) rfl ?_
      refine fw_bi rfl (by decide) ?_
      refine fw_add rfl ?_
      refine ik_Wk 1 (pc' := 80) (loc' := [some (.ref 66), some (fI 1), some (fI 80), some (fI 3)]) (st' := [fI 3, fI 128, .ref 92, fI 3, .ref 70]) (h' := h_574) (cl' := 0) (sl' := 0) rfl ?_
      refine fw_add rfl ?_
      refine fw_ial rfl g_574_92 (by omega) (by omega) (by omega) ?_
      refine ik_Wk 0 (pc' := 82) (loc' := [some (.ref 66), some (fI 1), some (fI 80), some (fI 3)]) (st' := [fI (im.getD (131 : Int).toNat 0), fI 3, .ref 70]) (h' := h_574) (cl' := 0) (sl' := 0) rfl ?_
      rw [show im.getD (131 : Int).toNat 0 = e3 from q0.2 3 (by decide)]
      refine fx_ias (z := 3) rfl g_574_70 (by decide) (Nat.le_of_ble_eq_true rfl) (by decide) ?_
      intro h_575 e_575 f_575 l_575
      have k_575 := l_575.trans k_574
      have fr_575 := hfr_w fr_574 f_575 l_575 (by decide)
      have g_575_66 := (f_575 66 (by decide)).trans g_574_66
      have g_575_69 := (f_575 69 (by decide)).trans g_574_69
      have g_575_71 := (f_575 71 (by decide)).trans g_574_71
      have g_575_92 := (f_575 92 (by decide)).trans g_574_92
      have g_575_93 := (f_575 93 (by decide)).trans g_574_93
      have g_575_70 : cE h_575 70 (.inl (.int, fA [e0, e1, e2, e3, pb, fb])) := e_575
      refine fw_inc (a := 3) (loc' := [some (.ref 66), some (fI 1), some (fI 80), some (fI 4)]) rfl rfl (Nat.le_of_ble_eq_true rfl) rfl ?_
      refine ik_Wk 2 (pc' := 61) (loc' := [some (.ref 66), some (fI 1), some (fI 80), some (fI 4)]) (st' := [fI 4]) (h' := h_575) (cl' := 0) (sl' := 0) rfl ?_
      refine fw_bi rfl (by decide) ?_
      refine fw_ic_ge rfl rfl (by omega) (by omega) (by omega) (by omega) (fun hc6 => absurd hc6 (by omega)) (fun hc6 => ?_)
      refine ik_Wk 1 (pc' := 67) (loc' := [some (.ref 66), some (fI 1), some (fI 80), some (fI 4)]) (st' := [.ref 66]) (h' := h_575) (cl' := 0) (sl' := 0) rfl ?_
      refine fw_gf rfl rfl g_575_66 rfl ?_
      refine ik_Wk 2 (pc' := 72) (loc' := [some (.ref 66), some (fI 1), some (fI 80), some (fI 4)]) (st' := [.ref 66, fI 4, .ref 70]) (h' := h_575) (cl' := 0) (sl' := 0) rfl ?_
      refine fw_gf rfl rfl g_575_66 rfl ?_
      refine ik_Wk 1 (pc' := 76) (loc' := [some (.ref 66), some (fI 1), some (fI 80), some (fI 4)]) (st' := [fI 80, .ref 92, fI 4, .ref 70]) (h' := h_575) (cl' := 0) (sl' := 0) rfl ?_
      refine fw_bi rfl (by decide) ?_
      refine fw_add rfl ?_
      refine ik_Wk 1 (pc' := 80) (loc' := [some (.ref 66), some (fI 1), some (fI 80), some (fI 4)]) (st' := [fI 4, fI 128, .ref 92, fI 4, .ref 70]) (h' := h_575) (cl' := 0) (sl' := 0) rfl ?_
      refine fw_add rfl ?_
      refine fw_ial rfl g_575_92 (by omega) (by omega) (by omega) ?_
      refine ik_Wk 0 (pc' := 82) (loc' := [some (.ref 66), some (fI 1), some (fI 80), some (fI 4)]) (st' := [fI (im.getD (132 : Int).toNat 0), fI 4, .ref 70]) (h' := h_575) (cl' := 0) (sl' := 0) rfl ?_
      rw [show im.getD (132 : Int).toNat 0 = e4 from q0.2 4 (by decide)]
      refine fx_ias (z := 4) rfl g_575_70 (by decide) (Nat.le_of_ble_eq_true rfl) (by decide) ?_
      intro h_576 e_576 f_576 l_576
      have k_576 := l_576.trans k_575
      have fr_576 := hfr_w fr_575 f_576 l_576 (by decide)
      have g_576_66 := (f_576 66 (by decide)).trans g_575_66
      have g_576_69 := (f_576 69 (by decide)).trans g_575_69
      have g_576_71 := (f_576 71 (by decide)).trans g_575_71
      have g_576_92 := (f_576 92 (by decide)).trans g_575_92
      have g_576_93 := (f_576 93 (by decide)).trans g_575_93
      have g_576_70 : cE h_576 70 (.inl (.int, fA [e0, e1, e2, e3, e4, fb])) := e_576
      refine fw_inc (a := 4) (loc' := [some (.ref 66), some (fI 1), some (fI 80), some (fI 5)]) rfl rfl (Nat.le_of_ble_eq_true rfl) rfl ?_
      refine ik_Wk 2 (pc' := 61) (loc' := [some (.ref 66), some (fI 1), some (fI 80), some (fI 5)]) (st' := [fI 5]) (h' := h_576) (cl' := 0) (sl' := 0) rfl ?_
      refine fw_bi rfl (by decide) ?_
      refine fw_ic_ge rfl rfl (by omega) (by omega) (by omega) (by omega) (fun hc7 => absurd hc7 (by omega)) (fun hc7 => ?_)
      refine ik_Wk 1 (pc' := 67) (loc' := [some (.ref 66), some (fI 1), some (fI 80), some (fI 5)]) (st' := [.ref 66]) (h' := h_576) (cl' := 0) (sl' := 0) rfl ?_
      refine fw_gf rfl rfl g_576_66 rfl ?_
      refine ik_Wk 2 (pc' := 72) (loc' := [some (.ref 66), some (fI 1), some (fI 80), some (fI 5)]) (st' := [.ref 66, fI 5, .ref 70]) (h' := h_576) (cl' := 0) (sl' := 0) rfl ?_
      refine fw_gf rfl rfl g_576_66 rfl ?_
      refine ik_Wk 1 (pc' := 76) (loc' := [some (.ref 66), some (fI 1), some (fI 80), some (fI 5)]) (st' := [fI 80, .ref 92, fI 5, .ref 70]) (h' := h_576) (cl' := 0) (sl' := 0) rfl ?_
      refine fw_bi rfl (by decide) ?_
      refine fw_add rfl ?_
      refine ik_Wk 1 (pc' := 80) (loc' := [some (.ref 66), some (fI 1), some (fI 80), some (fI 5)]) (st' := [fI 5, fI 128, .ref 92, fI 5, .ref 70]) (h' := h_576) (cl' := 0) (sl' := 0) rfl ?_
      refine fw_add rfl ?_
      refine fw_ial rfl g_576_92 (by omega) (by omega) (by omega) ?_
      refine ik_Wk 0 (pc' := 82) (loc' := [some (.ref 66), some (fI 1), some (fI 80), some (fI 5)]) (st' := [fI (im.getD (133 : Int).toNat 0), fI 5, .ref 70]) (h' := h_576) (cl' := 0) (sl' := 0) rfl ?_
      rw [show im.getD (133 : Int).toNat 0 = e5 from q0.2 5 (by decide)]
      refine fx_ias (z := 5) rfl g_576_70 (by decide) (Nat.le_of_ble_eq_true rfl) (by decide) ?_
      intro h_577 e_577 f_577 l_577
      have k_577 := l_577.trans k_576
      have fr_577 := hfr_w fr_576 f_577 l_577 (by decide)
      have g_577_66 := (f_577 66 (by decide)).trans g_576_66
      have g_577_69 := (f_577 69 (by decide)).trans g_576_69
      have g_577_71 := (f_577 71 (by decide)).trans g_576_71
      have g_577_92 := (f_577 92 (by decide)).trans g_576_92
      have g_577_93 := (f_577 93 (by decide)).trans g_576_93
      have g_577_70 : cE h_577 70 (.inl (.int, fA [e0, e1, e2, e3, e4, e5])) := e_577
      refine fw_inc (a := 5) (loc' := [some (.ref 66), some (fI 1), some (fI 80), some (fI 6)]) rfl rfl (Nat.le_of_ble_eq_true rfl) rfl ?_
      refine ik_Wk 2 (pc' := 61) (loc' := [some (.ref 66), some (fI 1), some (fI 80), some (fI 6)]) (st' := [fI 6]) (h' := h_577) (cl' := 0) (sl' := 0) rfl ?_
      refine fw_bi rfl (by decide) ?_
      refine fw_ic_ge rfl rfl (by omega) (by omega) (by omega) (by omega) (fun hc8 => ?_) (fun hc8 => absurd hc8 (by omega))
      refine ik_Wk 1 (pc' := 90) (loc' := [some (.ref 66), some (fI 1), some (fI 80), some (fI 6)]) (st' := [.ref 66]) (h' := h_577) (cl' := 0) (sl' := 0) rfl ?_
      refine fw_gf rfl rfl g_577_66 rfl ?_
      refine ik_Wk 2 (pc' := 95) (loc' := [some (.ref 66), some (fI 1), some (fI 80), some (fI 6)]) (st' := [.ref 66, fI 0, .ref 71]) (h' := h_577) (cl' := 0) (sl' := 0) rfl ?_
      refine fw_gf rfl rfl g_577_66 rfl ?_
      refine ik_Wk 1 (pc' := 99) (loc' := [some (.ref 66), some (fI 1), some (fI 80), some (fI 6)]) (st' := [fI 80, .ref 92, fI 0, .ref 71]) (h' := h_577) (cl' := 0) (sl' := 0) rfl ?_
      refine fw_bi rfl (by decide) ?_
      refine fw_add rfl ?_
      refine fw_ial rfl g_577_92 (by omega) (by omega) (by omega) ?_
      refine ik_Wk 0 (pc' := 103) (loc' := [some (.ref 66), some (fI 1), some (fI 80), some (fI 6)]) (st' := [fI (im.getD (134 : Int).toNat 0), fI 0, .ref 71]) (h' := h_577) (cl' := 0) (sl' := 0) rfl ?_
      rw [show im.getD (134 : Int).toNat 0 = y0 from q0.2 6 (by decide)]
      refine fx_ias (z := 0) rfl g_577_71 (by decide) (Nat.le_of_ble_eq_true rfl) (by decide) ?_
      intro h_578 e_578 f_578 l_578
      have k_578 := l_578.trans k_577
      have fr_578 := hfr_w fr_577 f_578 l_578 (by decide)
      have g_578_66 := (f_578 66 (by decide)).trans g_577_66
      have g_578_69 := (f_578 69 (by decide)).trans g_577_69
      have g_578_70 := (f_578 70 (by decide)).trans g_577_70
      have g_578_92 := (f_578 92 (by decide)).trans g_577_92
      have g_578_93 := (f_578 93 (by decide)).trans g_577_93
      have g_578_71 : cE h_578 71 (.inl (.int, fA [y0, xb])) := e_578
      refine ik_Wk 1 (pc' := 105) (loc' := [some (.ref 66), some (fI 1), some (fI 80), some (fI 6)]) (st' := [.ref 66]) (h' := h_578) (cl' := 0) (sl' := 0) rfl ?_
      refine fw_gf rfl rfl g_578_66 rfl ?_
      refine ik_Wk 2 (pc' := 110) (loc' := [some (.ref 66), some (fI 1), some (fI 80), some (fI 6)]) (st' := [.ref 66, fI 1, .ref 71]) (h' := h_578) (cl' := 0) (sl' := 0) rfl ?_
      refine fw_gf rfl rfl g_578_66 rfl ?_
      refine ik_Wk 1 (pc' := 114) (loc' := [some (.ref 66), some (fI 1), some (fI 80), some (fI 6)]) (st' := [fI 80, .ref 92, fI 1, .ref 71]) (h' := h_578) (cl' := 0) (sl' := 0) rfl ?_
      refine fw_bi rfl (by decide) ?_
      refine fw_add rfl ?_
      refine fw_ial rfl g_578_92 (by omega) (by omega) (by omega) ?_
      refine ik_Wk 0 (pc' := 118) (loc' := [some (.ref 66), some (fI 1), some (fI 80), some (fI 6)]) (st' := [fI (im.getD (135 : Int).toNat 0), fI 1, .ref 71]) (h' := h_578) (cl' := 0) (sl' := 0) rfl ?_
      rw [show im.getD (135 : Int).toNat 0 = y1 from q0.2 7 (by decide)]
      refine fx_ias (z := 1) rfl g_578_71 (by decide) (Nat.le_of_ble_eq_true rfl) (by decide) ?_
      intro h_579 e_579 f_579 l_579
      have k_579 := l_579.trans k_578
      have fr_579 := hfr_w fr_578 f_579 l_579 (by decide)
      have g_579_66 := (f_579 66 (by decide)).trans g_578_66
      have g_579_69 := (f_579 69 (by decide)).trans g_578_69
      have g_579_70 := (f_579 70 (by decide)).trans g_578_70
      have g_579_92 := (f_579 92 (by decide)).trans g_578_92
      have g_579_93 := (f_579 93 (by decide)).trans g_578_93
      have g_579_71 : cE h_579 71 (.inl (.int, fA [y0, y1])) := e_579
      refine ik_Wk 2 (pc' := 121) (loc' := [some (.ref 66), some (fI 1), some (fI 80), some (fI 6)]) (st' := [.ref 66, .ref 66]) (h' := h_579) (cl' := 0) (sl' := 0) rfl ?_
      refine fw_gf rfl rfl g_579_66 rfl ?_
      refine ik_Wk 1 (pc' := 125) (loc' := [some (.ref 66), some (fI 1), some (fI 80), some (fI 6)]) (st' := [fI 80, .ref 92, .ref 66]) (h' := h_579) (cl' := 0) (sl' := 0) rfl ?_
      refine fw_bi rfl (by decide) ?_
      refine fw_add rfl ?_
      refine fw_ial rfl g_579_92 (by omega) (by omega) (by omega) ?_
      refine ik_Wk 0 (pc' := 129) (loc' := [some (.ref 66), some (fI 1), some (fI 80), some (fI 6)]) (st' := [fI (im.getD (136 : Int).toNat 0), .ref 66]) (h' := h_579) (cl' := 0) (sl' := 0) rfl ?_
      rw [show im.getD (136 : Int).toNat 0 = m2 from q0.2 8 (by decide)]
      refine fx_pf rfl rfl g_579_66 (Nat.le_of_ble_eq_true rfl) rfl rfl ?_
      intro h_580 e_580 f_580 l_580
      have k_580 := l_580.trans k_579
      have fr_580 := hfr_w fr_579 f_580 l_580 (by decide)
      have g_580_69 := (f_580 69 (by decide)).trans g_579_69
      have g_580_70 := (f_580 70 (by decide)).trans g_579_70
      have g_580_71 := (f_580 71 (by decide)).trans g_579_71
      have g_580_92 := (f_580 92 (by decide)).trans g_579_92
      have g_580_93 := (f_580 93 (by decide)).trans g_579_93
      have g_580_66 : cE h_580 66 (.inr (10, [fI (f 0), .ref 67, .ref 68, .ref 69, fI ((s : Nat) : Int), .ref 70, .ref 71, fI m2, fI sd, .ref 72, fI (f 10), fI (f 11), fI (f 12), fJ (f 13), fI (f 14), fI (f 15), fI (f 16), fI (f 17), .ref 73, .ref 74, .ref 75, .ref 76, .ref 77, .ref 78, fI (f 24), .ref 79, .ref 80, .ref 81, .ref 82, .ref 83, .ref 84, .ref 85, fJ (f 32), fJ (f 33), .ref 86, .ref 87, fI (f 36), .ref 88, .ref 89, .ref 90, .ref 91, .ref 92, .ref 93])) := e_580
      refine ik_Wk 2 (pc' := 134) (loc' := [some (.ref 66), some (fI 1), some (fI 80), some (fI 6)]) (st' := [.ref 66, .ref 66]) (h' := h_580) (cl' := 0) (sl' := 0) rfl ?_
      refine fw_gf rfl rfl g_580_66 rfl ?_
      refine ik_Wk 1 (pc' := 138) (loc' := [some (.ref 66), some (fI 1), some (fI 80), some (fI 6)]) (st' := [fI 80, .ref 92, .ref 66]) (h' := h_580) (cl' := 0) (sl' := 0) rfl ?_
      refine fw_bi rfl (by decide) ?_
      refine fw_add rfl ?_
      refine fw_ial rfl g_580_92 (by omega) (by omega) (by omega) ?_
      refine ik_Wk 0 (pc' := 142) (loc' := [some (.ref 66), some (fI 1), some (fI 80), some (fI 6)]) (st' := [fI (im.getD (137 : Int).toNat 0), .ref 66]) (h' := h_580) (cl' := 0) (sl' := 0) rfl ?_
      rw [show im.getD (137 : Int).toNat 0 = ((s2 : Nat) : Int) from q0.2 9 (by decide)]
      refine fx_pf rfl rfl g_580_66 (Nat.le_of_ble_eq_true rfl) rfl rfl ?_
      intro h_581 e_581 f_581 l_581
      have k_581 := l_581.trans k_580
      have fr_581 := hfr_w fr_580 f_581 l_581 (by decide)
      have g_581_69 := (f_581 69 (by decide)).trans g_580_69
      have g_581_70 := (f_581 70 (by decide)).trans g_580_70
      have g_581_71 := (f_581 71 (by decide)).trans g_580_71
      have g_581_92 := (f_581 92 (by decide)).trans g_580_92
      have g_581_93 := (f_581 93 (by decide)).trans g_580_93
      have g_581_66 : cE h_581 66 (.inr (10, [fI (f 0), .ref 67, .ref 68, .ref 69, fI ((s2 : Nat) : Int), .ref 70, .ref 71, fI m2, fI sd, .ref 72, fI (f 10), fI (f 11), fI (f 12), fJ (f 13), fI (f 14), fI (f 15), fI (f 16), fI (f 17), .ref 73, .ref 74, .ref 75, .ref 76, .ref 77, .ref 78, fI (f 24), .ref 79, .ref 80, .ref 81, .ref 82, .ref 83, .ref 84, .ref 85, fJ (f 32), fJ (f 33), .ref 86, .ref 87, fI (f 36), .ref 88, .ref 89, .ref 90, .ref 91, .ref 92, .ref 93])) := e_581
      refine ik_Wk 2 (pc' := 147) (loc' := [some (.ref 66), some (fI 1), some (fI 80), some (fI 6)]) (st' := [.ref 66, .ref 66]) (h' := h_581) (cl' := 0) (sl' := 0) rfl ?_
      refine fw_gf rfl rfl g_581_66 rfl ?_
      refine ik_Wk 1 (pc' := 151) (loc' := [some (.ref 66), some (fI 1), some (fI 80), some (fI 6)]) (st' := [fI 80, .ref 92, .ref 66]) (h' := h_581) (cl' := 0) (sl' := 0) rfl ?_
      refine fw_bi rfl (by decide) ?_
      refine fw_add rfl ?_
      refine fw_ial rfl g_581_92 (by omega) (by omega) (by omega) ?_
      refine ik_Wk 0 (pc' := 155) (loc' := [some (.ref 66), some (fI 1), some (fI 80), some (fI 6)]) (st' := [fI (im.getD (138 : Int).toNat 0), .ref 66]) (h' := h_581) (cl' := 0) (sl' := 0) rfl ?_
      rw [show im.getD (138 : Int).toNat 0 = d2 from q0.2 10 (by decide)]
      refine fx_pf rfl rfl g_581_66 (Nat.le_of_ble_eq_true rfl) rfl rfl ?_
      intro h_582 e_582 f_582 l_582
      have k_582 := l_582.trans k_581
      have fr_582 := hfr_w fr_581 f_582 l_582 (by decide)
      have g_582_69 := (f_582 69 (by decide)).trans g_581_69
      have g_582_70 := (f_582 70 (by decide)).trans g_581_70
      have g_582_71 := (f_582 71 (by decide)).trans g_581_71
      have g_582_92 := (f_582 92 (by decide)).trans g_581_92
      have g_582_93 := (f_582 93 (by decide)).trans g_581_93
      have g_582_66 : cE h_582 66 (.inr (10, [fI (f 0), .ref 67, .ref 68, .ref 69, fI ((s2 : Nat) : Int), .ref 70, .ref 71, fI m2, fI d2, .ref 72, fI (f 10), fI (f 11), fI (f 12), fJ (f 13), fI (f 14), fI (f 15), fI (f 16), fI (f 17), .ref 73, .ref 74, .ref 75, .ref 76, .ref 77, .ref 78, fI (f 24), .ref 79, .ref 80, .ref 81, .ref 82, .ref 83, .ref 84, .ref 85, fJ (f 32), fJ (f 33), .ref 86, .ref 87, fI (f 36), .ref 88, .ref 89, .ref 90, .ref 91, .ref 92, .ref 93])) := e_582
      refine ik_Wk 1 (pc' := 159) (loc' := [some (.ref 66), some (fI 1), some (fI 80), some (fI 6)]) (st' := [fI 1]) (h' := h_582) (cl' := 0) (sl' := 0) rfl ?_
      have ec : c1 = ci := mx_ext (by rw [n69, q1]) (fun j => by
        rcases Nat.lt_or_ge j 48 with z | z
        · exact hc j (by omega)
        · rw [mi_out (by omega), mi_out (by omega)])
      rw [ec] at g_582_69
      exact ik_Wret rfl rfl ⟨_, _, rfl, rfl, rfl, rfl, ⟨rfl, g_582_66, g_582_69, q1, g_582_70, g_582_71, fr_582⟩⟩
    · refine ik_Wk 1 (pc' := 39) (loc' := [some (.ref 66), some (fI 1), some (fI 80), some (fI i)]) (st' := [.ref 66]) (h' := u) (cl' := 0) (sl' := 0) rfl ?_
      refine fw_gf rfl rfl u66 rfl ?_
      refine ik_Wk 2 (pc' := 44) (loc' := [some (.ref 66), some (fI 1), some (fI 80), some (fI i)]) (st' := [.ref 66, fI i, .ref 69]) (h' := u) (cl' := 0) (sl' := 0) rfl ?_
      refine fw_gf rfl rfl u66 rfl ?_
      refine ik_Wk 2 (pc' := 49) (loc' := [some (.ref 66), some (fI 1), some (fI 80), some (fI i)]) (st' := [fI i, fI 80, .ref 92, fI i, .ref 69]) (h' := u) (cl' := 0) (sl' := 0) rfl ?_
      refine fw_add rfl ?_
      refine fw_ial rfl u92 (by omega) (by omega) (by omega) ?_
      have hl9 : (c1.set i.toNat (im.getD (80 + i).toNat 0)).length = 48 := (List.length_set ..).trans n69
      refine fx_ias rfl u69 (by omega) (by omega) (by omega) ?_
      intro h_583 e_583 f_583 l_583
      have k_583 := l_583.trans ul
      have fr_583 := hfr_w F f_583 l_583 (by decide)
      have g_583_66 := (f_583 66 (by decide)).trans u66
      have g_583_70 := (f_583 70 (by decide)).trans u70
      have g_583_71 := (f_583 71 (by decide)).trans u71
      have g_583_92 := (f_583 92 (by decide)).trans u92
      have g_583_93 := (f_583 93 (by decide)).trans u93
      have g_583_69 : cE h_583 69 (.inl (.int, fA (c1.set i.toNat (im.getD (80 + i).toNat 0)))) := e_583
      refine fw_inc (a := i) (loc' := [some (.ref 66), some (fI 1), some (fI 80), some (fI (i + 1))]) rfl rfl (Nat.le_of_ble_eq_true rfl) rfl ?_
      refine ik_Wk 1 (pc' := 32) (loc' := [some (.ref 66), some (fI 1), some (fI 80), some (fI (i + 1))]) (st' := []) (h' := h_583) (cl' := 0) (sl' := 0) rfl ?_
      have hq := q0.1 i.toNat (by omega)
      rw [show 80 + i.toNat = (80 + i).toNat by omega] at hq
      have hc2 : ∀ j : Nat, (j : Int) < i + 1 → (c1.set i.toNat (im.getD (80 + i).toNat 0)).getD j 0 = ci.getD j 0 := by
        intro j hj
        rw [fz_getD_set]
        by_cases z : j = i.toNat
        · rw [if_pos ⟨z, by omega⟩, z]; exact hq
        · rw [if_neg (fun y => z y.1)]; exact hc j (by omega)
      exact ih  (i + 1) (c1.set i.toNat (im.getD (80 + i).toNat 0)) h_583 g_583_66 g_583_69 hl9 g_583_70 g_583_71 g_583_92 n92 g_583_93 k_583 fr_583 (by omega) hc2 (by omega)

theorem rp_goBack1T {h : List ik_E} {f : Nat → Int} {s : Nat} {s2 : Nat} {t0 : Int} {t1 : Int} {e0 : Int} {e1 : Int} {e2 : Int} {e3 : Int} {e4 : Int} {e5 : Int} {y0 : Int} {y1 : Int} {m2 : Int} {d2 : Int} {ka : Int} {pa : Int} {fa : Int} {kb : Int} {pb : Int} {fb : Int} {xa : Int} {xb : Int} {mi : Int} {sd : Int} {ch : List Int} {im : List Int} {ci : List Int} (q0 : mi_ok im 80 ci e0 e1 e2 e3 e4 e5 y0 y1 m2 s2 d2) (q1 : ci.length = 48) (h66 : cE h 66 (.inr (10, [fI (f 0), .ref 67, .ref 68, .ref 69, fI ((s : Nat) : Int), .ref 70, .ref 71, fI mi, fI sd, .ref 72, fI (f 10), fI (f 11), fI (f 12), fJ (f 13), fI (f 14), fI (f 15), fI (f 16), fI (f 17), .ref 73, .ref 74, .ref 75, .ref 76, .ref 77, .ref 78, fI (f 24), .ref 79, .ref 80, .ref 81, .ref 82, .ref 83, .ref 84, .ref 85, fJ (f 32), fJ (f 33), .ref 86, .ref 87, fI (f 36), .ref 88, .ref 89, .ref 90, .ref 91, .ref 92, .ref 93]))) (h69 : cE h 69 (.inl (.int, fA ch))) (n69 : ch.length = 48) (h70 : cE h 70 (.inl (.int, fA [ka, pa, fa, kb, pb, fb]))) (h71 : cE h 71 (.inl (.int, fA [xa, xb]))) (h92 : cE h 92 (.inl (.int, fA im))) (n92 : im.length = 160) (h93 : cE h 93 (.inl (.boolean, fA [t0, 1]))) (hl : h.length = 94) : ik_F 210 [.ref 66, fI 1] h (fun rv h' => rv = [fI 1] ∧ cE h' 66 (.inr (10, [fI (f 0), .ref 67, .ref 68, .ref 69, fI ((s2 : Nat) : Int), .ref 70, .ref 71, fI m2, fI d2, .ref 72, fI (f 10), fI (f 11), fI (f 12), fJ (f 13), fI (f 14), fI (f 15), fI (f 16), fI (f 17), .ref 73, .ref 74, .ref 75, .ref 76, .ref 77, .ref 78, fI (f 24), .ref 79, .ref 80, .ref 81, .ref 82, .ref 83, .ref 84, .ref 85, fJ (f 32), fJ (f 33), .ref 86, .ref 87, fI (f 36), .ref 88, .ref 89, .ref 90, .ref 91, .ref 92, .ref 93])) ∧ cE h' 69 (.inl (.int, fA ci)) ∧ ci.length = 48 ∧ cE h' 70 (.inl (.int, fA [e0, e1, e2, e3, e4, e5])) ∧ cE h' 71 (.inl (.int, fA [y0, y1])) ∧ hfr [66, 69, 70, 71] h h') := by
  refine ik_Wk 1 (pc' := 1) (loc' := [some (.ref 66), some (fI 1), none, none]) (st' := [fI 1]) (h' := h) (cl' := 0) (sl' := 0) rfl ?_
  refine fw_i2l rfl (by omega) (by omega) ?_
  refine fw_lc (z := 0) rfl (by decide) ?_
  refine fw_lc (z := 1) rfl (by decide) ?_
  refine fw_call 127 3 3 [fJ 1, fJ 0, fJ 1] [] rfl rfl rfl (by decide) rfl rfl (fw_sta hl rfl (by decide)) (cr_in (v := 1) (a := 0) (b := 1) (by omega) (by omega) (by omega)  hl) ?_
  rintro _ h_584 (⟨rfl, p_584_0, F_584⟩ | ⟨rfl, p_584_0, F_584⟩)
  · have k_584 := F_584.1.trans hl
    have fr_584 := hfr_c (hfr_refl [66, 69, 70, 71] h) F_584 (by decide)
    have g_584_66 := (F_584.2 66 (by decide +kernel)).trans h66
    have g_584_69 := (F_584.2 69 (by decide +kernel)).trans h69
    have g_584_70 := (F_584.2 70 (by decide +kernel)).trans h70
    have g_584_71 := (F_584.2 71 (by decide +kernel)).trans h71
    have g_584_92 := (F_584.2 92 (by decide +kernel)).trans h92
    have g_584_93 := (F_584.2 93 (by decide +kernel)).trans h93
    refine ik_Wk 0 (pc' := 7) (loc' := [some (.ref 66), some (fI 1), none, none]) (st' := [fI 1]) (h' := h_584) (cl' := 0) (sl' := 0) rfl ?_
    refine fw_if_ne rfl rfl (by omega) (by omega) (fun hc1 => absurd hc1 (by omega)) (fun hc1 => ?_)
    refine ik_Wk 1 (pc' := 14) (loc' := [some (.ref 66), some (fI 1), none, none]) (st' := [.ref 66]) (h' := h_584) (cl' := 0) (sl' := 0) rfl ?_
    refine fw_gf rfl rfl g_584_66 rfl ?_
    refine ik_Wk 1 (pc' := 18) (loc' := [some (.ref 66), some (fI 1), none, none]) (st' := [fI 1, .ref 93]) (h' := h_584) (cl' := 0) (sl' := 0) rfl ?_
    refine fx_bbl (z := 1) rfl g_584_93 (by decide) (Nat.le_of_ble_eq_true rfl) (by decide) ?_
    refine ik_Wk 0 (pc' := 19) (loc' := [some (.ref 66), some (fI 1), none, none]) (st' := [fI 1]) (h' := h_584) (cl' := 0) (sl' := 0) rfl ?_
    refine fw_if_ne rfl rfl (by omega) (by omega) (fun hc2 => absurd hc2 (by omega)) (fun hc2 => ?_)
    refine fw_bi rfl (by decide) ?_
    refine ik_Wk 1 (pc' := 28) (loc' := [some (.ref 66), some (fI 1), none, none]) (st' := [fI 1, fI 80]) (h' := h_584) (cl' := 0) (sl' := 0) rfl ?_
    refine fw_mul rfl ?_
    refine ik_Wk 3 (pc' := 32) (loc' := [some (.ref 66), some (fI 1), some (fI 80), some (fI 0)]) (st' := []) (h' := h_584) (cl' := 0) (sl' := 0) rfl ?_
    exact rp_goBack1L (f := f) (s := s) (s2 := s2) (t0 := t0) (t1 := t1) (e0 := e0) (e1 := e1) (e2 := e2) (e3 := e3) (e4 := e4) (e5 := e5) (y0 := y0) (y1 := y1) (m2 := m2) (d2 := d2) (ka := ka) (pa := pa) (fa := fa) (kb := kb) (pb := pb) (fb := fb) (xa := xa) (xb := xb) (mi := mi) (sd := sd) (ch := ch) (im := im) (ci := ci) q0 q1  49 0 ch h_584 g_584_66 g_584_69 n69 g_584_70 g_584_71 g_584_92 n92 g_584_93 k_584 fr_584 (by omega) (fun j hj => absurd hj (by omega)) (by omega)
  · have k_584 := F_584.1.trans hl
    have fr_584 := hfr_c (hfr_refl [66, 69, 70, 71] h) F_584 (by decide)
    have g_584_66 := (F_584.2 66 (by decide +kernel)).trans h66
    have g_584_69 := (F_584.2 69 (by decide +kernel)).trans h69
    have g_584_70 := (F_584.2 70 (by decide +kernel)).trans h70
    have g_584_71 := (F_584.2 71 (by decide +kernel)).trans h71
    have g_584_92 := (F_584.2 92 (by decide +kernel)).trans h92
    have g_584_93 := (F_584.2 93 (by decide +kernel)).trans h93
    omega

theorem rp_goBack1N {h : List ik_E} {f : Nat → Int} {t0 : Int} {t1 : Int}  (h66 : cE h 66 (.inr (10, [fI (f 0), .ref 67, .ref 68, .ref 69, fI (f 4), .ref 70, .ref 71, fI (f 7), fI (f 8), .ref 72, fI (f 10), fI (f 11), fI (f 12), fJ (f 13), fI (f 14), fI (f 15), fI (f 16), fI (f 17), .ref 73, .ref 74, .ref 75, .ref 76, .ref 77, .ref 78, fI (f 24), .ref 79, .ref 80, .ref 81, .ref 82, .ref 83, .ref 84, .ref 85, fJ (f 32), fJ (f 33), .ref 86, .ref 87, fI (f 36), .ref 88, .ref 89, .ref 90, .ref 91, .ref 92, .ref 93]))) (h93 : cE h 93 (.inl (.boolean, fA [t0, 0]))) (hl : h.length = 94) : ik_F 210 [.ref 66, fI 1] h (fun rv h' => rv = [fI (-1000000003)] ∧ hfr [] h h') := by
  refine ik_Wk 1 (pc' := 1) (loc' := [some (.ref 66), some (fI 1), none, none]) (st' := [fI 1]) (h' := h) (cl' := 0) (sl' := 0) rfl ?_
  refine fw_i2l rfl (by omega) (by omega) ?_
  refine fw_lc (z := 0) rfl (by decide) ?_
  refine fw_lc (z := 1) rfl (by decide) ?_
  refine fw_call 127 3 3 [fJ 1, fJ 0, fJ 1] [] rfl rfl rfl (by decide) rfl rfl (fw_sta hl rfl (by decide)) (cr_in (v := 1) (a := 0) (b := 1) (by omega) (by omega) (by omega)  hl) ?_
  rintro _ h_585 (⟨rfl, p_585_0, F_585⟩ | ⟨rfl, p_585_0, F_585⟩)
  · have k_585 := F_585.1.trans hl
    have fr_585 := hfr_c (hfr_refl [] h) F_585 (by decide)
    have g_585_66 := (F_585.2 66 (by decide +kernel)).trans h66
    have g_585_93 := (F_585.2 93 (by decide +kernel)).trans h93
    refine ik_Wk 0 (pc' := 7) (loc' := [some (.ref 66), some (fI 1), none, none]) (st' := [fI 1]) (h' := h_585) (cl' := 0) (sl' := 0) rfl ?_
    refine fw_if_ne rfl rfl (by omega) (by omega) (fun hc1 => absurd hc1 (by omega)) (fun hc1 => ?_)
    refine ik_Wk 1 (pc' := 14) (loc' := [some (.ref 66), some (fI 1), none, none]) (st' := [.ref 66]) (h' := h_585) (cl' := 0) (sl' := 0) rfl ?_
    refine fw_gf rfl rfl g_585_66 rfl ?_
    refine ik_Wk 1 (pc' := 18) (loc' := [some (.ref 66), some (fI 1), none, none]) (st' := [fI 1, .ref 93]) (h' := h_585) (cl' := 0) (sl' := 0) rfl ?_
    refine fx_bbl (z := 1) rfl g_585_93 (by decide) (Nat.le_of_ble_eq_true rfl) (by decide) ?_
    refine ik_Wk 0 (pc' := 19) (loc' := [some (.ref 66), some (fI 1), none, none]) (st' := [fI 0]) (h' := h_585) (cl' := 0) (sl' := 0) rfl ?_
    refine fw_if_ne rfl rfl (by omega) (by omega) (fun hc2 => ?_) (fun hc2 => absurd hc2 (by omega))
    refine fw_ld (-1000000003) rfl rfl (by decide) ?_
    exact ik_Wret rfl rfl ⟨_, _, rfl, rfl, rfl, rfl, ⟨rfl, fr_585⟩⟩
  · have k_585 := F_585.1.trans hl
    have fr_585 := hfr_c (hfr_refl [] h) F_585 (by decide)
    have g_585_66 := (F_585.2 66 (by decide +kernel)).trans h66
    have g_585_93 := (F_585.2 93 (by decide +kernel)).trans h93
    omega

theorem cp_keepE {h : List ik_E} {i : Int} (q0 : -2147483648 ≤ i ∧ i < 2147483648) (q1 : i < 0 ∨ 1 < i) (h0 : cE h 0 (.inr (9, [.ref 1, .ref 7, .ref 14, .ref 17, .ref 45, .ref 51, .ref 54, .ref 57]))) (h57 : cE h 57 (.inl (.object "SlowerCork$Image", [.ref 58, .ref 62]))) (hl : h.length = 94) : ik_F 119 [.ref 0, fI i] h (fun rv h' => rv = [fI (-1000000001)] ∧ hfr [] h h') := by
  refine ik_Wk 2 (pc' := 2) (loc' := [some (.ref 0), some (fI i)]) (st' := [fI i, .ref 0]) (h' := h) (cl' := 0) (sl' := 0) rfl ?_
  refine ik_Wc 124 2 0 [.ref 0, fI i] [] rfl rfl rfl (by decide) rfl rfl (fw_rec hl rfl h0 rfl (by decide)) ?_
  refine ik_Wk 0 (pc' := 0) (loc' := [some (.ref 0), some (fI i)]) (st' := []) (h' := h) (cl' := 0) (sl' := 0) rfl ?_
  refine ik_Wk 1 (pc' := 1) (loc' := [some (.ref 0), some (fI i)]) (st' := [fI i]) (h' := h) (cl' := 0) (sl' := 0) rfl ?_
  refine fw_if_lt rfl rfl (by omega) (by omega) (fun hc1 => ?_) (fun hc1 => ?_)
  · refine ik_Wk 1 (pc' := 18) (loc' := [some (.ref 0), some (fI i)]) (st' := [fI 0]) (h' := h) (cl' := 0) (sl' := 0) rfl ?_
    refine ik_Wret rfl rfl ⟨_, _, rfl, rfl, ?_⟩
    refine ik_Wk 0 (pc' := 5) (loc' := [some (.ref 0), some (fI i)]) (st' := [fI 0]) (h' := h) (cl' := 0) (sl' := 0) rfl ?_
    refine fw_if_ne rfl rfl (by omega) (by omega) (fun hc2 => ?_) (fun hc2 => absurd hc2 (by omega))
    refine fw_ld (-1000000001) rfl rfl (by decide) ?_
    exact ik_Wret rfl rfl ⟨_, _, rfl, rfl, rfl, rfl, ⟨rfl, (hfr_refl [] h)⟩⟩
  · refine ik_Wk 2 (pc' := 6) (loc' := [some (.ref 0), some (fI i)]) (st' := [.ref 0, fI i]) (h' := h) (cl' := 0) (sl' := 0) rfl ?_
    refine fw_gf rfl rfl h0 rfl ?_
    refine fx_aln (L := 2) rfl h57 (rfl : [(.ref 58 : Value), (.ref 62 : Value)].length = 2) (by decide) ?_
    refine fw_ic_ge rfl rfl (by omega) (by omega) (by omega) (by omega) (fun hc3 => ?_) (fun hc3 => absurd hc3 (by omega))
    refine ik_Wk 1 (pc' := 18) (loc' := [some (.ref 0), some (fI i)]) (st' := [fI 0]) (h' := h) (cl' := 0) (sl' := 0) rfl ?_
    refine ik_Wret rfl rfl ⟨_, _, rfl, rfl, ?_⟩
    refine ik_Wk 0 (pc' := 5) (loc' := [some (.ref 0), some (fI i)]) (st' := [fI 0]) (h' := h) (cl' := 0) (sl' := 0) rfl ?_
    refine fw_if_ne rfl rfl (by omega) (by omega) (fun hc4 => ?_) (fun hc4 => absurd hc4 (by omega))
    refine fw_ld (-1000000001) rfl rfl (by decide) ?_
    exact ik_Wret rfl rfl ⟨_, _, rfl, rfl, rfl, rfl, ⟨rfl, (hfr_refl [] h)⟩⟩

theorem rp_keepE {h : List ik_E} {f : Nat → Int} {i : Int} (q0 : -2147483648 ≤ i ∧ i < 2147483648) (q1 : i < 0 ∨ 1 < i) (h66 : cE h 66 (.inr (10, [fI (f 0), .ref 67, .ref 68, .ref 69, fI (f 4), .ref 70, .ref 71, fI (f 7), fI (f 8), .ref 72, fI (f 10), fI (f 11), fI (f 12), fJ (f 13), fI (f 14), fI (f 15), fI (f 16), fI (f 17), .ref 73, .ref 74, .ref 75, .ref 76, .ref 77, .ref 78, fI (f 24), .ref 79, .ref 80, .ref 81, .ref 82, .ref 83, .ref 84, .ref 85, fJ (f 32), fJ (f 33), .ref 86, .ref 87, fI (f 36), .ref 88, .ref 89, .ref 90, .ref 91, .ref 92, .ref 93]))) (hl : h.length = 94) : ik_F 209 [.ref 66, fI i] h (fun rv h' => rv = [fI (-1000000001)] ∧ hfr [] h h') := by
  refine ik_Wk 1 (pc' := 1) (loc' := [some (.ref 66), some (fI i), none, none]) (st' := [fI i]) (h' := h) (cl' := 0) (sl' := 0) rfl ?_
  refine fw_i2l rfl (by omega) (by omega) ?_
  refine fw_lc (z := 0) rfl (by decide) ?_
  refine fw_lc (z := 1) rfl (by decide) ?_
  refine fw_call 127 3 3 [fJ i, fJ 0, fJ 1] [] rfl rfl rfl (by decide) rfl rfl (fw_sta hl rfl (by decide)) (cr_in (v := i) (a := 0) (b := 1) (by omega) (by omega) (by omega)  hl) ?_
  rintro _ h_586 (⟨rfl, p_586_0, F_586⟩ | ⟨rfl, p_586_0, F_586⟩)
  · have k_586 := F_586.1.trans hl
    have fr_586 := hfr_c (hfr_refl [] h) F_586 (by decide)
    have g_586_66 := (F_586.2 66 (by decide +kernel)).trans h66
    omega
  · have k_586 := F_586.1.trans hl
    have fr_586 := hfr_c (hfr_refl [] h) F_586 (by decide)
    have g_586_66 := (F_586.2 66 (by decide +kernel)).trans h66
    refine ik_Wk 0 (pc' := 7) (loc' := [some (.ref 66), some (fI i), none, none]) (st' := [fI 0]) (h' := h_586) (cl' := 0) (sl' := 0) rfl ?_
    refine fw_if_ne rfl rfl (by omega) (by omega) (fun hc1 => ?_) (fun hc1 => absurd hc1 (by omega))
    refine fw_ld (-1000000001) rfl rfl (by decide) ?_
    exact ik_Wret rfl rfl ⟨_, _, rfl, rfl, rfl, rfl, ⟨rfl, fr_586⟩⟩

theorem cp_goBackE {h : List ik_E} {i : Int} (q0 : -2147483648 ≤ i ∧ i < 2147483648) (q1 : i < 0 ∨ 1 < i) (h0 : cE h 0 (.inr (9, [.ref 1, .ref 7, .ref 14, .ref 17, .ref 45, .ref 51, .ref 54, .ref 57]))) (h57 : cE h 57 (.inl (.object "SlowerCork$Image", [.ref 58, .ref 62]))) (hl : h.length = 94) : ik_F 120 [.ref 0, fI i] h (fun rv h' => rv = [fI (-1000000001)] ∧ hfr [] h h') := by
  refine ik_Wk 2 (pc' := 2) (loc' := [some (.ref 0), some (fI i)]) (st' := [fI i, .ref 0]) (h' := h) (cl' := 0) (sl' := 0) rfl ?_
  refine ik_Wc 124 2 0 [.ref 0, fI i] [] rfl rfl rfl (by decide) rfl rfl (fw_rec hl rfl h0 rfl (by decide)) ?_
  refine ik_Wk 0 (pc' := 0) (loc' := [some (.ref 0), some (fI i)]) (st' := []) (h' := h) (cl' := 0) (sl' := 0) rfl ?_
  refine ik_Wk 1 (pc' := 1) (loc' := [some (.ref 0), some (fI i)]) (st' := [fI i]) (h' := h) (cl' := 0) (sl' := 0) rfl ?_
  refine fw_if_lt rfl rfl (by omega) (by omega) (fun hc1 => ?_) (fun hc1 => ?_)
  · refine ik_Wk 1 (pc' := 18) (loc' := [some (.ref 0), some (fI i)]) (st' := [fI 0]) (h' := h) (cl' := 0) (sl' := 0) rfl ?_
    refine ik_Wret rfl rfl ⟨_, _, rfl, rfl, ?_⟩
    refine ik_Wk 0 (pc' := 5) (loc' := [some (.ref 0), some (fI i)]) (st' := [fI 0]) (h' := h) (cl' := 0) (sl' := 0) rfl ?_
    refine fw_if_ne rfl rfl (by omega) (by omega) (fun hc2 => ?_) (fun hc2 => absurd hc2 (by omega))
    refine fw_ld (-1000000001) rfl rfl (by decide) ?_
    exact ik_Wret rfl rfl ⟨_, _, rfl, rfl, rfl, rfl, ⟨rfl, (hfr_refl [] h)⟩⟩
  · refine ik_Wk 2 (pc' := 6) (loc' := [some (.ref 0), some (fI i)]) (st' := [.ref 0, fI i]) (h' := h) (cl' := 0) (sl' := 0) rfl ?_
    refine fw_gf rfl rfl h0 rfl ?_
    refine fx_aln (L := 2) rfl h57 (rfl : [(.ref 58 : Value), (.ref 62 : Value)].length = 2) (by decide) ?_
    refine fw_ic_ge rfl rfl (by omega) (by omega) (by omega) (by omega) (fun hc3 => ?_) (fun hc3 => absurd hc3 (by omega))
    refine ik_Wk 1 (pc' := 18) (loc' := [some (.ref 0), some (fI i)]) (st' := [fI 0]) (h' := h) (cl' := 0) (sl' := 0) rfl ?_
    refine ik_Wret rfl rfl ⟨_, _, rfl, rfl, ?_⟩
    refine ik_Wk 0 (pc' := 5) (loc' := [some (.ref 0), some (fI i)]) (st' := [fI 0]) (h' := h) (cl' := 0) (sl' := 0) rfl ?_
    refine fw_if_ne rfl rfl (by omega) (by omega) (fun hc4 => ?_) (fun hc4 => absurd hc4 (by omega))
    refine fw_ld (-1000000001) rfl rfl (by decide) ?_
    exact ik_Wret rfl rfl ⟨_, _, rfl, rfl, rfl, rfl, ⟨rfl, (hfr_refl [] h)⟩⟩

theorem rp_goBackE {h : List ik_E} {f : Nat → Int} {i : Int} (q0 : -2147483648 ≤ i ∧ i < 2147483648) (q1 : i < 0 ∨ 1 < i) (h66 : cE h 66 (.inr (10, [fI (f 0), .ref 67, .ref 68, .ref 69, fI (f 4), .ref 70, .ref 71, fI (f 7), fI (f 8), .ref 72, fI (f 10), fI (f 11), fI (f 12), fJ (f 13), fI (f 14), fI (f 15), fI (f 16), fI (f 17), .ref 73, .ref 74, .ref 75, .ref 76, .ref 77, .ref 78, fI (f 24), .ref 79, .ref 80, .ref 81, .ref 82, .ref 83, .ref 84, .ref 85, fJ (f 32), fJ (f 33), .ref 86, .ref 87, fI (f 36), .ref 88, .ref 89, .ref 90, .ref 91, .ref 92, .ref 93]))) (hl : h.length = 94) : ik_F 210 [.ref 66, fI i] h (fun rv h' => rv = [fI (-1000000001)] ∧ hfr [] h h') := by
  refine ik_Wk 1 (pc' := 1) (loc' := [some (.ref 66), some (fI i), none, none]) (st' := [fI i]) (h' := h) (cl' := 0) (sl' := 0) rfl ?_
  refine fw_i2l rfl (by omega) (by omega) ?_
  refine fw_lc (z := 0) rfl (by decide) ?_
  refine fw_lc (z := 1) rfl (by decide) ?_
  refine fw_call 127 3 3 [fJ i, fJ 0, fJ 1] [] rfl rfl rfl (by decide) rfl rfl (fw_sta hl rfl (by decide)) (cr_in (v := i) (a := 0) (b := 1) (by omega) (by omega) (by omega)  hl) ?_
  rintro _ h_587 (⟨rfl, p_587_0, F_587⟩ | ⟨rfl, p_587_0, F_587⟩)
  · have k_587 := F_587.1.trans hl
    have fr_587 := hfr_c (hfr_refl [] h) F_587 (by decide)
    have g_587_66 := (F_587.2 66 (by decide +kernel)).trans h66
    omega
  · have k_587 := F_587.1.trans hl
    have fr_587 := hfr_c (hfr_refl [] h) F_587 (by decide)
    have g_587_66 := (F_587.2 66 (by decide +kernel)).trans h66
    refine ik_Wk 0 (pc' := 7) (loc' := [some (.ref 66), some (fI i), none, none]) (st' := [fI 0]) (h' := h_587) (cl' := 0) (sl' := 0) rfl ?_
    refine fw_if_ne rfl rfl (by omega) (by omega) (fun hc1 => ?_) (fun hc1 => absurd hc1 (by omega))
    refine fw_ld (-1000000001) rfl rfl (by decide) ?_
    exact ik_Wret rfl rfl ⟨_, _, rfl, rfl, rfl, rfl, ⟨rfl, fr_587⟩⟩

end