/-! 38zv.images -/
noncomputable section
/-! drifts, mornings; images (written by wip/fx/u21.py) -/
theorem mi_out {xs : List Int} {k : Nat} (h : xs.length ≤ k) : xs.getD k 0 = 0 := by
  rw [List.getD_eq_getElem?_getD, List.getElem?_eq_none h]
  rfl
theorem mx_wy_next {wg wc we wg' wc' : List Int} {i : Int} {W : Int → List (Int × Int)} (h : ∀ x : Int, (0 : Int) ≤ x → x < i → mx_wy wg wc we x (W x)) (h5 : ∀ x : Int, (0 : Int) ≤ x → x < i → (W x).length ≤ 5) (hi : (0 : Int) ≤ i ∧ i < (12 : Int)) (hl : we.length = (12 : Nat)) (hat : mx_at (5 * i.toNat) (W i) wg' wc' (W i).length) (o1 : mx_out (5 * i.toNat) (5 * i.toNat + 5) wg wg') (o2 : mx_out (5 * i.toNat) (5 * i.toNat + 5) wc wc') : ∀ x : Int, (0 : Int) ≤ x → x < i + 1 → mx_wy wg' wc' (we.set i.toNat (5 * i + ((W i).length : Int))) x (W x) := by
  intro x h0 h1
  by_cases q : x = i
  · subst q
    refine ⟨?_, hat⟩
    rw [fz_getD_set, if_pos ⟨rfl, by omega⟩]
  · have r := h x h0 (by omega)
    have l5 := h5 x h0 (by omega)
    refine ⟨?_, fun k hk => ?_⟩
    · rw [fz_getD_set, if_neg (fun w => q (by omega))]; exact r.1
    · rw [o1 _ (by omega), o2 _ (by omega)]; exact r.2 k hk
/-- entries one behind another -/
def mi_w : List Int → Nat → List Int → List Int
  | im, _, [] => im
  | im, o, v :: vs => mi_w (im.set o v) (o + 1) vs
theorem mi_w_len : ∀ (vs im : List Int) (o : Nat), (mi_w im o vs).length = im.length := by
  intro vs
  induction vs with
  | nil => intro im o; rfl
  | cons v vs ih => intro im o; show (mi_w (im.set o v) (o + 1) vs).length = _; rw [ih, List.length_set]
theorem mi_w_get : ∀ (vs im : List Int) (o k : Nat), o + vs.length ≤ im.length → (mi_w im o vs).getD k 0 = if o ≤ k ∧ k < o + vs.length then vs.getD (k - o) 0 else im.getD k 0 := by
  intro vs
  induction vs with
  | nil => intro im o k h; rw [if_neg (by simp only [List.length_nil]; omega)]; rfl
  | cons v vs ih =>
    intro im o k h
    simp only [List.length_cons] at h ⊢
    show (mi_w (im.set o v) (o + 1) vs).getD k 0 = _
    rw [ih (im.set o v) (o + 1) k (by rw [List.length_set]; omega), fz_getD_set]
    by_cases q : k = o
    · subst q
      rw [if_neg (by omega), if_pos ⟨rfl, by omega⟩, if_pos (by omega), Nat.sub_self]
      rfl
    · by_cases w : o + 1 ≤ k ∧ k < o + 1 + vs.length
      · rw [if_pos w, if_pos (by omega), show k - o = (k - (o + 1)) + 1 by omega]
        rfl
      · rw [if_neg w, if_neg (fun z => q z.1), if_neg (by omega)]
/-- the reference's image at o -/
def mi_ok (im : List Int) (o : Nat) (ch : List Int) (ka pa fa kb pb fb xa xb mi : Int) (s : Nat) (sd : Int) : Prop := (∀ k : Nat, k < 48 → im.getD (o + k) 0 = ch.getD k 0) ∧ ∀ k : Nat, k < 11 → im.getD (o + 48 + k) 0 = ([ka, pa, fa, kb, pb, fb, xa, xb, mi, ((s : Nat) : Int), sd] : List Int).getD k 0
theorem cp_drift {h : List ik_E} {pl : Int} {mi : Int} {sd : Int} {ka : Int} {pa : Int} {fa : Int} {kb : Int} {pb : Int} {fb : Int} {xa : Int} {xb : Int} {s : Nat} {cn : List Int} {go : List Int} {ch : List Int} {n : Int} {lo : Int} {wg : List Int} {wc : List Int} {we : List Int} (q0 : 0 ≤ pl ∧ pl ≤ 12) (q1 : s < 4096) (q2 : 0 ≤ sd ∧ sd < 2147483648) (q3 : 0 ≤ mi ∧ mi < 1999999000) (q4 : ∀ x : Int, (0 : Int) ≤ x → x < pl - 1 → mx_wy wg wc we x (mx_w cn go ch s x)) (q5 : ∀ x : Int, (0 : Int) ≤ x → x < pl - 1 → mx_ok pl (mx_w cn go ch s x)) (q6 : (0 : Int) ≤ ka ∧ ka ≤ (2 : Int)) (q7 : (0 : Int) ≤ kb ∧ kb ≤ (2 : Int)) (q8 : (0 : Int) ≤ fa ∧ fa ≤ (30 : Int)) (q9 : (0 : Int) ≤ fb ∧ fb ≤ (30 : Int)) (q10 : (1 : Int) < pl → (0 : Int) ≤ pa ∧ pa < pl - 1) (q11 : (1 : Int) < pl → (0 : Int) ≤ pb ∧ pb < pl - 1) (q12 : (1 : Int) < pl → (fa ≤ mi → (0 : Int) ≤ xa) ∧ (fb ≤ mi → (0 : Int) ≤ xb) ∧ ((-1 : Int) ≤ xa ∧ xa < pl) ∧ ((-1 : Int) ≤ xb ∧ xb < pl)) (q13 : (-2147483648 : Int) ≤ n ∧ n < (2147483648 : Int)) (h0 : cE h 0 (.inr (9, [.ref 1, .ref 7, .ref 14, .ref 17, .ref 45, .ref 51, .ref 54, .ref 57]))) (h7 : cE h 7 (.inr (0, [fI pl, fI ((s : Nat) : Int), fI lo, .ref 8, .ref 9, .ref 10, .ref 11, .ref 12, .ref 13]))) (h11 : cE h 11 (.inl (.int, fA wg))) (n11 : wg.length = (60 : Nat)) (h12 : cE h 12 (.inl (.int, fA wc))) (n12 : wc.length = (60 : Nat)) (h13 : cE h 13 (.inl (.int, fA we))) (n13 : we.length = (12 : Nat)) (h14 : cE h 14 (.inr (1, [.ref 7, .ref 15, .ref 16, fI mi, fJ sd]))) (h15 : cE h 15 (.inl (.int, fA [ka, pa, fa, kb, pb, fb]))) (h16 : cE h 16 (.inl (.int, fA [xa, xb]))) (hl : h.length = (94 : Nat)) : ik_F 111 [.ref 0, fI n] h (fun rv h_q => (rv = [fI (mx_en (pl - 1) (mx_dr (fun x => mx_w cn go ch s x) (pl - 1) ka pa fa kb pb fb n.toNat xa xb mi sd).1 (mx_dr (fun x => mx_w cn go ch s x) (pl - 1) ka pa fa kb pb fb n.toNat xa xb mi sd).2.1)] ∧ cE h_q 14 (.inr (1, [.ref 7, .ref 15, .ref 16, fI ((mx_dr (fun x => mx_w cn go ch s x) (pl - 1) ka pa fa kb pb fb n.toNat xa xb mi sd).2.2.1), fJ ((mx_dr (fun x => mx_w cn go ch s x) (pl - 1) ka pa fa kb pb fb n.toNat xa xb mi sd).2.2.2)])) ∧ cE h_q 16 (.inl (.int, fA [(mx_dr (fun x => mx_w cn go ch s x) (pl - 1) ka pa fa kb pb fb n.toNat xa xb mi sd).1, (mx_dr (fun x => mx_w cn go ch s x) (pl - 1) ka pa fa kb pb fb n.toNat xa xb mi sd).2.1])) ∧ (((1 : Int) ≤ n ∧ n ≤ (200 : Int)) ∧ (1 : Int) < pl) ∧ hfr [14, 16] h h_q) ∨ (rv = [fI (an_n 200 n)] ∧ cE h_q 14 (.inr (1, [.ref 7, .ref 15, .ref 16, fI mi, fJ sd])) ∧ cE h_q 16 (.inl (.int, fA [xa, xb])) ∧ (¬ (((1 : Int) ≤ n ∧ n ≤ (200 : Int)) ∧ (1 : Int) < pl)) ∧ hfr [14, 16] h h_q)) := by
  refine ik_Wk 2 (pc_q := 2) (loc_q := [some (.ref 0), some (fI n)]) (st_q := [fI 1, fI n]) (h_q := h) (cl_q := 0) (sl_q := 0) rfl ?_
  refine fw_ic_lt rfl rfl (by omega) (by omega) (by omega) (by omega) (fun hc1 => ?_) (fun hc1 => ?_)
  · refine fw_ld (-1000000002) rfl rfl (by decide +kernel) ?_
    exact ik_Wret rfl rfl ⟨_, _, rfl, rfl, rfl, rfl, Or.inr ⟨(congrArg (fun z => [fI z]) (by unfold an_n; (repeat' split) <;> first | rfl | omega)), h14, h16, (by omega), (hfr_refl [14, 16] h)⟩⟩
  · refine ik_Wk 1 (pc_q := 6) (loc_q := [some (.ref 0), some (fI n)]) (st_q := [fI n]) (h_q := h) (cl_q := 0) (sl_q := 0) rfl ?_
    refine fw_si rfl (by decide +kernel) ?_
    refine fw_ic_le rfl rfl (by omega) (by omega) (by omega) (by omega) (fun hc2 => ?_) (fun hc2 => ?_)
    · refine ik_Wk 1 (pc_q := 16) (loc_q := [some (.ref 0), some (fI n)]) (st_q := [.ref 0]) (h_q := h) (cl_q := 0) (sl_q := 0) rfl ?_
      refine fw_gf rfl rfl h0 rfl ?_
      refine ik_Wc 7 1 0 [.ref 7] [] rfl rfl rfl (by decide +kernel) rfl rfl (fw_rec hl rfl h7 rfl (Nat.le_of_ble_eq_true rfl)) ?_
      refine ik_Wk 0 (pc_q := 0) (loc_q := [some (.ref 7)]) (st_q := []) (h_q := h) (cl_q := 0) (sl_q := 0) rfl ?_
      refine ik_Wk 1 (pc_q := 1) (loc_q := [some (.ref 7)]) (st_q := [.ref 7]) (h_q := h) (cl_q := 0) (sl_q := 0) rfl ?_
      refine fw_gf rfl rfl h7 rfl ?_
      refine ik_Wk 1 (pc_q := 5) (loc_q := [some (.ref 7)]) (st_q := [fI 1, fI pl]) (h_q := h) (cl_q := 0) (sl_q := 0) rfl ?_
      refine fw_ic_le rfl rfl (by omega) (by omega) (by omega) (by omega) (fun hc3 => ?_) (fun hc3 => ?_)
      · refine ik_Wk 1 (pc_q := 13) (loc_q := [some (.ref 7)]) (st_q := [fI 0]) (h_q := h) (cl_q := 0) (sl_q := 0) rfl ?_
        refine ik_Wret rfl rfl ⟨_, _, rfl, rfl, ?_⟩
        refine ik_Wk 0 (pc_q := 22) (loc_q := [some (.ref 0), some (fI n)]) (st_q := [fI 0]) (h_q := h) (cl_q := 0) (sl_q := 0) rfl ?_
        refine fw_if_ne rfl rfl (by decide +kernel) (by decide +kernel) (fun hc4 => ?_) (fun hc4 => absurd hc4 (by decide +kernel))
        refine fw_ld (-1000000003) rfl rfl (by decide +kernel) ?_
        exact ik_Wret rfl rfl ⟨_, _, rfl, rfl, rfl, rfl, Or.inr ⟨(congrArg (fun z => [fI z]) (by unfold an_n; (repeat' split) <;> first | rfl | omega)), h14, h16, (by omega), (hfr_refl [14, 16] h)⟩⟩
      · refine ik_Wk 2 (pc_q := 13) (loc_q := [some (.ref 7)]) (st_q := [fI 1]) (h_q := h) (cl_q := 0) (sl_q := 0) rfl ?_
        refine ik_Wret rfl rfl ⟨_, _, rfl, rfl, ?_⟩
        refine ik_Wk 0 (pc_q := 22) (loc_q := [some (.ref 0), some (fI n)]) (st_q := [fI 1]) (h_q := h) (cl_q := 0) (sl_q := 0) rfl ?_
        refine fw_if_ne rfl rfl (by decide +kernel) (by decide +kernel) (fun hc5 => absurd hc5 (by decide +kernel)) (fun hc5 => ?_)
        refine ik_Wk 1 (pc_q := 29) (loc_q := [some (.ref 0), some (fI n)]) (st_q := [.ref 0]) (h_q := h) (cl_q := 0) (sl_q := 0) rfl ?_
        refine fw_gf rfl rfl h0 rfl ?_
        refine ik_Wk 1 (pc_q := 33) (loc_q := [some (.ref 0), some (fI n)]) (st_q := [fI n, .ref 14]) (h_q := h) (cl_q := 0) (sl_q := 0) rfl ?_
        have hx1 : 1 < pl := by omega
        have hxa := q10 hx1
        have hxb := q11 hx1
        have hxx := q12 hx1
        refine fw_call 25 2 0 [.ref 14, fI n] [] rfl rfl rfl (Nat.le_of_ble_eq_true rfl) rfl rfl (fw_rec hl rfl h14 rfl (Nat.le_of_ble_eq_true rfl)) (cs_drift (pl := pl) (mi := mi) (sd := sd) (ka := ka) (pa := pa) (fa := fa) (kb := kb) (pb := pb) (fb := fb) (xa := xa) (xb := xb) (s := s) (n := n) (lo := lo) (wg := wg) (wc := wc) (we := we) (by omega) (by omega) (by omega) (by omega) q4 q5 (by omega) (by omega) (by omega) (by omega) (by omega) (by omega) (by omega) (by omega) (by omega) (by omega) (by omega) (by omega) h7 h11 n11 h12 n12 h13 n13 h14 h15 h16 hl) ?_
        rintro _ h_497 ⟨rfl, e_497_14, e_497_16, F_497⟩
        have k_497 : cL h_497 := F_497.1.trans hl
        have fr_497 := hfr_cb (hfr_refl [14, 16] h) F_497 rfl
        have g_497_0 := (hfr_g F_497 0 rfl).trans h0
        have g_497_7 := (hfr_g F_497 7 rfl).trans h7
        have g_497_11 := (hfr_g F_497 11 rfl).trans h11
        have g_497_12 := (hfr_g F_497 12 rfl).trans h12
        have g_497_13 := (hfr_g F_497 13 rfl).trans h13
        have g_497_15 := (hfr_g F_497 15 rfl).trans h15
        have g_497_14 : cE h_497 14 (.inr (1, [.ref 7, .ref 15, .ref 16, fI ((mx_dr (fun x => mx_w cn go ch s x) (pl - 1) ka pa fa kb pb fb n.toNat xa xb mi sd).2.2.1), fJ ((mx_dr (fun x => mx_w cn go ch s x) (pl - 1) ka pa fa kb pb fb n.toNat xa xb mi sd).2.2.2)])) := e_497_14
        have g_497_16 : cE h_497 16 (.inl (.int, fA [(mx_dr (fun x => mx_w cn go ch s x) (pl - 1) ka pa fa kb pb fb n.toNat xa xb mi sd).1, (mx_dr (fun x => mx_w cn go ch s x) (pl - 1) ka pa fa kb pb fb n.toNat xa xb mi sd).2.1])) := e_497_16
        refine ik_Wk 0 (pc_q := 36) (loc_q := [some (.ref 0), some (fI n)]) (st_q := []) (h_q := h_497) (cl_q := 0) (sl_q := 0) rfl ?_
        have zi := mx_dr_in (W := (fun x => mx_w cn go ch s x)) (pl := pl) (ka := ka) (kb := kb) (pa := pa) (pb := pb) (fa := fa) (fb := fb) q5 (by omega) (by omega) n.toNat xa xb mi sd (by omega) (by omega) (by omega) (by omega) (by omega)
        refine ik_Wk 1 (pc_q := 37) (loc_q := [some (.ref 0), some (fI n)]) (st_q := [.ref 0]) (h_q := h_497) (cl_q := 0) (sl_q := 0) rfl ?_
        refine fw_gf rfl rfl g_497_0 rfl ?_
        refine ik_Wc 24 1 0 [.ref 14] [] rfl rfl rfl (by decide +kernel) rfl rfl (fw_rec k_497 rfl g_497_14 rfl (Nat.le_of_ble_eq_true rfl)) ?_
        refine ik_Wk 0 (pc_q := 0) (loc_q := [some (.ref 14)]) (st_q := []) (h_q := h_497) (cl_q := 0) (sl_q := 0) rfl ?_
        refine ik_Wk 1 (pc_q := 1) (loc_q := [some (.ref 14)]) (st_q := [.ref 14]) (h_q := h_497) (cl_q := 0) (sl_q := 0) rfl ?_
        refine fw_gf rfl rfl g_497_14 rfl ?_
        refine ik_Wk 1 (pc_q := 5) (loc_q := [some (.ref 14)]) (st_q := [fI 0, .ref 16]) (h_q := h_497) (cl_q := 0) (sl_q := 0) rfl ?_
        refine fw_ial (z := 0) rfl g_497_16 (by decide +kernel) (Nat.le_of_ble_eq_true rfl) (by decide +kernel) ?_
        refine ik_Wk 0 (pc_q := 6) (loc_q := [some (.ref 14)]) (st_q := [fI ((mx_dr (fun x => mx_w cn go ch s x) (pl - 1) ka pa fa kb pb fb n.toNat xa xb mi sd).1)]) (h_q := h_497) (cl_q := 0) (sl_q := 0) rfl ?_
        refine ik_Wk 1 (pc_q := 7) (loc_q := [some (.ref 14)]) (st_q := [.ref 14, fI ((mx_dr (fun x => mx_w cn go ch s x) (pl - 1) ka pa fa kb pb fb n.toNat xa xb mi sd).1)]) (h_q := h_497) (cl_q := 0) (sl_q := 0) rfl ?_
        refine fw_gf rfl rfl g_497_14 rfl ?_
        refine ik_Wc 2 1 0 [.ref 7] [fI ((mx_dr (fun x => mx_w cn go ch s x) (pl - 1) ka pa fa kb pb fb n.toNat xa xb mi sd).1)] rfl rfl rfl (by decide +kernel) rfl rfl (fw_rec k_497 rfl g_497_7 rfl (Nat.le_of_ble_eq_true rfl)) ?_
        refine ik_Wk 0 (pc_q := 0) (loc_q := [some (.ref 7)]) (st_q := []) (h_q := h_497) (cl_q := 0) (sl_q := 0) rfl ?_
        refine ik_Wk 1 (pc_q := 1) (loc_q := [some (.ref 7)]) (st_q := [.ref 7]) (h_q := h_497) (cl_q := 0) (sl_q := 0) rfl ?_
        refine fw_gf rfl rfl g_497_7 rfl ?_
        refine ik_Wk 1 (pc_q := 5) (loc_q := [some (.ref 7)]) (st_q := [fI 1, fI pl]) (h_q := h_497) (cl_q := 0) (sl_q := 0) rfl ?_
        refine fw_sub rfl ?_
        refine ik_Wret rfl rfl ⟨_, _, rfl, rfl, ?_⟩
        refine ik_Wk 0 (pc_q := 13) (loc_q := [some (.ref 14)]) (st_q := [fI (pl - 1), fI ((mx_dr (fun x => mx_w cn go ch s x) (pl - 1) ka pa fa kb pb fb n.toNat xa xb mi sd).1)]) (h_q := h_497) (cl_q := 0) (sl_q := 0) rfl ?_
        refine fw_ic_ne rfl rfl (by omega) (by omega) (by omega) (by omega) (fun hc6 => ?_) (fun hc6 => ?_)
        · refine ik_Wk 3 (pc_q := 22) (loc_q := [some (.ref 14)]) (st_q := [.ref 14, fI 1]) (h_q := h_497) (cl_q := 0) (sl_q := 0) rfl ?_
          refine fw_gf rfl rfl g_497_14 rfl ?_
          refine ik_Wk 1 (pc_q := 26) (loc_q := [some (.ref 14)]) (st_q := [fI 1, .ref 16, fI 1]) (h_q := h_497) (cl_q := 0) (sl_q := 0) rfl ?_
          refine fw_ial (z := 1) rfl g_497_16 (by decide +kernel) (Nat.le_of_ble_eq_true rfl) (by decide +kernel) ?_
          refine ik_Wk 0 (pc_q := 27) (loc_q := [some (.ref 14)]) (st_q := [fI ((mx_dr (fun x => mx_w cn go ch s x) (pl - 1) ka pa fa kb pb fb n.toNat xa xb mi sd).2.1), fI 1]) (h_q := h_497) (cl_q := 0) (sl_q := 0) rfl ?_
          refine ik_Wk 1 (pc_q := 28) (loc_q := [some (.ref 14)]) (st_q := [.ref 14, fI ((mx_dr (fun x => mx_w cn go ch s x) (pl - 1) ka pa fa kb pb fb n.toNat xa xb mi sd).2.1), fI 1]) (h_q := h_497) (cl_q := 0) (sl_q := 0) rfl ?_
          refine fw_gf rfl rfl g_497_14 rfl ?_
          refine ik_Wc 2 1 0 [.ref 7] [fI ((mx_dr (fun x => mx_w cn go ch s x) (pl - 1) ka pa fa kb pb fb n.toNat xa xb mi sd).2.1), fI 1] rfl rfl rfl (by decide +kernel) rfl rfl (fw_rec k_497 rfl g_497_7 rfl (Nat.le_of_ble_eq_true rfl)) ?_
          refine ik_Wk 0 (pc_q := 0) (loc_q := [some (.ref 7)]) (st_q := []) (h_q := h_497) (cl_q := 0) (sl_q := 0) rfl ?_
          refine ik_Wk 1 (pc_q := 1) (loc_q := [some (.ref 7)]) (st_q := [.ref 7]) (h_q := h_497) (cl_q := 0) (sl_q := 0) rfl ?_
          refine fw_gf rfl rfl g_497_7 rfl ?_
          refine ik_Wk 1 (pc_q := 5) (loc_q := [some (.ref 7)]) (st_q := [fI 1, fI pl]) (h_q := h_497) (cl_q := 0) (sl_q := 0) rfl ?_
          refine fw_sub rfl ?_
          refine ik_Wret rfl rfl ⟨_, _, rfl, rfl, ?_⟩
          refine ik_Wk 0 (pc_q := 34) (loc_q := [some (.ref 14)]) (st_q := [fI (pl - 1), fI ((mx_dr (fun x => mx_w cn go ch s x) (pl - 1) ka pa fa kb pb fb n.toNat xa xb mi sd).2.1), fI 1]) (h_q := h_497) (cl_q := 0) (sl_q := 0) rfl ?_
          refine fw_ic_ne rfl rfl (by omega) (by omega) (by omega) (by omega) (fun hc7 => ?_) (fun hc7 => ?_)
          · refine ik_Wk 2 (pc_q := 42) (loc_q := [some (.ref 14)]) (st_q := [fI 2, fI 1]) (h_q := h_497) (cl_q := 0) (sl_q := 0) rfl ?_
            refine fw_add rfl ?_
            refine ik_Wret rfl rfl ⟨_, _, rfl, rfl, ?_⟩
            refine ik_Wk 0 (pc_q := 43) (loc_q := [some (.ref 0), some (fI n)]) (st_q := [fI 3]) (h_q := h_497) (cl_q := 0) (sl_q := 0) rfl ?_
            exact ik_Wret rfl rfl ⟨_, _, rfl, rfl, rfl, rfl, Or.inl ⟨(congrArg (fun z => [fI z]) (by unfold mx_en; (repeat' split) <;> omega)), g_497_14, g_497_16, (by omega), fr_497⟩⟩
          · refine ik_Wk 1 (pc_q := 42) (loc_q := [some (.ref 14)]) (st_q := [fI 0, fI 1]) (h_q := h_497) (cl_q := 0) (sl_q := 0) rfl ?_
            refine fw_add rfl ?_
            refine ik_Wret rfl rfl ⟨_, _, rfl, rfl, ?_⟩
            refine ik_Wk 0 (pc_q := 43) (loc_q := [some (.ref 0), some (fI n)]) (st_q := [fI 1]) (h_q := h_497) (cl_q := 0) (sl_q := 0) rfl ?_
            exact ik_Wret rfl rfl ⟨_, _, rfl, rfl, rfl, rfl, Or.inl ⟨(congrArg (fun z => [fI z]) (by unfold mx_en; (repeat' split) <;> omega)), g_497_14, g_497_16, (by omega), fr_497⟩⟩
        · refine ik_Wk 2 (pc_q := 22) (loc_q := [some (.ref 14)]) (st_q := [.ref 14, fI 0]) (h_q := h_497) (cl_q := 0) (sl_q := 0) rfl ?_
          refine fw_gf rfl rfl g_497_14 rfl ?_
          refine ik_Wk 1 (pc_q := 26) (loc_q := [some (.ref 14)]) (st_q := [fI 1, .ref 16, fI 0]) (h_q := h_497) (cl_q := 0) (sl_q := 0) rfl ?_
          refine fw_ial (z := 1) rfl g_497_16 (by decide +kernel) (Nat.le_of_ble_eq_true rfl) (by decide +kernel) ?_
          refine ik_Wk 0 (pc_q := 27) (loc_q := [some (.ref 14)]) (st_q := [fI ((mx_dr (fun x => mx_w cn go ch s x) (pl - 1) ka pa fa kb pb fb n.toNat xa xb mi sd).2.1), fI 0]) (h_q := h_497) (cl_q := 0) (sl_q := 0) rfl ?_
          refine ik_Wk 1 (pc_q := 28) (loc_q := [some (.ref 14)]) (st_q := [.ref 14, fI ((mx_dr (fun x => mx_w cn go ch s x) (pl - 1) ka pa fa kb pb fb n.toNat xa xb mi sd).2.1), fI 0]) (h_q := h_497) (cl_q := 0) (sl_q := 0) rfl ?_
          refine fw_gf rfl rfl g_497_14 rfl ?_
          refine ik_Wc 2 1 0 [.ref 7] [fI ((mx_dr (fun x => mx_w cn go ch s x) (pl - 1) ka pa fa kb pb fb n.toNat xa xb mi sd).2.1), fI 0] rfl rfl rfl (by decide +kernel) rfl rfl (fw_rec k_497 rfl g_497_7 rfl (Nat.le_of_ble_eq_true rfl)) ?_
          refine ik_Wk 0 (pc_q := 0) (loc_q := [some (.ref 7)]) (st_q := []) (h_q := h_497) (cl_q := 0) (sl_q := 0) rfl ?_
          refine ik_Wk 1 (pc_q := 1) (loc_q := [some (.ref 7)]) (st_q := [.ref 7]) (h_q := h_497) (cl_q := 0) (sl_q := 0) rfl ?_
          refine fw_gf rfl rfl g_497_7 rfl ?_
          refine ik_Wk 1 (pc_q := 5) (loc_q := [some (.ref 7)]) (st_q := [fI 1, fI pl]) (h_q := h_497) (cl_q := 0) (sl_q := 0) rfl ?_
          refine fw_sub rfl ?_
          refine ik_Wret rfl rfl ⟨_, _, rfl, rfl, ?_⟩
          refine ik_Wk 0 (pc_q := 34) (loc_q := [some (.ref 14)]) (st_q := [fI (pl - 1), fI ((mx_dr (fun x => mx_w cn go ch s x) (pl - 1) ka pa fa kb pb fb n.toNat xa xb mi sd).2.1), fI 0]) (h_q := h_497) (cl_q := 0) (sl_q := 0) rfl ?_
          refine fw_ic_ne rfl rfl (by omega) (by omega) (by omega) (by omega) (fun hc8 => ?_) (fun hc8 => ?_)
          · refine ik_Wk 2 (pc_q := 42) (loc_q := [some (.ref 14)]) (st_q := [fI 2, fI 0]) (h_q := h_497) (cl_q := 0) (sl_q := 0) rfl ?_
            refine fw_add rfl ?_
            refine ik_Wret rfl rfl ⟨_, _, rfl, rfl, ?_⟩
            refine ik_Wk 0 (pc_q := 43) (loc_q := [some (.ref 0), some (fI n)]) (st_q := [fI 2]) (h_q := h_497) (cl_q := 0) (sl_q := 0) rfl ?_
            exact ik_Wret rfl rfl ⟨_, _, rfl, rfl, rfl, rfl, Or.inl ⟨(congrArg (fun z => [fI z]) (by unfold mx_en; (repeat' split) <;> omega)), g_497_14, g_497_16, (by omega), fr_497⟩⟩
          · refine ik_Wk 1 (pc_q := 42) (loc_q := [some (.ref 14)]) (st_q := [fI 0, fI 0]) (h_q := h_497) (cl_q := 0) (sl_q := 0) rfl ?_
            refine fw_add rfl ?_
            refine ik_Wret rfl rfl ⟨_, _, rfl, rfl, ?_⟩
            refine ik_Wk 0 (pc_q := 43) (loc_q := [some (.ref 0), some (fI n)]) (st_q := [fI 0]) (h_q := h_497) (cl_q := 0) (sl_q := 0) rfl ?_
            exact ik_Wret rfl rfl ⟨_, _, rfl, rfl, rfl, rfl, Or.inl ⟨(congrArg (fun z => [fI z]) (by unfold mx_en; (repeat' split) <;> omega)), g_497_14, g_497_16, (by omega), fr_497⟩⟩
    · refine fw_ld (-1000000002) rfl rfl (by decide +kernel) ?_
      exact ik_Wret rfl rfl ⟨_, _, rfl, rfl, rfl, rfl, Or.inr ⟨(congrArg (fun z => [fI z]) (by unfold an_n; (repeat' split) <;> first | rfl | omega)), h14, h16, (by omega), (hfr_refl [14, 16] h)⟩⟩

theorem rp_drift {h : List ik_E} {pl : Int} {mi : Int} {sd : Int} {ka : Int} {pa : Int} {fa : Int} {kb : Int} {pb : Int} {fb : Int} {xa : Int} {xb : Int} {s : Nat} {cn : List Int} {go : List Int} {ch : List Int} {n : Int} {f : Nat → Int} {gt : List Int} {gd : List Int} (q0 : 0 ≤ pl ∧ pl ≤ 12) (q1 : s < 4096) (q2 : 0 ≤ sd ∧ sd < 2147483648) (q3 : 0 ≤ mi ∧ mi < 1999999000) (q4 : ∀ x : Int, (0 : Int) ≤ x → x < pl - 1 → 1 ≤ cn.getD x.toNat 0 ∧ ∀ j : Int, 4 * x ≤ j → j < 4 * x + cn.getD x.toNat 0 → 0 ≤ ch.getD j.toNat 0 ∧ ch.getD j.toNat 0 ≤ 100) (q5 : ∀ x : Int, (0 : Int) ≤ x → x < pl → 0 ≤ cn.getD x.toNat 0 ∧ cn.getD x.toNat 0 ≤ 4) (q6 : ∀ x : Int, (0 : Int) ≤ x → x < pl - 1 → mx_ok pl (mx_w cn go ch s x)) (q7 : (0 : Int) ≤ ka ∧ ka ≤ (2 : Int)) (q8 : (0 : Int) ≤ kb ∧ kb ≤ (2 : Int)) (q9 : (0 : Int) ≤ fa ∧ fa ≤ (30 : Int)) (q10 : (0 : Int) ≤ fb ∧ fb ≤ (30 : Int)) (q11 : (1 : Int) < pl → (0 : Int) ≤ pa ∧ pa < pl - 1) (q12 : (1 : Int) < pl → (0 : Int) ≤ pb ∧ pb < pl - 1) (q13 : (1 : Int) < pl → (fa ≤ mi → (0 : Int) ≤ xa) ∧ (fb ≤ mi → (0 : Int) ≤ xb) ∧ ((-1 : Int) ≤ xa ∧ xa < pl) ∧ ((-1 : Int) ≤ xb ∧ xb < pl)) (q14 : (-2147483648 : Int) ≤ n ∧ n < (2147483648 : Int)) (h66 : cE h 66 (.inr (10, (fI pl :: .ref 67 :: .ref 68 :: .ref 69 :: fI ((s : Nat) : Int) :: .ref 70 :: .ref 71 :: fI mi :: fI sd :: .ref 72 :: fI (f 10) :: fI (f 11) :: fI (f 12) :: fJ (f 13) :: fI (f 14) :: fI (f 15) :: fI (f 16) :: fI (f 17) :: .ref 73 :: .ref 74 :: .ref 75 :: .ref 76 :: .ref 77 :: .ref 78 :: fI (f 24) :: .ref 79 :: .ref 80 :: .ref 81 :: .ref 82 :: .ref 83 :: .ref 84 :: .ref 85 :: fJ (f 32) :: fJ (f 33) :: .ref 86 :: .ref 87 :: fI (f 36) :: .ref 88 :: .ref 89 :: .ref 90 :: .ref 91 :: .ref 92 :: .ref 93 :: [])))) (h67 : cE h 67 (.inl (.int, fA cn))) (n67 : cn.length = (12 : Nat)) (h68 : cE h 68 (.inl (.int, fA go))) (n68 : go.length = (48 : Nat)) (h69 : cE h 69 (.inl (.int, fA ch))) (n69 : ch.length = (48 : Nat)) (h70 : cE h 70 (.inl (.int, fA [ka, pa, fa, kb, pb, fb]))) (h71 : cE h 71 (.inl (.int, fA [xa, xb]))) (h77 : cE h 77 (.inl (.int, fA gt))) (n77 : gt.length = (5 : Nat)) (h78 : cE h 78 (.inl (.int, fA gd))) (n78 : gd.length = (5 : Nat)) (hl : h.length = (94 : Nat)) : ik_F 199 [.ref 66, fI n] h (fun rv h_q => (∃ (w' : Int) (gt' : List Int) (gd' : List Int), rv = [fI (mx_en (pl - 1) (mx_dr (fun x => mx_w cn go ch s x) (pl - 1) ka pa fa kb pb fb n.toNat xa xb mi sd).1 (mx_dr (fun x => mx_w cn go ch s x) (pl - 1) ka pa fa kb pb fb n.toNat xa xb mi sd).2.1)] ∧ cE h_q 66 (.inr (10, (fI pl :: .ref 67 :: .ref 68 :: .ref 69 :: fI ((s : Nat) : Int) :: .ref 70 :: .ref 71 :: fI ((mx_dr (fun x => mx_w cn go ch s x) (pl - 1) ka pa fa kb pb fb n.toNat xa xb mi sd).2.2.1) :: fI ((mx_dr (fun x => mx_w cn go ch s x) (pl - 1) ka pa fa kb pb fb n.toNat xa xb mi sd).2.2.2) :: .ref 72 :: fI (f 10) :: fI (f 11) :: fI (f 12) :: fJ (f 13) :: fI (f 14) :: fI (f 15) :: fI (f 16) :: fI (f 17) :: .ref 73 :: .ref 74 :: .ref 75 :: .ref 76 :: .ref 77 :: .ref 78 :: fI w' :: .ref 79 :: .ref 80 :: .ref 81 :: .ref 82 :: .ref 83 :: .ref 84 :: .ref 85 :: fJ (f 32) :: fJ (f 33) :: .ref 86 :: .ref 87 :: fI (f 36) :: .ref 88 :: .ref 89 :: .ref 90 :: .ref 91 :: .ref 92 :: .ref 93 :: []))) ∧ cE h_q 71 (.inl (.int, fA [(mx_dr (fun x => mx_w cn go ch s x) (pl - 1) ka pa fa kb pb fb n.toNat xa xb mi sd).1, (mx_dr (fun x => mx_w cn go ch s x) (pl - 1) ka pa fa kb pb fb n.toNat xa xb mi sd).2.1])) ∧ cE h_q 77 (.inl (.int, fA gt')) ∧ gt'.length = (5 : Nat) ∧ cE h_q 78 (.inl (.int, fA gd')) ∧ gd'.length = (5 : Nat) ∧ (((1 : Int) ≤ n ∧ n ≤ (200 : Int)) ∧ (1 : Int) < pl) ∧ hfr [66, 71, 77, 78] h h_q) ∨ (rv = [fI (an_n 200 n)] ∧ cE h_q 66 (.inr (10, (fI pl :: .ref 67 :: .ref 68 :: .ref 69 :: fI ((s : Nat) : Int) :: .ref 70 :: .ref 71 :: fI mi :: fI sd :: .ref 72 :: fI (f 10) :: fI (f 11) :: fI (f 12) :: fJ (f 13) :: fI (f 14) :: fI (f 15) :: fI (f 16) :: fI (f 17) :: .ref 73 :: .ref 74 :: .ref 75 :: .ref 76 :: .ref 77 :: .ref 78 :: fI (f 24) :: .ref 79 :: .ref 80 :: .ref 81 :: .ref 82 :: .ref 83 :: .ref 84 :: .ref 85 :: fJ (f 32) :: fJ (f 33) :: .ref 86 :: .ref 87 :: fI (f 36) :: .ref 88 :: .ref 89 :: .ref 90 :: .ref 91 :: .ref 92 :: .ref 93 :: []))) ∧ cE h_q 71 (.inl (.int, fA [xa, xb])) ∧ cE h_q 77 (.inl (.int, fA gt)) ∧ gt.length = (5 : Nat) ∧ cE h_q 78 (.inl (.int, fA gd)) ∧ gd.length = (5 : Nat) ∧ (¬ (((1 : Int) ≤ n ∧ n ≤ (200 : Int)) ∧ (1 : Int) < pl)) ∧ hfr [66, 71, 77, 78] h h_q)) := by
  refine ik_Wk 1 (pc_q := 1) (loc_q := [some (.ref 66), some (fI n)]) (st_q := [fI n]) (h_q := h) (cl_q := 0) (sl_q := 0) rfl ?_
  refine fw_i2l rfl (by omega) (by omega) ?_
  refine fw_lc (z := 1) rfl (by decide +kernel) ?_
  refine fw_l2 200 rfl rfl (by decide +kernel) ?_
  refine fw_call 127 3 3 [fJ n, fJ 1, fJ 200] [] rfl rfl rfl (Nat.le_of_ble_eq_true rfl) rfl rfl (fw_sta hl rfl (by decide +kernel)) (cr_in (v := n) (a := 1) (b := 200) (by omega) (by omega) (by omega)  hl) ?_
  rintro _ h_498 (⟨rfl, p_498_0, F_498⟩ | ⟨rfl, p_498_0, F_498⟩)
  · have k_498 : cL h_498 := F_498.1.trans hl
    have fr_498 := hfr_cb (hfr_refl [66, 71, 77, 78] h) F_498 rfl
    have g_498_66 := (hfr_g F_498 66 rfl).trans h66
    have g_498_67 := (hfr_g F_498 67 rfl).trans h67
    have g_498_68 := (hfr_g F_498 68 rfl).trans h68
    have g_498_69 := (hfr_g F_498 69 rfl).trans h69
    have g_498_70 := (hfr_g F_498 70 rfl).trans h70
    have g_498_71 := (hfr_g F_498 71 rfl).trans h71
    have g_498_77 := (hfr_g F_498 77 rfl).trans h77
    have g_498_78 := (hfr_g F_498 78 rfl).trans h78
    refine ik_Wk 0 (pc_q := 9) (loc_q := [some (.ref 66), some (fI n)]) (st_q := [fI 1]) (h_q := h_498) (cl_q := 0) (sl_q := 0) rfl ?_
    refine fw_if_ne rfl rfl (by decide +kernel) (by decide +kernel) (fun hc1 => absurd hc1 (by decide +kernel)) (fun hc1 => ?_)
    refine ik_Wk 1 (pc_q := 16) (loc_q := [some (.ref 66), some (fI n)]) (st_q := [.ref 66]) (h_q := h_498) (cl_q := 0) (sl_q := 0) rfl ?_
    refine ik_Wc 134 1 0 [.ref 66] [] rfl rfl rfl (by decide +kernel) rfl rfl (fw_rec k_498 rfl g_498_66 rfl (Nat.le_of_ble_eq_true rfl)) ?_
    refine ik_Wk 0 (pc_q := 0) (loc_q := [some (.ref 66)]) (st_q := []) (h_q := h_498) (cl_q := 0) (sl_q := 0) rfl ?_
    refine ik_Wk 1 (pc_q := 1) (loc_q := [some (.ref 66)]) (st_q := [.ref 66]) (h_q := h_498) (cl_q := 0) (sl_q := 0) rfl ?_
    refine fw_gf rfl rfl g_498_66 rfl ?_
    refine ik_Wk 1 (pc_q := 5) (loc_q := [some (.ref 66)]) (st_q := [fI 1, fI pl]) (h_q := h_498) (cl_q := 0) (sl_q := 0) rfl ?_
    refine fw_ic_le rfl rfl (by omega) (by omega) (by omega) (by omega) (fun hc2 => ?_) (fun hc2 => ?_)
    · refine ik_Wk 1 (pc_q := 13) (loc_q := [some (.ref 66)]) (st_q := [fI 0]) (h_q := h_498) (cl_q := 0) (sl_q := 0) rfl ?_
      refine ik_Wret rfl rfl ⟨_, _, rfl, rfl, ?_⟩
      refine ik_Wk 0 (pc_q := 19) (loc_q := [some (.ref 66), some (fI n)]) (st_q := [fI 0]) (h_q := h_498) (cl_q := 0) (sl_q := 0) rfl ?_
      refine fw_if_eq rfl rfl (by decide +kernel) (by decide +kernel) (fun hc3 => ?_) (fun hc3 => absurd hc3 (by decide +kernel))
      refine fw_ld (-1000000003) rfl rfl (by decide +kernel) ?_
      exact ik_Wret rfl rfl ⟨_, _, rfl, rfl, rfl, rfl, Or.inr ⟨(congrArg (fun z => [fI z]) (by unfold an_n; (repeat' split) <;> first | rfl | omega)), g_498_66, g_498_71, g_498_77, n77, g_498_78, n78, (by omega), fr_498⟩⟩
    · refine ik_Wk 2 (pc_q := 13) (loc_q := [some (.ref 66)]) (st_q := [fI 1]) (h_q := h_498) (cl_q := 0) (sl_q := 0) rfl ?_
      refine ik_Wret rfl rfl ⟨_, _, rfl, rfl, ?_⟩
      refine ik_Wk 0 (pc_q := 19) (loc_q := [some (.ref 66), some (fI n)]) (st_q := [fI 1]) (h_q := h_498) (cl_q := 0) (sl_q := 0) rfl ?_
      refine fw_if_eq rfl rfl (by decide +kernel) (by decide +kernel) (fun hc4 => absurd hc4 (by decide +kernel)) (fun hc4 => ?_)
      refine ik_Wk 2 (pc_q := 24) (loc_q := [some (.ref 66), some (fI n)]) (st_q := [fI n, .ref 66]) (h_q := h_498) (cl_q := 0) (sl_q := 0) rfl ?_
      have hx1 : 1 < pl := by omega
      have hxa := q11 hx1
      have hxb := q12 hx1
      have hxx := q13 hx1
      refine fw_call 198 2 0 [.ref 66, fI n] [] rfl rfl rfl (Nat.le_of_ble_eq_true rfl) rfl rfl (fw_rec k_498 rfl g_498_66 rfl (Nat.le_of_ble_eq_true rfl)) (cr_drift (pl := pl) (mi := mi) (sd := sd) (ka := ka) (pa := pa) (fa := fa) (kb := kb) (pb := pb) (fb := fb) (xa := xa) (xb := xb) (s := s) (cn := cn) (go := go) (ch := ch) (n := n) (f := fun j => ((0 :: 0 :: 0 :: 0 :: 0 :: 0 :: 0 :: 0 :: 0 :: 0 :: f 10 :: f 11 :: f 12 :: f 13 :: f 14 :: f 15 :: f 16 :: f 17 :: 0 :: 0 :: 0 :: 0 :: 0 :: 0 :: f 24 :: 0 :: 0 :: 0 :: 0 :: 0 :: 0 :: 0 :: f 32 :: f 33 :: 0 :: 0 :: f 36 :: 0 :: 0 :: 0 :: 0 :: 0 :: 0 :: []) : List Int).getD j 0) (gt := gt) (gd := gd) (by omega) (by omega) (by omega) (by omega) q4 q5 q6 (by omega) (by omega) (by omega) (by omega) (by omega) (by omega) (by omega) (by omega) (by omega) (by omega) (by omega) (by omega) g_498_66 g_498_67 n67 g_498_68 n68 g_498_69 n69 g_498_70 g_498_71 g_498_77 n77 g_498_78 n78 k_498) ?_
      rintro _ h_499 ⟨w'_499, gt'_499, gd'_499, rfl, e_499_66, e_499_71, e_499_77, m_499_77, e_499_78, m_499_78, F_499⟩
      have k_499 : cL h_499 := F_499.1.trans k_498
      have fr_499 := hfr_cb fr_498 F_499 rfl
      have g_499_67 := (hfr_g F_499 67 rfl).trans g_498_67
      have g_499_68 := (hfr_g F_499 68 rfl).trans g_498_68
      have g_499_69 := (hfr_g F_499 69 rfl).trans g_498_69
      have g_499_70 := (hfr_g F_499 70 rfl).trans g_498_70
      have g_499_66 : cE h_499 66 (.inr (10, (fI pl :: .ref 67 :: .ref 68 :: .ref 69 :: fI ((s : Nat) : Int) :: .ref 70 :: .ref 71 :: fI ((mx_dr (fun x => mx_w cn go ch s x) (pl - 1) ka pa fa kb pb fb n.toNat xa xb mi sd).2.2.1) :: fI ((mx_dr (fun x => mx_w cn go ch s x) (pl - 1) ka pa fa kb pb fb n.toNat xa xb mi sd).2.2.2) :: .ref 72 :: fI (f 10) :: fI (f 11) :: fI (f 12) :: fJ (f 13) :: fI (f 14) :: fI (f 15) :: fI (f 16) :: fI (f 17) :: .ref 73 :: .ref 74 :: .ref 75 :: .ref 76 :: .ref 77 :: .ref 78 :: fI w'_499 :: .ref 79 :: .ref 80 :: .ref 81 :: .ref 82 :: .ref 83 :: .ref 84 :: .ref 85 :: fJ (f 32) :: fJ (f 33) :: .ref 86 :: .ref 87 :: fI (f 36) :: .ref 88 :: .ref 89 :: .ref 90 :: .ref 91 :: .ref 92 :: .ref 93 :: []))) := e_499_66
      have g_499_71 : cE h_499 71 (.inl (.int, fA [(mx_dr (fun x => mx_w cn go ch s x) (pl - 1) ka pa fa kb pb fb n.toNat xa xb mi sd).1, (mx_dr (fun x => mx_w cn go ch s x) (pl - 1) ka pa fa kb pb fb n.toNat xa xb mi sd).2.1])) := e_499_71
      have g_499_77 : cE h_499 77 (.inl (.int, fA gt'_499)) := e_499_77
      have g_499_78 : cE h_499 78 (.inl (.int, fA gd'_499)) := e_499_78
      refine ik_Wk 0 (pc_q := 27) (loc_q := [some (.ref 66), some (fI n)]) (st_q := [fI (mx_en (pl - 1) (mx_dr (fun x => mx_w cn go ch s x) (pl - 1) ka pa fa kb pb fb n.toNat xa xb mi sd).1 (mx_dr (fun x => mx_w cn go ch s x) (pl - 1) ka pa fa kb pb fb n.toNat xa xb mi sd).2.1)]) (h_q := h_499) (cl_q := 0) (sl_q := 0) rfl ?_
      refine ik_Wk 1 (pc_q := 32) (loc_q := [some (.ref 66), some (fI n)]) (st_q := [fI (mx_en (pl - 1) (mx_dr (fun x => mx_w cn go ch s x) (pl - 1) ka pa fa kb pb fb n.toNat xa xb mi sd).1 (mx_dr (fun x => mx_w cn go ch s x) (pl - 1) ka pa fa kb pb fb n.toNat xa xb mi sd).2.1)]) (h_q := h_499) (cl_q := 0) (sl_q := 0) rfl ?_
      exact ik_Wret rfl rfl ⟨_, _, rfl, rfl, rfl, rfl, Or.inl ⟨w'_499, gt'_499, gd'_499, rfl, g_499_66, g_499_71, g_499_77, m_499_77, g_499_78, m_499_78, (by omega), fr_499⟩⟩
  · have k_498 : cL h_498 := F_498.1.trans hl
    have fr_498 := hfr_cb (hfr_refl [66, 71, 77, 78] h) F_498 rfl
    have g_498_66 := (hfr_g F_498 66 rfl).trans h66
    have g_498_67 := (hfr_g F_498 67 rfl).trans h67
    have g_498_68 := (hfr_g F_498 68 rfl).trans h68
    have g_498_69 := (hfr_g F_498 69 rfl).trans h69
    have g_498_70 := (hfr_g F_498 70 rfl).trans h70
    have g_498_71 := (hfr_g F_498 71 rfl).trans h71
    have g_498_77 := (hfr_g F_498 77 rfl).trans h77
    have g_498_78 := (hfr_g F_498 78 rfl).trans h78
    refine ik_Wk 0 (pc_q := 9) (loc_q := [some (.ref 66), some (fI n)]) (st_q := [fI 0]) (h_q := h_498) (cl_q := 0) (sl_q := 0) rfl ?_
    refine fw_if_ne rfl rfl (by decide +kernel) (by decide +kernel) (fun hc5 => ?_) (fun hc5 => absurd hc5 (by decide +kernel))
    refine fw_ld (-1000000002) rfl rfl (by decide +kernel) ?_
    exact ik_Wret rfl rfl ⟨_, _, rfl, rfl, rfl, rfl, Or.inr ⟨(congrArg (fun z => [fI z]) (by unfold an_n; (repeat' split) <;> first | rfl | omega)), g_498_66, g_498_71, g_498_77, n77, g_498_78, n78, (by omega), fr_498⟩⟩

theorem cp_morning {h : List ik_E} {pl : Int} {mi : Int} {sd : Int} {ka : Int} {pa : Int} {fa : Int} {kb : Int} {pb : Int} {fb : Int} {xa : Int} {xb : Int} {s : Nat} {cn : List Int} {go : List Int} {ch : List Int} {n : Int} {lo : Int} {wg : List Int} {wc : List Int} {we : List Int} (q0 : 0 ≤ pl ∧ pl ≤ 12) (q1 : s < 4096) (q2 : 0 ≤ sd ∧ sd < 2147483648) (q3 : 0 ≤ mi ∧ mi < 1999999000) (q4 : ∀ x : Int, (0 : Int) ≤ x → x < pl - 1 → mx_wy wg wc we x (mx_w cn go ch s x)) (q5 : ∀ x : Int, (0 : Int) ≤ x → x < pl - 1 → mx_ok pl (mx_w cn go ch s x)) (q6 : (0 : Int) ≤ ka ∧ ka ≤ (2 : Int)) (q7 : (0 : Int) ≤ kb ∧ kb ≤ (2 : Int)) (q8 : (0 : Int) ≤ fa ∧ fa ≤ (30 : Int)) (q9 : (0 : Int) ≤ fb ∧ fb ≤ (30 : Int)) (q10 : (1 : Int) < pl → (0 : Int) ≤ pa ∧ pa < pl - 1) (q11 : (1 : Int) < pl → (0 : Int) ≤ pb ∧ pb < pl - 1) (q12 : (1 : Int) < pl → (fa ≤ mi → (0 : Int) ≤ xa) ∧ (fb ≤ mi → (0 : Int) ≤ xb) ∧ ((-1 : Int) ≤ xa ∧ xa < pl) ∧ ((-1 : Int) ≤ xb ∧ xb < pl)) (q13 : (-2147483648 : Int) ≤ n ∧ n < (2147483648 : Int)) (h0 : cE h 0 (.inr (9, [.ref 1, .ref 7, .ref 14, .ref 17, .ref 45, .ref 51, .ref 54, .ref 57]))) (h7 : cE h 7 (.inr (0, [fI pl, fI ((s : Nat) : Int), fI lo, .ref 8, .ref 9, .ref 10, .ref 11, .ref 12, .ref 13]))) (h11 : cE h 11 (.inl (.int, fA wg))) (n11 : wg.length = (60 : Nat)) (h12 : cE h 12 (.inl (.int, fA wc))) (n12 : wc.length = (60 : Nat)) (h13 : cE h 13 (.inl (.int, fA we))) (n13 : we.length = (12 : Nat)) (h14 : cE h 14 (.inr (1, [.ref 7, .ref 15, .ref 16, fI mi, fJ sd]))) (h15 : cE h 15 (.inl (.int, fA [ka, pa, fa, kb, pb, fb]))) (h16 : cE h 16 (.inl (.int, fA [xa, xb]))) (hl : h.length = (94 : Nat)) : ik_F 114 [.ref 0, fI n] h (fun rv h_q => (rv = [fI ((mx_mo (fun x => mx_w cn go ch s x) (pl - 1) ka pa fa kb pb fb n.toNat 0 sd).1)] ∧ cE h_q 14 (.inr (1, [.ref 7, .ref 15, .ref 16, fI mi, fJ ((mx_mo (fun x => mx_w cn go ch s x) (pl - 1) ka pa fa kb pb fb n.toNat 0 sd).2)])) ∧ cE h_q 16 (.inl (.int, fA [xa, xb])) ∧ (((1 : Int) ≤ n ∧ n ≤ (40 : Int)) ∧ (1 : Int) < pl) ∧ hfr [14, 16] h h_q) ∨ (rv = [fI (an_n 40 n)] ∧ cE h_q 14 (.inr (1, [.ref 7, .ref 15, .ref 16, fI mi, fJ sd])) ∧ cE h_q 16 (.inl (.int, fA [xa, xb])) ∧ (¬ (((1 : Int) ≤ n ∧ n ≤ (40 : Int)) ∧ (1 : Int) < pl)) ∧ hfr [14, 16] h h_q)) := by
  refine ik_Wk 2 (pc_q := 2) (loc_q := [some (.ref 0), some (fI n)]) (st_q := [fI 1, fI n]) (h_q := h) (cl_q := 0) (sl_q := 0) rfl ?_
  refine fw_ic_lt rfl rfl (by omega) (by omega) (by omega) (by omega) (fun hc1 => ?_) (fun hc1 => ?_)
  · refine fw_ld (-1000000002) rfl rfl (by decide +kernel) ?_
    exact ik_Wret rfl rfl ⟨_, _, rfl, rfl, rfl, rfl, Or.inr ⟨(congrArg (fun z => [fI z]) (by unfold an_n; (repeat' split) <;> first | rfl | omega)), h14, h16, (by omega), (hfr_refl [14, 16] h)⟩⟩
  · refine ik_Wk 1 (pc_q := 6) (loc_q := [some (.ref 0), some (fI n)]) (st_q := [fI n]) (h_q := h) (cl_q := 0) (sl_q := 0) rfl ?_
    refine fw_bi rfl (by decide +kernel) ?_
    refine fw_ic_le rfl rfl (by omega) (by omega) (by omega) (by omega) (fun hc2 => ?_) (fun hc2 => ?_)
    · refine ik_Wk 1 (pc_q := 15) (loc_q := [some (.ref 0), some (fI n)]) (st_q := [.ref 0]) (h_q := h) (cl_q := 0) (sl_q := 0) rfl ?_
      refine fw_gf rfl rfl h0 rfl ?_
      refine ik_Wc 7 1 0 [.ref 7] [] rfl rfl rfl (by decide +kernel) rfl rfl (fw_rec hl rfl h7 rfl (Nat.le_of_ble_eq_true rfl)) ?_
      refine ik_Wk 0 (pc_q := 0) (loc_q := [some (.ref 7)]) (st_q := []) (h_q := h) (cl_q := 0) (sl_q := 0) rfl ?_
      refine ik_Wk 1 (pc_q := 1) (loc_q := [some (.ref 7)]) (st_q := [.ref 7]) (h_q := h) (cl_q := 0) (sl_q := 0) rfl ?_
      refine fw_gf rfl rfl h7 rfl ?_
      refine ik_Wk 1 (pc_q := 5) (loc_q := [some (.ref 7)]) (st_q := [fI 1, fI pl]) (h_q := h) (cl_q := 0) (sl_q := 0) rfl ?_
      refine fw_ic_le rfl rfl (by omega) (by omega) (by omega) (by omega) (fun hc3 => ?_) (fun hc3 => ?_)
      · refine ik_Wk 1 (pc_q := 13) (loc_q := [some (.ref 7)]) (st_q := [fI 0]) (h_q := h) (cl_q := 0) (sl_q := 0) rfl ?_
        refine ik_Wret rfl rfl ⟨_, _, rfl, rfl, ?_⟩
        refine ik_Wk 0 (pc_q := 21) (loc_q := [some (.ref 0), some (fI n)]) (st_q := [fI 0]) (h_q := h) (cl_q := 0) (sl_q := 0) rfl ?_
        refine fw_if_ne rfl rfl (by decide +kernel) (by decide +kernel) (fun hc4 => ?_) (fun hc4 => absurd hc4 (by decide +kernel))
        refine fw_ld (-1000000003) rfl rfl (by decide +kernel) ?_
        exact ik_Wret rfl rfl ⟨_, _, rfl, rfl, rfl, rfl, Or.inr ⟨(congrArg (fun z => [fI z]) (by unfold an_n; (repeat' split) <;> first | rfl | omega)), h14, h16, (by omega), (hfr_refl [14, 16] h)⟩⟩
      · refine ik_Wk 2 (pc_q := 13) (loc_q := [some (.ref 7)]) (st_q := [fI 1]) (h_q := h) (cl_q := 0) (sl_q := 0) rfl ?_
        refine ik_Wret rfl rfl ⟨_, _, rfl, rfl, ?_⟩
        refine ik_Wk 0 (pc_q := 21) (loc_q := [some (.ref 0), some (fI n)]) (st_q := [fI 1]) (h_q := h) (cl_q := 0) (sl_q := 0) rfl ?_
        refine fw_if_ne rfl rfl (by decide +kernel) (by decide +kernel) (fun hc5 => absurd hc5 (by decide +kernel)) (fun hc5 => ?_)
        refine ik_Wk 1 (pc_q := 28) (loc_q := [some (.ref 0), some (fI n)]) (st_q := [.ref 0]) (h_q := h) (cl_q := 0) (sl_q := 0) rfl ?_
        refine fw_gf rfl rfl h0 rfl ?_
        refine ik_Wk 1 (pc_q := 32) (loc_q := [some (.ref 0), some (fI n)]) (st_q := [fI n, .ref 14]) (h_q := h) (cl_q := 0) (sl_q := 0) rfl ?_
        have hx1 : 1 < pl := by omega
        have hxa := q10 hx1
        have hxb := q11 hx1
        have hxx := q12 hx1
        refine fw_call 28 2 0 [.ref 14, fI n] [] rfl rfl rfl (Nat.le_of_ble_eq_true rfl) rfl rfl (fw_rec hl rfl h14 rfl (Nat.le_of_ble_eq_true rfl)) (cs_morn (pl := pl) (mi := mi) (sd := sd) (ka := ka) (pa := pa) (fa := fa) (kb := kb) (pb := pb) (fb := fb) (xa := xa) (xb := xb) (s := s) (n := n) (lo := lo) (wg := wg) (wc := wc) (we := we) (by omega) (by omega) (by omega) (by omega) q4 q5 (by omega) (by omega) (by omega) (by omega) (by omega) (by omega) (by omega) h7 h11 n11 h12 n12 h13 n13 h14 h15 h16 hl) ?_
        rintro _ h_500 ⟨rfl, e_500_14, e_500_16, F_500⟩
        have k_500 : cL h_500 := F_500.1.trans hl
        have fr_500 := hfr_cb (hfr_refl [14, 16] h) F_500 rfl
        have g_500_0 := (hfr_g F_500 0 rfl).trans h0
        have g_500_7 := (hfr_g F_500 7 rfl).trans h7
        have g_500_11 := (hfr_g F_500 11 rfl).trans h11
        have g_500_12 := (hfr_g F_500 12 rfl).trans h12
        have g_500_13 := (hfr_g F_500 13 rfl).trans h13
        have g_500_15 := (hfr_g F_500 15 rfl).trans h15
        have g_500_14 : cE h_500 14 (.inr (1, [.ref 7, .ref 15, .ref 16, fI mi, fJ ((mx_mo (fun x => mx_w cn go ch s x) (pl - 1) ka pa fa kb pb fb n.toNat 0 sd).2)])) := e_500_14
        have g_500_16 : cE h_500 16 (.inl (.int, fA [xa, xb])) := e_500_16
        refine ik_Wk 0 (pc_q := 35) (loc_q := [some (.ref 0), some (fI n)]) (st_q := [fI ((mx_mo (fun x => mx_w cn go ch s x) (pl - 1) ka pa fa kb pb fb n.toNat 0 sd).1)]) (h_q := h_500) (cl_q := 0) (sl_q := 0) rfl ?_
        exact ik_Wret rfl rfl ⟨_, _, rfl, rfl, rfl, rfl, Or.inl ⟨rfl, g_500_14, g_500_16, (by omega), fr_500⟩⟩
    · refine fw_ld (-1000000002) rfl rfl (by decide +kernel) ?_
      exact ik_Wret rfl rfl ⟨_, _, rfl, rfl, rfl, rfl, Or.inr ⟨(congrArg (fun z => [fI z]) (by unfold an_n; (repeat' split) <;> first | rfl | omega)), h14, h16, (by omega), (hfr_refl [14, 16] h)⟩⟩

theorem cs_settleAllL {h : List ik_E} {pl : Int} {lo : Int} {s : Nat} {cn : List Int} {go : List Int} {ch : List Int} {wg : List Int} {wc : List Int} {we : List Int} (q0 : 0 ≤ pl ∧ pl ≤ 12) (q1 : s < 4096) (q2 : mx_rw pl cn go ch) (q3 : 1 ≤ pl → cn.getD (pl - 1).toNat 0 = 0) (q4 : 1 ≤ pl → s.testBit (pl - 1).toNat = false)  : ∀ (k : Nat) (i : Int) (wg1 : List Int) (wc1 : List Int) (we1 : List Int) (u : List ik_E) (u7 : cE u 7 (.inr (0, [fI pl, fI ((s : Nat) : Int), fI lo, .ref 8, .ref 9, .ref 10, .ref 11, .ref 12, .ref 13]))) (u8 : cE u 8 (.inl (.int, fA cn))) (n8 : cn.length = (12 : Nat)) (u9 : cE u 9 (.inl (.int, fA go))) (n9 : go.length = (48 : Nat)) (u10 : cE u 10 (.inl (.int, fA ch))) (n10 : ch.length = (48 : Nat)) (u11 : cE u 11 (.inl (.int, fA wg1))) (n11 : wg1.length = (60 : Nat)) (u12 : cE u 12 (.inl (.int, fA wc1))) (n12 : wc1.length = (60 : Nat)) (u13 : cE u 13 (.inl (.int, fA we1))) (n13 : we1.length = (12 : Nat)) (ul : u.length = (94 : Nat)) (F : hfr [11, 12, 13] h u) (hi : (0 : Int) ≤ i ∧ i ≤ pl) (hy : ∀ x : Int, (0 : Int) ≤ x → x < i → mx_wy wg1 wc1 we1 x (mx_w cn go ch s x)) (hk : pl - i < (k : Int)), ik_G 11 2 [some (.ref 7), some (fI i)] [] u (fun rv h_q => ∃ (wg' : List Int) (wc' : List Int) (we' : List Int), rv = [] ∧ cE h_q 11 (.inl (.int, fA wg')) ∧ wg'.length = (60 : Nat) ∧ cE h_q 12 (.inl (.int, fA wc')) ∧ wc'.length = (60 : Nat) ∧ cE h_q 13 (.inl (.int, fA we')) ∧ we'.length = (12 : Nat) ∧ (∀ x : Int, (0 : Int) ≤ x → x < pl - 1 → mx_wy wg' wc' we' x (mx_w cn go ch s x)) ∧ hfr [11, 12, 13] h h_q) := by
  intro k
  induction k with
  | zero => intro i wg1 wc1 we1 u u7 u8 n8 u9 n9 u10 n10 u11 n11 u12 n12 u13 n13 ul F hi hy hk; omega
  | succ k ih =>
    intro i wg1 wc1 we1 u u7 u8 n8 u9 n9 u10 n10 u11 n11 u12 n12 u13 n13 ul F hi hy hk
    refine ik_Wk 2 (pc_q := 4) (loc_q := [some (.ref 7), some (fI i)]) (st_q := [.ref 7, fI i]) (h_q := u) (cl_q := 0) (sl_q := 0) rfl ?_
    refine fw_gf rfl rfl u7 rfl ?_
    refine fw_ic_ge rfl rfl (by omega) (by omega) (by omega) (by omega) (fun hc1 => ?_) (fun hc1 => ?_)
    · exact ik_Wret rfl rfl ⟨_, _, rfl, rfl, rfl, rfl, ⟨wg1, wc1, we1, rfl, u11, n11, u12, n12, u13, n13, (fun x x0 x1 => hy x x0 (by omega)), F⟩⟩
    · refine ik_Wk 2 (pc_q := 12) (loc_q := [some (.ref 7), some (fI i)]) (st_q := [fI i, .ref 7]) (h_q := u) (cl_q := 0) (sl_q := 0) rfl ?_
      have hcn : ∀ x : Int, 0 ≤ x → x < pl → (0 ≤ cn.getD x.toNat 0 ∧ cn.getD x.toNat 0 ≤ 4) ∧ (∀ j : Int, 4 * x ≤ j → j < 4 * x + cn.getD x.toNat 0 → 0 ≤ ch.getD j.toNat 0 ∧ ch.getD j.toNat 0 ≤ 100) ∧ (s.testBit x.toNat = true → 1 ≤ cn.getD x.toNat 0) := by
        intro x x0 x1
        rcases Int.lt_or_le x (pl - 1) with z | z
        · have r := (q2 x x0 z).1; have c := mx_rw_ch q2 x x0 z; exact ⟨by omega, c.2, fun _ => c.1⟩
        · have e : x = pl - 1 := by omega
          subst e
          have a := q3 (by omega)
          have b := q4 (by omega)
          exact ⟨by omega, fun j j0 j1 => by omega, fun w => by rw [b] at w; cases w⟩
      refine fw_call 12 2 0 [.ref 7, fI i] [] rfl rfl rfl (Nat.le_of_ble_eq_true rfl) rfl rfl (fw_rec ul rfl u7 rfl (Nat.le_of_ble_eq_true rfl)) (cs_settle (p := i) (pl := pl) (lo := lo) (s := s) (cn := cn) (go := go) (ch := ch) (wg := wg1) (wc := wc1) (we := we1) (by omega) (by omega) (by omega) (hcn i (by omega) (by omega)).1 (hcn i (by omega) (by omega)).2.1 (hcn i (by omega) (by omega)).2.2 u7 u8 n8 u9 n9 u10 n10 u11 n11 u12 n12 u13 n13 ul) ?_
      rintro _ h_501 ⟨wg'_501, wc'_501, rfl, e_501_11, m_501_11, e_501_12, m_501_12, e_501_13, m_501_13, p_501_0, p_501_1, p_501_2, F_501⟩
      have k_501 : cL h_501 := F_501.1.trans ul
      have fr_501 := hfr_cb F F_501 rfl
      have g_501_7 := (hfr_g F_501 7 rfl).trans u7
      have g_501_8 := (hfr_g F_501 8 rfl).trans u8
      have g_501_9 := (hfr_g F_501 9 rfl).trans u9
      have g_501_10 := (hfr_g F_501 10 rfl).trans u10
      have g_501_11 : cE h_501 11 (.inl (.int, fA wg'_501)) := e_501_11
      have g_501_12 : cE h_501 12 (.inl (.int, fA wc'_501)) := e_501_12
      have g_501_13 : cE h_501 13 (.inl (.int, fA (we1.set i.toNat (5 * i + ((mx_w cn go ch s i).length : Int))))) := e_501_13
      refine ik_Wk 0 (pc_q := 15) (loc_q := [some (.ref 7), some (fI i)]) (st_q := []) (h_q := h_501) (cl_q := 0) (sl_q := 0) rfl ?_
      refine fw_inc (a := i) (loc_q := [some (.ref 7), some (fI (i + 1))]) rfl rfl (Nat.le_of_ble_eq_true rfl) rfl ?_
      refine ik_Wk 1 (pc_q := 2) (loc_q := [some (.ref 7), some (fI (i + 1))]) (st_q := []) (h_q := h_501) (cl_q := 0) (sl_q := 0) rfl ?_
      have h5 : ∀ x : Int, 0 ≤ x → x < i → (mx_w cn go ch s x).length ≤ 5 := by
        intro x x0 x1
        have a := (hcn x x0 (by omega)).1
        have b := mx_o_le (ch := ch) (s := s) (p := x)
        rw [mx_w_len]; omega
      exact ih  (i + 1) wg'_501 wc'_501 (we1.set i.toNat (5 * i + ((mx_w cn go ch s i).length : Int))) h_501 g_501_7 g_501_8 n8 g_501_9 n9 g_501_10 n10 g_501_11 m_501_11 g_501_12 m_501_12 g_501_13 m_501_13 k_501 fr_501 (by omega) (mx_wy_next (W := (fun x => mx_w cn go ch s x)) hy h5 (by omega) n13 p_501_0 p_501_1 p_501_2) (by omega)

theorem cs_settleAll {h : List ik_E} {pl : Int} {lo : Int} {s : Nat} {cn : List Int} {go : List Int} {ch : List Int} {wg : List Int} {wc : List Int} {we : List Int} (q0 : 0 ≤ pl ∧ pl ≤ 12) (q1 : s < 4096) (q2 : mx_rw pl cn go ch) (q3 : 1 ≤ pl → cn.getD (pl - 1).toNat 0 = 0) (q4 : 1 ≤ pl → s.testBit (pl - 1).toNat = false) (h7 : cE h 7 (.inr (0, [fI pl, fI ((s : Nat) : Int), fI lo, .ref 8, .ref 9, .ref 10, .ref 11, .ref 12, .ref 13]))) (h8 : cE h 8 (.inl (.int, fA cn))) (n8 : cn.length = (12 : Nat)) (h9 : cE h 9 (.inl (.int, fA go))) (n9 : go.length = (48 : Nat)) (h10 : cE h 10 (.inl (.int, fA ch))) (n10 : ch.length = (48 : Nat)) (h11 : cE h 11 (.inl (.int, fA wg))) (n11 : wg.length = (60 : Nat)) (h12 : cE h 12 (.inl (.int, fA wc))) (n12 : wc.length = (60 : Nat)) (h13 : cE h 13 (.inl (.int, fA we))) (n13 : we.length = (12 : Nat)) (hl : h.length = (94 : Nat)) : ik_F 11 [.ref 7] h (fun rv h_q => ∃ (wg' : List Int) (wc' : List Int) (we' : List Int), rv = [] ∧ cE h_q 11 (.inl (.int, fA wg')) ∧ wg'.length = (60 : Nat) ∧ cE h_q 12 (.inl (.int, fA wc')) ∧ wc'.length = (60 : Nat) ∧ cE h_q 13 (.inl (.int, fA we')) ∧ we'.length = (12 : Nat) ∧ (∀ x : Int, (0 : Int) ≤ x → x < pl - 1 → mx_wy wg' wc' we' x (mx_w cn go ch s x)) ∧ hfr [11, 12, 13] h h_q) := by
  refine ik_Wk 2 (pc_q := 2) (loc_q := [some (.ref 7), some (fI 0)]) (st_q := []) (h_q := h) (cl_q := 0) (sl_q := 0) rfl ?_
  exact cs_settleAllL (pl := pl) (lo := lo) (s := s) (cn := cn) (go := go) (ch := ch) (wg := wg) (wc := wc) (we := we) q0 q1 q2 q3 q4  (pl.toNat + 1) 0 wg wc we h h7 h8 n8 h9 n9 h10 n10 h11 n11 h12 n12 h13 n13 hl (hfr_refl [11, 12, 13] h) (by omega) (fun x x0 x1 => absurd x1 (by omega)) (by omega)

theorem cp_keep0 {h : List ik_E} {pl : Int} {st : Int} {lo : Int} {it : Int} {im_ : Int} {id_ : Int} {is_ : Int} {e0 : Int} {e1 : Int} {e2 : Int} {e3 : Int} {e4 : Int} {e5 : Int} {y0 : Int} {y1 : Int} {ci : List Int} {ka : Int} {pa : Int} {fa : Int} {kb : Int} {pb : Int} {fb : Int} {xa : Int} {xb : Int} {mi : Int} {dr : Int} {ch : List Int}  (h0 : cE h 0 (.inr (9, [.ref 1, .ref 7, .ref 14, .ref 17, .ref 45, .ref 51, .ref 54, .ref 57]))) (h7 : cE h 7 (.inr (0, [fI pl, fI st, fI lo, .ref 8, .ref 9, .ref 10, .ref 11, .ref 12, .ref 13]))) (h10 : cE h 10 (.inl (.int, fA ch))) (n10 : ch.length = 48) (h14 : cE h 14 (.inr (1, [.ref 7, .ref 15, .ref 16, fI mi, fJ dr]))) (h15 : cE h 15 (.inl (.int, fA [ka, pa, fa, kb, pb, fb]))) (h16 : cE h 16 (.inl (.int, fA [xa, xb]))) (h57 : cE h 57 (.inl (.object "SlowerCork$Image", [.ref 58, .ref 62]))) (h58 : cE h 58 (.inr (3, [fI it, .ref 59, .ref 60, fI im_, fJ id_, fI is_, .ref 61]))) (h59 : cE h 59 (.inl (.int, fA [e0, e1, e2, e3, e4, e5]))) (h60 : cE h 60 (.inl (.int, fA [y0, y1]))) (h61 : cE h 61 (.inl (.int, fA ci))) (n61 : ci.length = 48) (hl : h.length = 94) : ik_F 119 [.ref 0, fI 0] h (fun rv h_q => rv = [fI 1] ∧ cE h_q 58 (.inr (3, [fI 1, .ref 59, .ref 60, fI mi, fJ dr, fI st, .ref 61])) ∧ cE h_q 59 (.inl (.int, fA [ka, pa, fa, kb, pb, fb])) ∧ cE h_q 60 (.inl (.int, fA [xa, xb])) ∧ cE h_q 61 (.inl (.int, fA ch)) ∧ ch.length = 48 ∧ hfr [58, 59, 60, 61] h h_q) := by
  refine ik_Wk 2 (pc_q := 2) (loc_q := [some (.ref 0), some (fI 0)]) (st_q := [fI 0, .ref 0]) (h_q := h) (cl_q := 0) (sl_q := 0) rfl ?_
  refine ik_Wc 124 2 0 [.ref 0, fI 0] [] rfl rfl rfl (by decide +kernel) rfl rfl (fw_rec hl rfl h0 rfl (Nat.le_of_ble_eq_true rfl)) ?_
  refine ik_Wk 0 (pc_q := 0) (loc_q := [some (.ref 0), some (fI 0)]) (st_q := []) (h_q := h) (cl_q := 0) (sl_q := 0) rfl ?_
  refine ik_Wk 1 (pc_q := 1) (loc_q := [some (.ref 0), some (fI 0)]) (st_q := [fI 0]) (h_q := h) (cl_q := 0) (sl_q := 0) rfl ?_
  refine fw_if_lt rfl rfl (by decide +kernel) (by decide +kernel) (fun hc1 => absurd hc1 (by decide +kernel)) (fun hc1 => ?_)
  refine ik_Wk 2 (pc_q := 6) (loc_q := [some (.ref 0), some (fI 0)]) (st_q := [.ref 0, fI 0]) (h_q := h) (cl_q := 0) (sl_q := 0) rfl ?_
  refine fw_gf rfl rfl h0 rfl ?_
  refine fx_aln (L := 2) rfl h57 (rfl : [(.ref 58 : Value), (.ref 62 : Value)].length = 2) (by decide +kernel) ?_
  refine fw_ic_ge rfl rfl (by omega) (by omega) (by omega) (by omega) (fun hc2 => absurd hc2 (by omega)) (fun hc2 => ?_)
  refine ik_Wk 2 (pc_q := 18) (loc_q := [some (.ref 0), some (fI 0)]) (st_q := [fI 1]) (h_q := h) (cl_q := 0) (sl_q := 0) rfl ?_
  refine ik_Wret rfl rfl ⟨_, _, rfl, rfl, ?_⟩
  refine ik_Wk 0 (pc_q := 5) (loc_q := [some (.ref 0), some (fI 0)]) (st_q := [fI 1]) (h_q := h) (cl_q := 0) (sl_q := 0) rfl ?_
  refine fw_if_ne rfl rfl (by decide +kernel) (by decide +kernel) (fun hc3 => absurd hc3 (by decide +kernel)) (fun hc3 => ?_)
  refine ik_Wk 1 (pc_q := 12) (loc_q := [some (.ref 0), some (fI 0)]) (st_q := [.ref 0]) (h_q := h) (cl_q := 0) (sl_q := 0) rfl ?_
  refine fw_gf rfl rfl h0 rfl ?_
  refine ik_Wk 1 (pc_q := 16) (loc_q := [some (.ref 0), some (fI 0)]) (st_q := [fI 0, .ref 57]) (h_q := h) (cl_q := 0) (sl_q := 0) rfl ?_
  refine fx_aal (z := 0) rfl h57 (by decide +kernel) (by decide +kernel) rfl ?_
  refine ik_Wk 1 (pc_q := 18) (loc_q := [some (.ref 0), some (fI 0)]) (st_q := [.ref 0, .ref 58]) (h_q := h) (cl_q := 0) (sl_q := 0) rfl ?_
  refine fw_gf rfl rfl h0 rfl ?_
  refine ik_Wk 1 (pc_q := 22) (loc_q := [some (.ref 0), some (fI 0)]) (st_q := [.ref 0, .ref 7, .ref 58]) (h_q := h) (cl_q := 0) (sl_q := 0) rfl ?_
  refine fw_gf rfl rfl h0 rfl ?_
  refine ik_Wc 34 3 0 [.ref 58, .ref 7, .ref 14] [] rfl rfl rfl (by decide +kernel) rfl rfl (fw_rec hl rfl h58 rfl (Nat.le_of_ble_eq_true rfl)) ?_
  refine ik_Wk 0 (pc_q := 0) (loc_q := [some (.ref 58), some (.ref 7), some (.ref 14)]) (st_q := []) (h_q := h) (cl_q := 0) (sl_q := 0) rfl ?_
  refine ik_Wk 2 (pc_q := 2) (loc_q := [some (.ref 58), some (.ref 7), some (.ref 14)]) (st_q := [fI 1, .ref 58]) (h_q := h) (cl_q := 0) (sl_q := 0) rfl ?_
  refine fx_pf rfl rfl h58 (Nat.le_of_ble_eq_true rfl) rfl rfl ?_
  intro h_502 e_502 f_502 l_502
  have k_502 : cL h_502 := l_502.trans hl
  have fr_502 := hfr_wb (hfr_refl [58, 59, 60, 61] h) f_502 l_502 rfl
  clear l_502
  have g_502_0 := (f_502 0 (Nat.ne_of_beq_eq_false rfl)).trans h0
  have g_502_7 := (f_502 7 (Nat.ne_of_beq_eq_false rfl)).trans h7
  have g_502_10 := (f_502 10 (Nat.ne_of_beq_eq_false rfl)).trans h10
  have g_502_14 := (f_502 14 (Nat.ne_of_beq_eq_false rfl)).trans h14
  have g_502_15 := (f_502 15 (Nat.ne_of_beq_eq_false rfl)).trans h15
  have g_502_16 := (f_502 16 (Nat.ne_of_beq_eq_false rfl)).trans h16
  have g_502_57 := (f_502 57 (Nat.ne_of_beq_eq_false rfl)).trans h57
  have g_502_59 := (f_502 59 (Nat.ne_of_beq_eq_false rfl)).trans h59
  have g_502_60 := (f_502 60 (Nat.ne_of_beq_eq_false rfl)).trans h60
  have g_502_61 := (f_502 61 (Nat.ne_of_beq_eq_false rfl)).trans h61
  have g_502_58 : cE h_502 58 (.inr (3, [fI 1, .ref 59, .ref 60, fI im_, fJ id_, fI is_, .ref 61])) := e_502
  refine ik_Wk 1 (pc_q := 6) (loc_q := [some (.ref 58), some (.ref 7), some (.ref 14)]) (st_q := [.ref 14]) (h_q := h_502) (cl_q := 0) (sl_q := 0) rfl ?_
  refine fw_gf rfl rfl g_502_14 rfl ?_
  refine ik_Wk 2 (pc_q := 11) (loc_q := [some (.ref 58), some (.ref 7), some (.ref 14)]) (st_q := [.ref 58, fI 0, .ref 15]) (h_q := h_502) (cl_q := 0) (sl_q := 0) rfl ?_
  refine fw_gf rfl rfl g_502_58 rfl ?_
  refine ik_Wk 2 (pc_q := 16) (loc_q := [some (.ref 58), some (.ref 7), some (.ref 14)]) (st_q := [.ref 58, fI 0, .ref 59, fI 0, .ref 15]) (h_q := h_502) (cl_q := 0) (sl_q := 0) rfl ?_
  refine fw_gf rfl rfl g_502_58 rfl ?_
  refine fx_aln (L := 6) rfl g_502_59 rfl (by decide +kernel) ?_
  refine fx_cpy (xs := [ka, pa, fa, kb, pb, fb]) (ys := [e0, e1, e2, e3, e4, e5]) (n := 6) rfl rfl rfl g_502_15 g_502_59 (by decide +kernel) (by decide +kernel) rfl rfl (by decide +kernel) ⟨Nat.le_of_ble_eq_true rfl, Nat.le_of_ble_eq_true rfl, Nat.le_of_ble_eq_true rfl⟩ ?_
  intro h_503 e_503 f_503 l_503
  have k_503 : cL h_503 := l_503.trans k_502
  have fr_503 := hfr_wb fr_502 f_503 l_503 rfl
  clear l_503
  have g_503_0 := (f_503 0 (Nat.ne_of_beq_eq_false rfl)).trans g_502_0
  have g_503_7 := (f_503 7 (Nat.ne_of_beq_eq_false rfl)).trans g_502_7
  have g_503_10 := (f_503 10 (Nat.ne_of_beq_eq_false rfl)).trans g_502_10
  have g_503_14 := (f_503 14 (Nat.ne_of_beq_eq_false rfl)).trans g_502_14
  have g_503_15 := (f_503 15 (Nat.ne_of_beq_eq_false rfl)).trans g_502_15
  have g_503_16 := (f_503 16 (Nat.ne_of_beq_eq_false rfl)).trans g_502_16
  have g_503_57 := (f_503 57 (Nat.ne_of_beq_eq_false rfl)).trans g_502_57
  have g_503_58 := (f_503 58 (Nat.ne_of_beq_eq_false rfl)).trans g_502_58
  have g_503_60 := (f_503 60 (Nat.ne_of_beq_eq_false rfl)).trans g_502_60
  have g_503_61 := (f_503 61 (Nat.ne_of_beq_eq_false rfl)).trans g_502_61
  have g_503_59 : cE h_503 59 (.inl (.int, fA [ka, pa, fa, kb, pb, fb])) := e_503
  refine ik_Wk 1 (pc_q := 24) (loc_q := [some (.ref 58), some (.ref 7), some (.ref 14)]) (st_q := [.ref 14]) (h_q := h_503) (cl_q := 0) (sl_q := 0) rfl ?_
  refine fw_gf rfl rfl g_503_14 rfl ?_
  refine ik_Wk 2 (pc_q := 29) (loc_q := [some (.ref 58), some (.ref 7), some (.ref 14)]) (st_q := [.ref 58, fI 0, .ref 16]) (h_q := h_503) (cl_q := 0) (sl_q := 0) rfl ?_
  refine fw_gf rfl rfl g_503_58 rfl ?_
  refine ik_Wk 2 (pc_q := 34) (loc_q := [some (.ref 58), some (.ref 7), some (.ref 14)]) (st_q := [.ref 58, fI 0, .ref 60, fI 0, .ref 16]) (h_q := h_503) (cl_q := 0) (sl_q := 0) rfl ?_
  refine fw_gf rfl rfl g_503_58 rfl ?_
  refine fx_aln (L := 2) rfl g_503_60 rfl (by decide +kernel) ?_
  refine fx_cpy (xs := [xa, xb]) (ys := [y0, y1]) (n := 2) rfl rfl rfl g_503_16 g_503_60 (by decide +kernel) (by decide +kernel) rfl rfl (by decide +kernel) ⟨Nat.le_of_ble_eq_true rfl, Nat.le_of_ble_eq_true rfl, Nat.le_of_ble_eq_true rfl⟩ ?_
  intro h_504 e_504 f_504 l_504
  have k_504 : cL h_504 := l_504.trans k_503
  have fr_504 := hfr_wb fr_503 f_504 l_504 rfl
  clear l_504
  have g_504_0 := (f_504 0 (Nat.ne_of_beq_eq_false rfl)).trans g_503_0
  have g_504_7 := (f_504 7 (Nat.ne_of_beq_eq_false rfl)).trans g_503_7
  have g_504_10 := (f_504 10 (Nat.ne_of_beq_eq_false rfl)).trans g_503_10
  have g_504_14 := (f_504 14 (Nat.ne_of_beq_eq_false rfl)).trans g_503_14
  have g_504_15 := (f_504 15 (Nat.ne_of_beq_eq_false rfl)).trans g_503_15
  have g_504_16 := (f_504 16 (Nat.ne_of_beq_eq_false rfl)).trans g_503_16
  have g_504_57 := (f_504 57 (Nat.ne_of_beq_eq_false rfl)).trans g_503_57
  have g_504_58 := (f_504 58 (Nat.ne_of_beq_eq_false rfl)).trans g_503_58
  have g_504_59 := (f_504 59 (Nat.ne_of_beq_eq_false rfl)).trans g_503_59
  have g_504_61 := (f_504 61 (Nat.ne_of_beq_eq_false rfl)).trans g_503_61
  have g_504_60 : cE h_504 60 (.inl (.int, fA [xa, xb])) := e_504
  refine ik_Wk 2 (pc_q := 43) (loc_q := [some (.ref 58), some (.ref 7), some (.ref 14)]) (st_q := [.ref 14, .ref 58]) (h_q := h_504) (cl_q := 0) (sl_q := 0) rfl ?_
  refine fw_gf rfl rfl g_504_14 rfl ?_
  refine fx_pf rfl rfl g_504_58 (Nat.le_of_ble_eq_true rfl) rfl rfl ?_
  intro h_505 e_505 f_505 l_505
  have k_505 : cL h_505 := l_505.trans k_504
  have fr_505 := hfr_wb fr_504 f_505 l_505 rfl
  clear l_505
  have g_505_0 := (f_505 0 (Nat.ne_of_beq_eq_false rfl)).trans g_504_0
  have g_505_7 := (f_505 7 (Nat.ne_of_beq_eq_false rfl)).trans g_504_7
  have g_505_10 := (f_505 10 (Nat.ne_of_beq_eq_false rfl)).trans g_504_10
  have g_505_14 := (f_505 14 (Nat.ne_of_beq_eq_false rfl)).trans g_504_14
  have g_505_15 := (f_505 15 (Nat.ne_of_beq_eq_false rfl)).trans g_504_15
  have g_505_16 := (f_505 16 (Nat.ne_of_beq_eq_false rfl)).trans g_504_16
  have g_505_57 := (f_505 57 (Nat.ne_of_beq_eq_false rfl)).trans g_504_57
  have g_505_59 := (f_505 59 (Nat.ne_of_beq_eq_false rfl)).trans g_504_59
  have g_505_60 := (f_505 60 (Nat.ne_of_beq_eq_false rfl)).trans g_504_60
  have g_505_61 := (f_505 61 (Nat.ne_of_beq_eq_false rfl)).trans g_504_61
  have g_505_58 : cE h_505 58 (.inr (3, [fI 1, .ref 59, .ref 60, fI mi, fJ id_, fI is_, .ref 61])) := e_505
  refine ik_Wk 2 (pc_q := 51) (loc_q := [some (.ref 58), some (.ref 7), some (.ref 14)]) (st_q := [.ref 14, .ref 58]) (h_q := h_505) (cl_q := 0) (sl_q := 0) rfl ?_
  refine fw_gf rfl rfl g_505_14 rfl ?_
  refine fx_pf rfl rfl g_505_58 (Nat.le_of_ble_eq_true rfl) rfl rfl ?_
  intro h_506 e_506 f_506 l_506
  have k_506 : cL h_506 := l_506.trans k_505
  have fr_506 := hfr_wb fr_505 f_506 l_506 rfl
  clear l_506
  have g_506_0 := (f_506 0 (Nat.ne_of_beq_eq_false rfl)).trans g_505_0
  have g_506_7 := (f_506 7 (Nat.ne_of_beq_eq_false rfl)).trans g_505_7
  have g_506_10 := (f_506 10 (Nat.ne_of_beq_eq_false rfl)).trans g_505_10
  have g_506_14 := (f_506 14 (Nat.ne_of_beq_eq_false rfl)).trans g_505_14
  have g_506_15 := (f_506 15 (Nat.ne_of_beq_eq_false rfl)).trans g_505_15
  have g_506_16 := (f_506 16 (Nat.ne_of_beq_eq_false rfl)).trans g_505_16
  have g_506_57 := (f_506 57 (Nat.ne_of_beq_eq_false rfl)).trans g_505_57
  have g_506_59 := (f_506 59 (Nat.ne_of_beq_eq_false rfl)).trans g_505_59
  have g_506_60 := (f_506 60 (Nat.ne_of_beq_eq_false rfl)).trans g_505_60
  have g_506_61 := (f_506 61 (Nat.ne_of_beq_eq_false rfl)).trans g_505_61
  have g_506_58 : cE h_506 58 (.inr (3, [fI 1, .ref 59, .ref 60, fI mi, fJ dr, fI is_, .ref 61])) := e_506
  refine ik_Wk 2 (pc_q := 59) (loc_q := [some (.ref 58), some (.ref 7), some (.ref 14)]) (st_q := [.ref 7, .ref 58]) (h_q := h_506) (cl_q := 0) (sl_q := 0) rfl ?_
  refine fw_gf rfl rfl g_506_7 rfl ?_
  refine fx_pf rfl rfl g_506_58 (Nat.le_of_ble_eq_true rfl) rfl rfl ?_
  intro h_507 e_507 f_507 l_507
  have k_507 : cL h_507 := l_507.trans k_506
  have fr_507 := hfr_wb fr_506 f_507 l_507 rfl
  clear l_507
  have g_507_0 := (f_507 0 (Nat.ne_of_beq_eq_false rfl)).trans g_506_0
  have g_507_7 := (f_507 7 (Nat.ne_of_beq_eq_false rfl)).trans g_506_7
  have g_507_10 := (f_507 10 (Nat.ne_of_beq_eq_false rfl)).trans g_506_10
  have g_507_14 := (f_507 14 (Nat.ne_of_beq_eq_false rfl)).trans g_506_14
  have g_507_15 := (f_507 15 (Nat.ne_of_beq_eq_false rfl)).trans g_506_15
  have g_507_16 := (f_507 16 (Nat.ne_of_beq_eq_false rfl)).trans g_506_16
  have g_507_57 := (f_507 57 (Nat.ne_of_beq_eq_false rfl)).trans g_506_57
  have g_507_59 := (f_507 59 (Nat.ne_of_beq_eq_false rfl)).trans g_506_59
  have g_507_60 := (f_507 60 (Nat.ne_of_beq_eq_false rfl)).trans g_506_60
  have g_507_61 := (f_507 61 (Nat.ne_of_beq_eq_false rfl)).trans g_506_61
  have g_507_58 : cE h_507 58 (.inr (3, [fI 1, .ref 59, .ref 60, fI mi, fJ dr, fI st, .ref 61])) := e_507
  refine ik_Wk 1 (pc_q := 66) (loc_q := [some (.ref 58), some (.ref 7), some (.ref 14)]) (st_q := [.ref 7]) (h_q := h_507) (cl_q := 0) (sl_q := 0) rfl ?_
  refine fw_gf rfl rfl g_507_7 rfl ?_
  refine ik_Wk 2 (pc_q := 71) (loc_q := [some (.ref 58), some (.ref 7), some (.ref 14)]) (st_q := [.ref 58, fI 0, .ref 10]) (h_q := h_507) (cl_q := 0) (sl_q := 0) rfl ?_
  refine fw_gf rfl rfl g_507_58 rfl ?_
  refine ik_Wk 2 (pc_q := 76) (loc_q := [some (.ref 58), some (.ref 7), some (.ref 14)]) (st_q := [.ref 58, fI 0, .ref 61, fI 0, .ref 10]) (h_q := h_507) (cl_q := 0) (sl_q := 0) rfl ?_
  refine fw_gf rfl rfl g_507_58 rfl ?_
  refine fx_aln rfl g_507_61 ((fA_len _).trans n61) (by decide +kernel) ?_
  refine fx_cpy rfl rfl rfl g_507_10 g_507_61 (by decide +kernel) (by decide +kernel) n10 n61 (by decide +kernel) ⟨Nat.le_of_ble_eq_true rfl, Nat.le_of_ble_eq_true rfl, Nat.le_of_ble_eq_true rfl⟩ ?_
  intro h_508 e_508 f_508 l_508
  have k_508 : cL h_508 := l_508.trans k_507
  have fr_508 := hfr_wb fr_507 f_508 l_508 rfl
  clear l_508
  have g_508_0 := (f_508 0 (Nat.ne_of_beq_eq_false rfl)).trans g_507_0
  have g_508_7 := (f_508 7 (Nat.ne_of_beq_eq_false rfl)).trans g_507_7
  have g_508_10 := (f_508 10 (Nat.ne_of_beq_eq_false rfl)).trans g_507_10
  have g_508_14 := (f_508 14 (Nat.ne_of_beq_eq_false rfl)).trans g_507_14
  have g_508_15 := (f_508 15 (Nat.ne_of_beq_eq_false rfl)).trans g_507_15
  have g_508_16 := (f_508 16 (Nat.ne_of_beq_eq_false rfl)).trans g_507_16
  have g_508_57 := (f_508 57 (Nat.ne_of_beq_eq_false rfl)).trans g_507_57
  have g_508_58 := (f_508 58 (Nat.ne_of_beq_eq_false rfl)).trans g_507_58
  have g_508_59 := (f_508 59 (Nat.ne_of_beq_eq_false rfl)).trans g_507_59
  have g_508_60 := (f_508 60 (Nat.ne_of_beq_eq_false rfl)).trans g_507_60
  have g_508_61 : cE h_508 61 (.inl (.int, fA ch)) := e_508
  refine ik_Wret rfl rfl ⟨_, _, rfl, rfl, ?_⟩
  refine ik_Wk 0 (pc_q := 28) (loc_q := [some (.ref 0), some (fI 0)]) (st_q := []) (h_q := h_508) (cl_q := 0) (sl_q := 0) rfl ?_
  refine ik_Wk 1 (pc_q := 29) (loc_q := [some (.ref 0), some (fI 0)]) (st_q := [fI 1]) (h_q := h_508) (cl_q := 0) (sl_q := 0) rfl ?_
  exact ik_Wret rfl rfl ⟨_, _, rfl, rfl, rfl, rfl, ⟨rfl, g_508_58, g_508_59, g_508_60, g_508_61, n10, fr_508⟩⟩

theorem cp_goBack0T {h : List ik_E} {pl : Int} {s : Nat} {lo : Int} {im_ : Int} {id_ : Int} {s2 : Nat} {e0 : Int} {e1 : Int} {e2 : Int} {e3 : Int} {e4 : Int} {e5 : Int} {y0 : Int} {y1 : Int} {ci : List Int} {ka : Int} {pa : Int} {fa : Int} {kb : Int} {pb : Int} {fb : Int} {xa : Int} {xb : Int} {mi : Int} {dr : Int} {cn : List Int} {go : List Int} {ch : List Int} {wg : List Int} {wc : List Int} {we : List Int} (q0 : 0 ≤ pl ∧ pl ≤ 12) (q1 : s2 < 4096) (q2 : mx_rw pl cn go ci) (q3 : 1 ≤ pl → cn.getD (pl - 1).toNat 0 = 0) (q4 : 1 ≤ pl → s2.testBit (pl - 1).toNat = false) (h0 : cE h 0 (.inr (9, [.ref 1, .ref 7, .ref 14, .ref 17, .ref 45, .ref 51, .ref 54, .ref 57]))) (h7 : cE h 7 (.inr (0, [fI pl, fI ((s : Nat) : Int), fI lo, .ref 8, .ref 9, .ref 10, .ref 11, .ref 12, .ref 13]))) (h8 : cE h 8 (.inl (.int, fA cn))) (n8 : cn.length = (12 : Nat)) (h9 : cE h 9 (.inl (.int, fA go))) (n9 : go.length = (48 : Nat)) (h10 : cE h 10 (.inl (.int, fA ch))) (n10 : ch.length = (48 : Nat)) (h11 : cE h 11 (.inl (.int, fA wg))) (n11 : wg.length = (60 : Nat)) (h12 : cE h 12 (.inl (.int, fA wc))) (n12 : wc.length = (60 : Nat)) (h13 : cE h 13 (.inl (.int, fA we))) (n13 : we.length = (12 : Nat)) (h14 : cE h 14 (.inr (1, [.ref 7, .ref 15, .ref 16, fI mi, fJ dr]))) (h15 : cE h 15 (.inl (.int, fA [ka, pa, fa, kb, pb, fb]))) (h16 : cE h 16 (.inl (.int, fA [xa, xb]))) (h57 : cE h 57 (.inl (.object "SlowerCork$Image", [.ref 58, .ref 62]))) (h58 : cE h 58 (.inr (3, [fI 1, .ref 59, .ref 60, fI im_, fJ id_, fI ((s2 : Nat) : Int), .ref 61]))) (h59 : cE h 59 (.inl (.int, fA [e0, e1, e2, e3, e4, e5]))) (h60 : cE h 60 (.inl (.int, fA [y0, y1]))) (h61 : cE h 61 (.inl (.int, fA ci))) (n61 : ci.length = (48 : Nat)) (hl : h.length = (94 : Nat)) : ik_F 120 [.ref 0, fI 0] h (fun rv h_q => ∃ (wg' : List Int) (wc' : List Int) (we' : List Int), rv = [fI 1] ∧ cE h_q 7 (.inr (0, [fI pl, fI ((s2 : Nat) : Int), fI lo, .ref 8, .ref 9, .ref 10, .ref 11, .ref 12, .ref 13])) ∧ cE h_q 10 (.inl (.int, fA ci)) ∧ ci.length = (48 : Nat) ∧ cE h_q 11 (.inl (.int, fA wg')) ∧ wg'.length = (60 : Nat) ∧ cE h_q 12 (.inl (.int, fA wc')) ∧ wc'.length = (60 : Nat) ∧ cE h_q 13 (.inl (.int, fA we')) ∧ we'.length = (12 : Nat) ∧ cE h_q 14 (.inr (1, [.ref 7, .ref 15, .ref 16, fI im_, fJ id_])) ∧ cE h_q 15 (.inl (.int, fA [e0, e1, e2, e3, e4, e5])) ∧ cE h_q 16 (.inl (.int, fA [y0, y1])) ∧ (∀ x : Int, (0 : Int) ≤ x → x < pl - 1 → mx_wy wg' wc' we' x (mx_w cn go ci s2 x)) ∧ hfr [7, 10, 11, 12, 13, 14, 15, 16] h h_q) := by
  refine ik_Wk 2 (pc_q := 2) (loc_q := [some (.ref 0), some (fI 0)]) (st_q := [fI 0, .ref 0]) (h_q := h) (cl_q := 0) (sl_q := 0) rfl ?_
  refine ik_Wc 124 2 0 [.ref 0, fI 0] [] rfl rfl rfl (by decide +kernel) rfl rfl (fw_rec hl rfl h0 rfl (Nat.le_of_ble_eq_true rfl)) ?_
  refine ik_Wk 0 (pc_q := 0) (loc_q := [some (.ref 0), some (fI 0)]) (st_q := []) (h_q := h) (cl_q := 0) (sl_q := 0) rfl ?_
  refine ik_Wk 1 (pc_q := 1) (loc_q := [some (.ref 0), some (fI 0)]) (st_q := [fI 0]) (h_q := h) (cl_q := 0) (sl_q := 0) rfl ?_
  refine fw_if_lt rfl rfl (by decide +kernel) (by decide +kernel) (fun hc1 => absurd hc1 (by decide +kernel)) (fun hc1 => ?_)
  refine ik_Wk 2 (pc_q := 6) (loc_q := [some (.ref 0), some (fI 0)]) (st_q := [.ref 0, fI 0]) (h_q := h) (cl_q := 0) (sl_q := 0) rfl ?_
  refine fw_gf rfl rfl h0 rfl ?_
  refine fx_aln (L := 2) rfl h57 (rfl : [(.ref 58 : Value), (.ref 62 : Value)].length = 2) (by decide +kernel) ?_
  refine fw_ic_ge rfl rfl (by omega) (by omega) (by omega) (by omega) (fun hc2 => absurd hc2 (by omega)) (fun hc2 => ?_)
  refine ik_Wk 2 (pc_q := 18) (loc_q := [some (.ref 0), some (fI 0)]) (st_q := [fI 1]) (h_q := h) (cl_q := 0) (sl_q := 0) rfl ?_
  refine ik_Wret rfl rfl ⟨_, _, rfl, rfl, ?_⟩
  refine ik_Wk 0 (pc_q := 5) (loc_q := [some (.ref 0), some (fI 0)]) (st_q := [fI 1]) (h_q := h) (cl_q := 0) (sl_q := 0) rfl ?_
  refine fw_if_ne rfl rfl (by decide +kernel) (by decide +kernel) (fun hc3 => absurd hc3 (by decide +kernel)) (fun hc3 => ?_)
  refine ik_Wk 1 (pc_q := 12) (loc_q := [some (.ref 0), some (fI 0)]) (st_q := [.ref 0]) (h_q := h) (cl_q := 0) (sl_q := 0) rfl ?_
  refine fw_gf rfl rfl h0 rfl ?_
  refine ik_Wk 1 (pc_q := 16) (loc_q := [some (.ref 0), some (fI 0)]) (st_q := [fI 0, .ref 57]) (h_q := h) (cl_q := 0) (sl_q := 0) rfl ?_
  refine fx_aal (z := 0) rfl h57 (by decide +kernel) (by decide +kernel) rfl ?_
  refine fw_gf rfl rfl h58 rfl ?_
  refine fw_if_ne rfl rfl (by omega) (by omega) (fun hc4 => absurd hc4 (by omega)) (fun hc4 => ?_)
  refine ik_Wk 1 (pc_q := 27) (loc_q := [some (.ref 0), some (fI 0)]) (st_q := [.ref 0]) (h_q := h) (cl_q := 0) (sl_q := 0) rfl ?_
  refine fw_gf rfl rfl h0 rfl ?_
  refine ik_Wk 1 (pc_q := 31) (loc_q := [some (.ref 0), some (fI 0)]) (st_q := [fI 0, .ref 57]) (h_q := h) (cl_q := 0) (sl_q := 0) rfl ?_
  refine fx_aal (z := 0) rfl h57 (by decide +kernel) (by decide +kernel) rfl ?_
  refine ik_Wk 1 (pc_q := 33) (loc_q := [some (.ref 0), some (fI 0)]) (st_q := [.ref 0, .ref 58]) (h_q := h) (cl_q := 0) (sl_q := 0) rfl ?_
  refine fw_gf rfl rfl h0 rfl ?_
  refine ik_Wk 1 (pc_q := 37) (loc_q := [some (.ref 0), some (fI 0)]) (st_q := [.ref 0, .ref 7, .ref 58]) (h_q := h) (cl_q := 0) (sl_q := 0) rfl ?_
  refine fw_gf rfl rfl h0 rfl ?_
  refine ik_Wc 35 3 0 [.ref 58, .ref 7, .ref 14] [] rfl rfl rfl (by decide +kernel) rfl rfl (fw_rec hl rfl h58 rfl (Nat.le_of_ble_eq_true rfl)) ?_
  refine ik_Wk 0 (pc_q := 0) (loc_q := [some (.ref 58), some (.ref 7), some (.ref 14)]) (st_q := []) (h_q := h) (cl_q := 0) (sl_q := 0) rfl ?_
  refine ik_Wk 1 (pc_q := 1) (loc_q := [some (.ref 58), some (.ref 7), some (.ref 14)]) (st_q := [.ref 58]) (h_q := h) (cl_q := 0) (sl_q := 0) rfl ?_
  refine fw_gf rfl rfl h58 rfl ?_
  refine ik_Wk 2 (pc_q := 6) (loc_q := [some (.ref 58), some (.ref 7), some (.ref 14)]) (st_q := [.ref 14, fI 0, .ref 59]) (h_q := h) (cl_q := 0) (sl_q := 0) rfl ?_
  refine fw_gf rfl rfl h14 rfl ?_
  refine ik_Wk 2 (pc_q := 11) (loc_q := [some (.ref 58), some (.ref 7), some (.ref 14)]) (st_q := [.ref 58, fI 0, .ref 15, fI 0, .ref 59]) (h_q := h) (cl_q := 0) (sl_q := 0) rfl ?_
  refine fw_gf rfl rfl h58 rfl ?_
  refine fx_aln (L := 6) rfl h59 rfl (by decide +kernel) ?_
  refine fx_cpy (xs := [e0, e1, e2, e3, e4, e5]) (ys := [ka, pa, fa, kb, pb, fb]) (n := 6) rfl rfl rfl h59 h15 (by decide +kernel) (by decide +kernel) rfl rfl (by decide +kernel) ⟨Nat.le_of_ble_eq_true rfl, Nat.le_of_ble_eq_true rfl, Nat.le_of_ble_eq_true rfl⟩ ?_
  intro h_509 e_509 f_509 l_509
  have k_509 : cL h_509 := l_509.trans hl
  have fr_509 := hfr_wb (hfr_refl [7, 10, 11, 12, 13, 14, 15, 16] h) f_509 l_509 rfl
  clear l_509
  have g_509_0 := (f_509 0 (Nat.ne_of_beq_eq_false rfl)).trans h0
  have g_509_7 := (f_509 7 (Nat.ne_of_beq_eq_false rfl)).trans h7
  have g_509_8 := (f_509 8 (Nat.ne_of_beq_eq_false rfl)).trans h8
  have g_509_9 := (f_509 9 (Nat.ne_of_beq_eq_false rfl)).trans h9
  have g_509_10 := (f_509 10 (Nat.ne_of_beq_eq_false rfl)).trans h10
  have g_509_11 := (f_509 11 (Nat.ne_of_beq_eq_false rfl)).trans h11
  have g_509_12 := (f_509 12 (Nat.ne_of_beq_eq_false rfl)).trans h12
  have g_509_13 := (f_509 13 (Nat.ne_of_beq_eq_false rfl)).trans h13
  have g_509_14 := (f_509 14 (Nat.ne_of_beq_eq_false rfl)).trans h14
  have g_509_16 := (f_509 16 (Nat.ne_of_beq_eq_false rfl)).trans h16
  have g_509_57 := (f_509 57 (Nat.ne_of_beq_eq_false rfl)).trans h57
  have g_509_58 := (f_509 58 (Nat.ne_of_beq_eq_false rfl)).trans h58
  have g_509_59 := (f_509 59 (Nat.ne_of_beq_eq_false rfl)).trans h59
  have g_509_60 := (f_509 60 (Nat.ne_of_beq_eq_false rfl)).trans h60
  have g_509_61 := (f_509 61 (Nat.ne_of_beq_eq_false rfl)).trans h61
  have g_509_15 : cE h_509 15 (.inl (.int, fA [e0, e1, e2, e3, e4, e5])) := e_509
  refine ik_Wk 1 (pc_q := 19) (loc_q := [some (.ref 58), some (.ref 7), some (.ref 14)]) (st_q := [.ref 58]) (h_q := h_509) (cl_q := 0) (sl_q := 0) rfl ?_
  refine fw_gf rfl rfl g_509_58 rfl ?_
  refine ik_Wk 2 (pc_q := 24) (loc_q := [some (.ref 58), some (.ref 7), some (.ref 14)]) (st_q := [.ref 14, fI 0, .ref 60]) (h_q := h_509) (cl_q := 0) (sl_q := 0) rfl ?_
  refine fw_gf rfl rfl g_509_14 rfl ?_
  refine ik_Wk 2 (pc_q := 29) (loc_q := [some (.ref 58), some (.ref 7), some (.ref 14)]) (st_q := [.ref 58, fI 0, .ref 16, fI 0, .ref 60]) (h_q := h_509) (cl_q := 0) (sl_q := 0) rfl ?_
  refine fw_gf rfl rfl g_509_58 rfl ?_
  refine fx_aln (L := 2) rfl g_509_60 rfl (by decide +kernel) ?_
  refine fx_cpy (xs := [y0, y1]) (ys := [xa, xb]) (n := 2) rfl rfl rfl g_509_60 g_509_16 (by decide +kernel) (by decide +kernel) rfl rfl (by decide +kernel) ⟨Nat.le_of_ble_eq_true rfl, Nat.le_of_ble_eq_true rfl, Nat.le_of_ble_eq_true rfl⟩ ?_
  intro h_510 e_510 f_510 l_510
  have k_510 : cL h_510 := l_510.trans k_509
  have fr_510 := hfr_wb fr_509 f_510 l_510 rfl
  clear l_510
  have g_510_0 := (f_510 0 (Nat.ne_of_beq_eq_false rfl)).trans g_509_0
  have g_510_7 := (f_510 7 (Nat.ne_of_beq_eq_false rfl)).trans g_509_7
  have g_510_8 := (f_510 8 (Nat.ne_of_beq_eq_false rfl)).trans g_509_8
  have g_510_9 := (f_510 9 (Nat.ne_of_beq_eq_false rfl)).trans g_509_9
  have g_510_10 := (f_510 10 (Nat.ne_of_beq_eq_false rfl)).trans g_509_10
  have g_510_11 := (f_510 11 (Nat.ne_of_beq_eq_false rfl)).trans g_509_11
  have g_510_12 := (f_510 12 (Nat.ne_of_beq_eq_false rfl)).trans g_509_12
  have g_510_13 := (f_510 13 (Nat.ne_of_beq_eq_false rfl)).trans g_509_13
  have g_510_14 := (f_510 14 (Nat.ne_of_beq_eq_false rfl)).trans g_509_14
  have g_510_15 := (f_510 15 (Nat.ne_of_beq_eq_false rfl)).trans g_509_15
  have g_510_57 := (f_510 57 (Nat.ne_of_beq_eq_false rfl)).trans g_509_57
  have g_510_58 := (f_510 58 (Nat.ne_of_beq_eq_false rfl)).trans g_509_58
  have g_510_59 := (f_510 59 (Nat.ne_of_beq_eq_false rfl)).trans g_509_59
  have g_510_60 := (f_510 60 (Nat.ne_of_beq_eq_false rfl)).trans g_509_60
  have g_510_61 := (f_510 61 (Nat.ne_of_beq_eq_false rfl)).trans g_509_61
  have g_510_16 : cE h_510 16 (.inl (.int, fA [y0, y1])) := e_510
  refine ik_Wk 2 (pc_q := 38) (loc_q := [some (.ref 58), some (.ref 7), some (.ref 14)]) (st_q := [.ref 58, .ref 14]) (h_q := h_510) (cl_q := 0) (sl_q := 0) rfl ?_
  refine fw_gf rfl rfl g_510_58 rfl ?_
  refine fx_pf rfl rfl g_510_14 (Nat.le_of_ble_eq_true rfl) rfl rfl ?_
  intro h_511 e_511 f_511 l_511
  have k_511 : cL h_511 := l_511.trans k_510
  have fr_511 := hfr_wb fr_510 f_511 l_511 rfl
  clear l_511
  have g_511_0 := (f_511 0 (Nat.ne_of_beq_eq_false rfl)).trans g_510_0
  have g_511_7 := (f_511 7 (Nat.ne_of_beq_eq_false rfl)).trans g_510_7
  have g_511_8 := (f_511 8 (Nat.ne_of_beq_eq_false rfl)).trans g_510_8
  have g_511_9 := (f_511 9 (Nat.ne_of_beq_eq_false rfl)).trans g_510_9
  have g_511_10 := (f_511 10 (Nat.ne_of_beq_eq_false rfl)).trans g_510_10
  have g_511_11 := (f_511 11 (Nat.ne_of_beq_eq_false rfl)).trans g_510_11
  have g_511_12 := (f_511 12 (Nat.ne_of_beq_eq_false rfl)).trans g_510_12
  have g_511_13 := (f_511 13 (Nat.ne_of_beq_eq_false rfl)).trans g_510_13
  have g_511_15 := (f_511 15 (Nat.ne_of_beq_eq_false rfl)).trans g_510_15
  have g_511_16 := (f_511 16 (Nat.ne_of_beq_eq_false rfl)).trans g_510_16
  have g_511_57 := (f_511 57 (Nat.ne_of_beq_eq_false rfl)).trans g_510_57
  have g_511_58 := (f_511 58 (Nat.ne_of_beq_eq_false rfl)).trans g_510_58
  have g_511_59 := (f_511 59 (Nat.ne_of_beq_eq_false rfl)).trans g_510_59
  have g_511_60 := (f_511 60 (Nat.ne_of_beq_eq_false rfl)).trans g_510_60
  have g_511_61 := (f_511 61 (Nat.ne_of_beq_eq_false rfl)).trans g_510_61
  have g_511_14 : cE h_511 14 (.inr (1, [.ref 7, .ref 15, .ref 16, fI im_, fJ dr])) := e_511
  refine ik_Wk 2 (pc_q := 46) (loc_q := [some (.ref 58), some (.ref 7), some (.ref 14)]) (st_q := [.ref 58, .ref 14]) (h_q := h_511) (cl_q := 0) (sl_q := 0) rfl ?_
  refine fw_gf rfl rfl g_511_58 rfl ?_
  refine fx_pf rfl rfl g_511_14 (Nat.le_of_ble_eq_true rfl) rfl rfl ?_
  intro h_512 e_512 f_512 l_512
  have k_512 : cL h_512 := l_512.trans k_511
  have fr_512 := hfr_wb fr_511 f_512 l_512 rfl
  clear l_512
  have g_512_0 := (f_512 0 (Nat.ne_of_beq_eq_false rfl)).trans g_511_0
  have g_512_7 := (f_512 7 (Nat.ne_of_beq_eq_false rfl)).trans g_511_7
  have g_512_8 := (f_512 8 (Nat.ne_of_beq_eq_false rfl)).trans g_511_8
  have g_512_9 := (f_512 9 (Nat.ne_of_beq_eq_false rfl)).trans g_511_9
  have g_512_10 := (f_512 10 (Nat.ne_of_beq_eq_false rfl)).trans g_511_10
  have g_512_11 := (f_512 11 (Nat.ne_of_beq_eq_false rfl)).trans g_511_11
  have g_512_12 := (f_512 12 (Nat.ne_of_beq_eq_false rfl)).trans g_511_12
  have g_512_13 := (f_512 13 (Nat.ne_of_beq_eq_false rfl)).trans g_511_13
  have g_512_15 := (f_512 15 (Nat.ne_of_beq_eq_false rfl)).trans g_511_15
  have g_512_16 := (f_512 16 (Nat.ne_of_beq_eq_false rfl)).trans g_511_16
  have g_512_57 := (f_512 57 (Nat.ne_of_beq_eq_false rfl)).trans g_511_57
  have g_512_58 := (f_512 58 (Nat.ne_of_beq_eq_false rfl)).trans g_511_58
  have g_512_59 := (f_512 59 (Nat.ne_of_beq_eq_false rfl)).trans g_511_59
  have g_512_60 := (f_512 60 (Nat.ne_of_beq_eq_false rfl)).trans g_511_60
  have g_512_61 := (f_512 61 (Nat.ne_of_beq_eq_false rfl)).trans g_511_61
  have g_512_14 : cE h_512 14 (.inr (1, [.ref 7, .ref 15, .ref 16, fI im_, fJ id_])) := e_512
  refine ik_Wk 2 (pc_q := 54) (loc_q := [some (.ref 58), some (.ref 7), some (.ref 14)]) (st_q := [.ref 58, .ref 7]) (h_q := h_512) (cl_q := 0) (sl_q := 0) rfl ?_
  refine fw_gf rfl rfl g_512_58 rfl ?_
  refine fx_pf rfl rfl g_512_7 (Nat.le_of_ble_eq_true rfl) rfl rfl ?_
  intro h_513 e_513 f_513 l_513
  have k_513 : cL h_513 := l_513.trans k_512
  have fr_513 := hfr_wb fr_512 f_513 l_513 rfl
  clear l_513
  have g_513_0 := (f_513 0 (Nat.ne_of_beq_eq_false rfl)).trans g_512_0
  have g_513_8 := (f_513 8 (Nat.ne_of_beq_eq_false rfl)).trans g_512_8
  have g_513_9 := (f_513 9 (Nat.ne_of_beq_eq_false rfl)).trans g_512_9
  have g_513_10 := (f_513 10 (Nat.ne_of_beq_eq_false rfl)).trans g_512_10
  have g_513_11 := (f_513 11 (Nat.ne_of_beq_eq_false rfl)).trans g_512_11
  have g_513_12 := (f_513 12 (Nat.ne_of_beq_eq_false rfl)).trans g_512_12
  have g_513_13 := (f_513 13 (Nat.ne_of_beq_eq_false rfl)).trans g_512_13
  have g_513_14 := (f_513 14 (Nat.ne_of_beq_eq_false rfl)).trans g_512_14
  have g_513_15 := (f_513 15 (Nat.ne_of_beq_eq_false rfl)).trans g_512_15
  have g_513_16 := (f_513 16 (Nat.ne_of_beq_eq_false rfl)).trans g_512_16
  have g_513_57 := (f_513 57 (Nat.ne_of_beq_eq_false rfl)).trans g_512_57
  have g_513_58 := (f_513 58 (Nat.ne_of_beq_eq_false rfl)).trans g_512_58
  have g_513_59 := (f_513 59 (Nat.ne_of_beq_eq_false rfl)).trans g_512_59
  have g_513_60 := (f_513 60 (Nat.ne_of_beq_eq_false rfl)).trans g_512_60
  have g_513_61 := (f_513 61 (Nat.ne_of_beq_eq_false rfl)).trans g_512_61
  have g_513_7 : cE h_513 7 (.inr (0, [fI pl, fI ((s2 : Nat) : Int), fI lo, .ref 8, .ref 9, .ref 10, .ref 11, .ref 12, .ref 13])) := e_513
  refine ik_Wk 1 (pc_q := 61) (loc_q := [some (.ref 58), some (.ref 7), some (.ref 14)]) (st_q := [.ref 58]) (h_q := h_513) (cl_q := 0) (sl_q := 0) rfl ?_
  refine fw_gf rfl rfl g_513_58 rfl ?_
  refine ik_Wk 2 (pc_q := 66) (loc_q := [some (.ref 58), some (.ref 7), some (.ref 14)]) (st_q := [.ref 7, fI 0, .ref 61]) (h_q := h_513) (cl_q := 0) (sl_q := 0) rfl ?_
  refine fw_gf rfl rfl g_513_7 rfl ?_
  refine ik_Wk 2 (pc_q := 71) (loc_q := [some (.ref 58), some (.ref 7), some (.ref 14)]) (st_q := [.ref 58, fI 0, .ref 10, fI 0, .ref 61]) (h_q := h_513) (cl_q := 0) (sl_q := 0) rfl ?_
  refine fw_gf rfl rfl g_513_58 rfl ?_
  refine fx_aln rfl g_513_61 ((fA_len _).trans n61) (by decide +kernel) ?_
  refine fx_cpy rfl rfl rfl g_513_61 g_513_10 (by decide +kernel) (by decide +kernel) n61 n10 (by decide +kernel) ⟨Nat.le_of_ble_eq_true rfl, Nat.le_of_ble_eq_true rfl, Nat.le_of_ble_eq_true rfl⟩ ?_
  intro h_514 e_514 f_514 l_514
  have k_514 : cL h_514 := l_514.trans k_513
  have fr_514 := hfr_wb fr_513 f_514 l_514 rfl
  clear l_514
  have g_514_0 := (f_514 0 (Nat.ne_of_beq_eq_false rfl)).trans g_513_0
  have g_514_7 := (f_514 7 (Nat.ne_of_beq_eq_false rfl)).trans g_513_7
  have g_514_8 := (f_514 8 (Nat.ne_of_beq_eq_false rfl)).trans g_513_8
  have g_514_9 := (f_514 9 (Nat.ne_of_beq_eq_false rfl)).trans g_513_9
  have g_514_11 := (f_514 11 (Nat.ne_of_beq_eq_false rfl)).trans g_513_11
  have g_514_12 := (f_514 12 (Nat.ne_of_beq_eq_false rfl)).trans g_513_12
  have g_514_13 := (f_514 13 (Nat.ne_of_beq_eq_false rfl)).trans g_513_13
  have g_514_14 := (f_514 14 (Nat.ne_of_beq_eq_false rfl)).trans g_513_14
  have g_514_15 := (f_514 15 (Nat.ne_of_beq_eq_false rfl)).trans g_513_15
  have g_514_16 := (f_514 16 (Nat.ne_of_beq_eq_false rfl)).trans g_513_16
  have g_514_57 := (f_514 57 (Nat.ne_of_beq_eq_false rfl)).trans g_513_57
  have g_514_58 := (f_514 58 (Nat.ne_of_beq_eq_false rfl)).trans g_513_58
  have g_514_59 := (f_514 59 (Nat.ne_of_beq_eq_false rfl)).trans g_513_59
  have g_514_60 := (f_514 60 (Nat.ne_of_beq_eq_false rfl)).trans g_513_60
  have g_514_61 := (f_514 61 (Nat.ne_of_beq_eq_false rfl)).trans g_513_61
  have g_514_10 : cE h_514 10 (.inl (.int, fA ci)) := e_514
  refine ik_Wk 1 (pc_q := 79) (loc_q := [some (.ref 58), some (.ref 7), some (.ref 14)]) (st_q := [.ref 7]) (h_q := h_514) (cl_q := 0) (sl_q := 0) rfl ?_
  refine fw_call 11 1 0 [.ref 7] [] rfl rfl rfl (Nat.le_of_ble_eq_true rfl) rfl rfl (fw_rec k_514 rfl g_514_7 rfl (Nat.le_of_ble_eq_true rfl)) (cs_settleAll (pl := pl) (lo := lo) (s := s2) (cn := cn) (go := go) (ch := ci) (wg := wg) (wc := wc) (we := we) (by omega) q1 q2 q3 q4 g_514_7 g_514_8 n8 g_514_9 n9 g_514_10 n61 g_514_11 n11 g_514_12 n12 g_514_13 n13 k_514) ?_
  rintro _ h_515 ⟨wg'_515, wc'_515, we'_515, rfl, e_515_11, m_515_11, e_515_12, m_515_12, e_515_13, m_515_13, p_515_0, F_515⟩
  have k_515 : cL h_515 := F_515.1.trans k_514
  have fr_515 := hfr_cb fr_514 F_515 rfl
  have g_515_0 := (hfr_g F_515 0 rfl).trans g_514_0
  have g_515_7 := (hfr_g F_515 7 rfl).trans g_514_7
  have g_515_8 := (hfr_g F_515 8 rfl).trans g_514_8
  have g_515_9 := (hfr_g F_515 9 rfl).trans g_514_9
  have g_515_10 := (hfr_g F_515 10 rfl).trans g_514_10
  have g_515_14 := (hfr_g F_515 14 rfl).trans g_514_14
  have g_515_15 := (hfr_g F_515 15 rfl).trans g_514_15
  have g_515_16 := (hfr_g F_515 16 rfl).trans g_514_16
  have g_515_57 := (hfr_g F_515 57 rfl).trans g_514_57
  have g_515_58 := (hfr_g F_515 58 rfl).trans g_514_58
  have g_515_59 := (hfr_g F_515 59 rfl).trans g_514_59
  have g_515_60 := (hfr_g F_515 60 rfl).trans g_514_60
  have g_515_61 := (hfr_g F_515 61 rfl).trans g_514_61
  have g_515_11 : cE h_515 11 (.inl (.int, fA wg'_515)) := e_515_11
  have g_515_12 : cE h_515 12 (.inl (.int, fA wc'_515)) := e_515_12
  have g_515_13 : cE h_515 13 (.inl (.int, fA we'_515)) := e_515_13
  refine ik_Wk 0 (pc_q := 82) (loc_q := [some (.ref 58), some (.ref 7), some (.ref 14)]) (st_q := []) (h_q := h_515) (cl_q := 0) (sl_q := 0) rfl ?_
  refine ik_Wret rfl rfl ⟨_, _, rfl, rfl, ?_⟩
  refine ik_Wk 0 (pc_q := 43) (loc_q := [some (.ref 0), some (fI 0)]) (st_q := []) (h_q := h_515) (cl_q := 0) (sl_q := 0) rfl ?_
  refine ik_Wk 1 (pc_q := 44) (loc_q := [some (.ref 0), some (fI 0)]) (st_q := [fI 1]) (h_q := h_515) (cl_q := 0) (sl_q := 0) rfl ?_
  exact ik_Wret rfl rfl ⟨_, _, rfl, rfl, rfl, rfl, ⟨wg'_515, wc'_515, we'_515, rfl, g_515_7, g_515_10, n61, g_515_11, m_515_11, g_515_12, m_515_12, g_515_13, m_515_13, g_515_14, g_515_15, g_515_16, p_515_0, fr_515⟩⟩

theorem cp_goBack0N {h : List ik_E} {im_ : Int} {id_ : Int} {is_ : Int}  (h0 : cE h 0 (.inr (9, [.ref 1, .ref 7, .ref 14, .ref 17, .ref 45, .ref 51, .ref 54, .ref 57]))) (h57 : cE h 57 (.inl (.object "SlowerCork$Image", [.ref 58, .ref 62]))) (h58 : cE h 58 (.inr (3, [fI 0, .ref 59, .ref 60, fI im_, fJ id_, fI is_, .ref 61]))) (hl : h.length = 94) : ik_F 120 [.ref 0, fI 0] h (fun rv h_q => rv = [fI (-1000000003)] ∧ hfr [] h h_q) := by
  refine ik_Wk 2 (pc_q := 2) (loc_q := [some (.ref 0), some (fI 0)]) (st_q := [fI 0, .ref 0]) (h_q := h) (cl_q := 0) (sl_q := 0) rfl ?_
  refine ik_Wc 124 2 0 [.ref 0, fI 0] [] rfl rfl rfl (by decide +kernel) rfl rfl (fw_rec hl rfl h0 rfl (Nat.le_of_ble_eq_true rfl)) ?_
  refine ik_Wk 0 (pc_q := 0) (loc_q := [some (.ref 0), some (fI 0)]) (st_q := []) (h_q := h) (cl_q := 0) (sl_q := 0) rfl ?_
  refine ik_Wk 1 (pc_q := 1) (loc_q := [some (.ref 0), some (fI 0)]) (st_q := [fI 0]) (h_q := h) (cl_q := 0) (sl_q := 0) rfl ?_
  refine fw_if_lt rfl rfl (by decide +kernel) (by decide +kernel) (fun hc1 => absurd hc1 (by decide +kernel)) (fun hc1 => ?_)
  refine ik_Wk 2 (pc_q := 6) (loc_q := [some (.ref 0), some (fI 0)]) (st_q := [.ref 0, fI 0]) (h_q := h) (cl_q := 0) (sl_q := 0) rfl ?_
  refine fw_gf rfl rfl h0 rfl ?_
  refine fx_aln (L := 2) rfl h57 (rfl : [(.ref 58 : Value), (.ref 62 : Value)].length = 2) (by decide +kernel) ?_
  refine fw_ic_ge rfl rfl (by omega) (by omega) (by omega) (by omega) (fun hc2 => absurd hc2 (by omega)) (fun hc2 => ?_)
  refine ik_Wk 2 (pc_q := 18) (loc_q := [some (.ref 0), some (fI 0)]) (st_q := [fI 1]) (h_q := h) (cl_q := 0) (sl_q := 0) rfl ?_
  refine ik_Wret rfl rfl ⟨_, _, rfl, rfl, ?_⟩
  refine ik_Wk 0 (pc_q := 5) (loc_q := [some (.ref 0), some (fI 0)]) (st_q := [fI 1]) (h_q := h) (cl_q := 0) (sl_q := 0) rfl ?_
  refine fw_if_ne rfl rfl (by decide +kernel) (by decide +kernel) (fun hc3 => absurd hc3 (by decide +kernel)) (fun hc3 => ?_)
  refine ik_Wk 1 (pc_q := 12) (loc_q := [some (.ref 0), some (fI 0)]) (st_q := [.ref 0]) (h_q := h) (cl_q := 0) (sl_q := 0) rfl ?_
  refine fw_gf rfl rfl h0 rfl ?_
  refine ik_Wk 1 (pc_q := 16) (loc_q := [some (.ref 0), some (fI 0)]) (st_q := [fI 0, .ref 57]) (h_q := h) (cl_q := 0) (sl_q := 0) rfl ?_
  refine fx_aal (z := 0) rfl h57 (by decide +kernel) (by decide +kernel) rfl ?_
  refine fw_gf rfl rfl h58 rfl ?_
  refine fw_if_ne rfl rfl (by omega) (by omega) (fun hc4 => ?_) (fun hc4 => absurd hc4 (by omega))
  refine fw_ld (-1000000003) rfl rfl (by decide +kernel) ?_
  exact ik_Wret rfl rfl ⟨_, _, rfl, rfl, rfl, rfl, ⟨rfl, (hfr_refl [] h)⟩⟩

theorem rp_keep0L {h : List ik_E} {f : Nat → Int} {s : Nat} {t0 : Int} {t1 : Int} {ka : Int} {pa : Int} {fa : Int} {kb : Int} {pb : Int} {fb : Int} {xa : Int} {xb : Int} {mi : Int} {sd : Int} {ch : List Int} {im : List Int}   : ∀ (k : Nat) (i : Int) (m1 : List Int) (u : List ik_E) (u66 : cE u 66 (.inr (10, (fI (f 0) :: .ref 67 :: .ref 68 :: .ref 69 :: fI ((s : Nat) : Int) :: .ref 70 :: .ref 71 :: fI mi :: fI sd :: .ref 72 :: fI (f 10) :: fI (f 11) :: fI (f 12) :: fJ (f 13) :: fI (f 14) :: fI (f 15) :: fI (f 16) :: fI (f 17) :: .ref 73 :: .ref 74 :: .ref 75 :: .ref 76 :: .ref 77 :: .ref 78 :: fI (f 24) :: .ref 79 :: .ref 80 :: .ref 81 :: .ref 82 :: .ref 83 :: .ref 84 :: .ref 85 :: fJ (f 32) :: fJ (f 33) :: .ref 86 :: .ref 87 :: fI (f 36) :: .ref 88 :: .ref 89 :: .ref 90 :: .ref 91 :: .ref 92 :: .ref 93 :: [])))) (u69 : cE u 69 (.inl (.int, fA ch))) (n69 : ch.length = (48 : Nat)) (u70 : cE u 70 (.inl (.int, fA [ka, pa, fa, kb, pb, fb]))) (u71 : cE u 71 (.inl (.int, fA [xa, xb]))) (u92 : cE u 92 (.inl (.int, fA m1))) (n92 : m1.length = (160 : Nat)) (u93 : cE u 93 (.inl (.boolean, fA [t0, t1]))) (ul : u.length = (94 : Nat)) (F : hfr [92, 93] h u) (hi : (0 : Int) ≤ i ∧ i ≤ (48 : Int)) (hc : ∀ j : Nat, (j : Int) < i → m1.getD (0 + j) 0 = ch.getD j 0) (ho : mx_out 0 80 im m1) (hk : 48 - i < (k : Int)), ik_G 209 20 [some (.ref 66), some (fI 0), some (fI 0), some (fI i)] [] u (fun rv h_q => ∃ (im' : List Int), rv = [fI 1] ∧ cE h_q 92 (.inl (.int, fA im')) ∧ im'.length = (160 : Nat) ∧ cE h_q 93 (.inl (.boolean, fA [1, t1])) ∧ (mi_ok im' 0 ch ka pa fa kb pb fb xa xb mi s sd) ∧ (mx_out 0 80 im im') ∧ hfr [92, 93] h h_q) := by
  intro k
  induction k with
  | zero => intro i m1 u u66 u69 n69 u70 u71 u92 n92 u93 ul F hi hc ho hk; omega
  | succ k ih =>
    intro i m1 u u66 u69 n69 u70 u71 u92 n92 u93 ul F hi hc ho hk
    refine ik_Wk 1 (pc_q := 21) (loc_q := [some (.ref 66), some (fI 0), some (fI 0), some (fI i)]) (st_q := [fI i]) (h_q := u) (cl_q := 0) (sl_q := 0) rfl ?_
    refine fw_bi rfl (by decide +kernel) ?_
    refine fw_ic_ge rfl rfl (by omega) (by omega) (by omega) (by omega) (fun hc1 => ?_) (fun hc1 => ?_)
    · refine ik_Wk 3 (pc_q := 49) (loc_q := [some (.ref 66), some (fI 0), some (fI 0), some (fI 0)]) (st_q := [fI 0]) (h_q := u) (cl_q := 0) (sl_q := 0) rfl ?_
      refine fw_bi rfl (by decide +kernel) ?_
      refine fw_ic_ge rfl rfl (by omega) (by omega) (by omega) (by omega) (fun hc2 => absurd hc2 (by omega)) (fun hc2 => ?_)
      refine ik_Wk 1 (pc_q := 55) (loc_q := [some (.ref 66), some (fI 0), some (fI 0), some (fI 0)]) (st_q := [.ref 66]) (h_q := u) (cl_q := 0) (sl_q := 0) rfl ?_
      refine fw_gf rfl rfl u66 rfl ?_
      refine ik_Wk 1 (pc_q := 59) (loc_q := [some (.ref 66), some (fI 0), some (fI 0), some (fI 0)]) (st_q := [fI 0, .ref 92]) (h_q := u) (cl_q := 0) (sl_q := 0) rfl ?_
      refine fw_bi rfl (by decide +kernel) ?_
      refine fw_add rfl ?_
      refine ik_Wk 1 (pc_q := 63) (loc_q := [some (.ref 66), some (fI 0), some (fI 0), some (fI 0)]) (st_q := [fI 0, fI 48, .ref 92]) (h_q := u) (cl_q := 0) (sl_q := 0) rfl ?_
      refine fw_add rfl ?_
      refine ik_Wk 1 (pc_q := 65) (loc_q := [some (.ref 66), some (fI 0), some (fI 0), some (fI 0)]) (st_q := [.ref 66, fI 48, .ref 92]) (h_q := u) (cl_q := 0) (sl_q := 0) rfl ?_
      refine fw_gf rfl rfl u66 rfl ?_
      refine ik_Wk 1 (pc_q := 69) (loc_q := [some (.ref 66), some (fI 0), some (fI 0), some (fI 0)]) (st_q := [fI 0, .ref 70, fI 48, .ref 92]) (h_q := u) (cl_q := 0) (sl_q := 0) rfl ?_
      refine fw_ial (z := 0) rfl u70 (by decide +kernel) (Nat.le_of_ble_eq_true rfl) (by decide +kernel) ?_
      refine ik_Wk 0 (pc_q := 70) (loc_q := [some (.ref 66), some (fI 0), some (fI 0), some (fI 0)]) (st_q := [fI ka, fI 48, .ref 92]) (h_q := u) (cl_q := 0) (sl_q := 0) rfl ?_
      have hl3 : (m1.set (48 : Int).toNat ka).length = 160 := (List.length_set ..).trans n92
      refine fx_ias rfl u92 (by omega) (by omega) (by omega) ?_
      intro h_516 e_516 f_516 l_516
      have k_516 : cL h_516 := l_516.trans ul
      have fr_516 := hfr_wb F f_516 l_516 rfl
      clear l_516
      have g_516_66 := (f_516 66 (Nat.ne_of_beq_eq_false rfl)).trans u66
      have g_516_69 := (f_516 69 (Nat.ne_of_beq_eq_false rfl)).trans u69
      have g_516_70 := (f_516 70 (Nat.ne_of_beq_eq_false rfl)).trans u70
      have g_516_71 := (f_516 71 (Nat.ne_of_beq_eq_false rfl)).trans u71
      have g_516_93 := (f_516 93 (Nat.ne_of_beq_eq_false rfl)).trans u93
      have g_516_92 : cE h_516 92 (.inl (.int, fA (m1.set (48 : Int).toNat ka))) := e_516
      refine fw_inc (a := 0) (loc_q := [some (.ref 66), some (fI 0), some (fI 0), some (fI 1)]) rfl rfl (Nat.le_of_ble_eq_true rfl) rfl ?_
      refine ik_Wk 2 (pc_q := 49) (loc_q := [some (.ref 66), some (fI 0), some (fI 0), some (fI 1)]) (st_q := [fI 1]) (h_q := h_516) (cl_q := 0) (sl_q := 0) rfl ?_
      refine fw_bi rfl (by decide +kernel) ?_
      refine fw_ic_ge rfl rfl (by omega) (by omega) (by omega) (by omega) (fun hc4 => absurd hc4 (by omega)) (fun hc4 => ?_)
      refine ik_Wk 1 (pc_q := 55) (loc_q := [some (.ref 66), some (fI 0), some (fI 0), some (fI 1)]) (st_q := [.ref 66]) (h_q := h_516) (cl_q := 0) (sl_q := 0) rfl ?_
      refine fw_gf rfl rfl g_516_66 rfl ?_
      refine ik_Wk 1 (pc_q := 59) (loc_q := [some (.ref 66), some (fI 0), some (fI 0), some (fI 1)]) (st_q := [fI 0, .ref 92]) (h_q := h_516) (cl_q := 0) (sl_q := 0) rfl ?_
      refine fw_bi rfl (by decide +kernel) ?_
      refine fw_add rfl ?_
      refine ik_Wk 1 (pc_q := 63) (loc_q := [some (.ref 66), some (fI 0), some (fI 0), some (fI 1)]) (st_q := [fI 1, fI 48, .ref 92]) (h_q := h_516) (cl_q := 0) (sl_q := 0) rfl ?_
      refine fw_add rfl ?_
      refine ik_Wk 1 (pc_q := 65) (loc_q := [some (.ref 66), some (fI 0), some (fI 0), some (fI 1)]) (st_q := [.ref 66, fI 49, .ref 92]) (h_q := h_516) (cl_q := 0) (sl_q := 0) rfl ?_
      refine fw_gf rfl rfl g_516_66 rfl ?_
      refine ik_Wk 1 (pc_q := 69) (loc_q := [some (.ref 66), some (fI 0), some (fI 0), some (fI 1)]) (st_q := [fI 1, .ref 70, fI 49, .ref 92]) (h_q := h_516) (cl_q := 0) (sl_q := 0) rfl ?_
      refine fw_ial (z := 1) rfl g_516_70 (by decide +kernel) (Nat.le_of_ble_eq_true rfl) (by decide +kernel) ?_
      refine ik_Wk 0 (pc_q := 70) (loc_q := [some (.ref 66), some (fI 0), some (fI 0), some (fI 1)]) (st_q := [fI pa, fI 49, .ref 92]) (h_q := h_516) (cl_q := 0) (sl_q := 0) rfl ?_
      have hl5 : ((m1.set (48 : Int).toNat ka).set (49 : Int).toNat pa).length = 160 := (List.length_set ..).trans hl3
      refine fx_ias rfl g_516_92 (by omega) (by omega) (by omega) ?_
      intro h_517 e_517 f_517 l_517
      have k_517 : cL h_517 := l_517.trans k_516
      have fr_517 := hfr_wb fr_516 f_517 l_517 rfl
      clear l_517
      have g_517_66 := (f_517 66 (Nat.ne_of_beq_eq_false rfl)).trans g_516_66
      have g_517_69 := (f_517 69 (Nat.ne_of_beq_eq_false rfl)).trans g_516_69
      have g_517_70 := (f_517 70 (Nat.ne_of_beq_eq_false rfl)).trans g_516_70
      have g_517_71 := (f_517 71 (Nat.ne_of_beq_eq_false rfl)).trans g_516_71
      have g_517_93 := (f_517 93 (Nat.ne_of_beq_eq_false rfl)).trans g_516_93
      have g_517_92 : cE h_517 92 (.inl (.int, fA ((m1.set (48 : Int).toNat ka).set (49 : Int).toNat pa))) := e_517
      refine fw_inc (a := 1) (loc_q := [some (.ref 66), some (fI 0), some (fI 0), some (fI 2)]) rfl rfl (Nat.le_of_ble_eq_true rfl) rfl ?_
      refine ik_Wk 2 (pc_q := 49) (loc_q := [some (.ref 66), some (fI 0), some (fI 0), some (fI 2)]) (st_q := [fI 2]) (h_q := h_517) (cl_q := 0) (sl_q := 0) rfl ?_
      refine fw_bi rfl (by decide +kernel) ?_
      refine fw_ic_ge rfl rfl (by omega) (by omega) (by omega) (by omega) (fun hc6 => absurd hc6 (by omega)) (fun hc6 => ?_)
      refine ik_Wk 1 (pc_q := 55) (loc_q := [some (.ref 66), some (fI 0), some (fI 0), some (fI 2)]) (st_q := [.ref 66]) (h_q := h_517) (cl_q := 0) (sl_q := 0) rfl ?_
      refine fw_gf rfl rfl g_517_66 rfl ?_
      refine ik_Wk 1 (pc_q := 59) (loc_q := [some (.ref 66), some (fI 0), some (fI 0), some (fI 2)]) (st_q := [fI 0, .ref 92]) (h_q := h_517) (cl_q := 0) (sl_q := 0) rfl ?_
      refine fw_bi rfl (by decide +kernel) ?_
      refine fw_add rfl ?_
      refine ik_Wk 1 (pc_q := 63) (loc_q := [some (.ref 66), some (fI 0), some (fI 0), some (fI 2)]) (st_q := [fI 2, fI 48, .ref 92]) (h_q := h_517) (cl_q := 0) (sl_q := 0) rfl ?_
      refine fw_add rfl ?_
      refine ik_Wk 1 (pc_q := 65) (loc_q := [some (.ref 66), some (fI 0), some (fI 0), some (fI 2)]) (st_q := [.ref 66, fI 50, .ref 92]) (h_q := h_517) (cl_q := 0) (sl_q := 0) rfl ?_
      refine fw_gf rfl rfl g_517_66 rfl ?_
      refine ik_Wk 1 (pc_q := 69) (loc_q := [some (.ref 66), some (fI 0), some (fI 0), some (fI 2)]) (st_q := [fI 2, .ref 70, fI 50, .ref 92]) (h_q := h_517) (cl_q := 0) (sl_q := 0) rfl ?_
      refine fw_ial (z := 2) rfl g_517_70 (by decide +kernel) (Nat.le_of_ble_eq_true rfl) (by decide +kernel) ?_
      refine ik_Wk 0 (pc_q := 70) (loc_q := [some (.ref 66), some (fI 0), some (fI 0), some (fI 2)]) (st_q := [fI fa, fI 50, .ref 92]) (h_q := h_517) (cl_q := 0) (sl_q := 0) rfl ?_
      have hl7 : (((m1.set (48 : Int).toNat ka).set (49 : Int).toNat pa).set (50 : Int).toNat fa).length = 160 := (List.length_set ..).trans hl5
      refine fx_ias rfl g_517_92 (by omega) (by omega) (by omega) ?_
      intro h_518 e_518 f_518 l_518
      have k_518 : cL h_518 := l_518.trans k_517
      have fr_518 := hfr_wb fr_517 f_518 l_518 rfl
      clear l_518
      have g_518_66 := (f_518 66 (Nat.ne_of_beq_eq_false rfl)).trans g_517_66
      have g_518_69 := (f_518 69 (Nat.ne_of_beq_eq_false rfl)).trans g_517_69
      have g_518_70 := (f_518 70 (Nat.ne_of_beq_eq_false rfl)).trans g_517_70
      have g_518_71 := (f_518 71 (Nat.ne_of_beq_eq_false rfl)).trans g_517_71
      have g_518_93 := (f_518 93 (Nat.ne_of_beq_eq_false rfl)).trans g_517_93
      have g_518_92 : cE h_518 92 (.inl (.int, fA (((m1.set (48 : Int).toNat ka).set (49 : Int).toNat pa).set (50 : Int).toNat fa))) := e_518
      refine fw_inc (a := 2) (loc_q := [some (.ref 66), some (fI 0), some (fI 0), some (fI 3)]) rfl rfl (Nat.le_of_ble_eq_true rfl) rfl ?_
      refine ik_Wk 2 (pc_q := 49) (loc_q := [some (.ref 66), some (fI 0), some (fI 0), some (fI 3)]) (st_q := [fI 3]) (h_q := h_518) (cl_q := 0) (sl_q := 0) rfl ?_
      refine fw_bi rfl (by decide +kernel) ?_
      refine fw_ic_ge rfl rfl (by omega) (by omega) (by omega) (by omega) (fun hc8 => absurd hc8 (by omega)) (fun hc8 => ?_)
      refine ik_Wk 1 (pc_q := 55) (loc_q := [some (.ref 66), some (fI 0), some (fI 0), some (fI 3)]) (st_q := [.ref 66]) (h_q := h_518) (cl_q := 0) (sl_q := 0) rfl ?_
      refine fw_gf rfl rfl g_518_66 rfl ?_
      refine ik_Wk 1 (pc_q := 59) (loc_q := [some (.ref 66), some (fI 0), some (fI 0), some (fI 3)]) (st_q := [fI 0, .ref 92]) (h_q := h_518) (cl_q := 0) (sl_q := 0) rfl ?_
      refine fw_bi rfl (by decide +kernel) ?_
      refine fw_add rfl ?_
      refine ik_Wk 1 (pc_q := 63) (loc_q := [some (.ref 66), some (fI 0), some (fI 0), some (fI 3)]) (st_q := [fI 3, fI 48, .ref 92]) (h_q := h_518) (cl_q := 0) (sl_q := 0) rfl ?_
      refine fw_add rfl ?_
      refine ik_Wk 1 (pc_q := 65) (loc_q := [some (.ref 66), some (fI 0), some (fI 0), some (fI 3)]) (st_q := [.ref 66, fI 51, .ref 92]) (h_q := h_518) (cl_q := 0) (sl_q := 0) rfl ?_
      refine fw_gf rfl rfl g_518_66 rfl ?_
      refine ik_Wk 1 (pc_q := 69) (loc_q := [some (.ref 66), some (fI 0), some (fI 0), some (fI 3)]) (st_q := [fI 3, .ref 70, fI 51, .ref 92]) (h_q := h_518) (cl_q := 0) (sl_q := 0) rfl ?_
      refine fw_ial (z := 3) rfl g_518_70 (by decide +kernel) (Nat.le_of_ble_eq_true rfl) (by decide +kernel) ?_
      refine ik_Wk 0 (pc_q := 70) (loc_q := [some (.ref 66), some (fI 0), some (fI 0), some (fI 3)]) (st_q := [fI kb, fI 51, .ref 92]) (h_q := h_518) (cl_q := 0) (sl_q := 0) rfl ?_
      have hl9 : ((((m1.set (48 : Int).toNat ka).set (49 : Int).toNat pa).set (50 : Int).toNat fa).set (51 : Int).toNat kb).length = 160 := (List.length_set ..).trans hl7
      refine fx_ias rfl g_518_92 (by omega) (by omega) (by omega) ?_
      intro h_519 e_519 f_519 l_519
      have k_519 : cL h_519 := l_519.trans k_518
      have fr_519 := hfr_wb fr_518 f_519 l_519 rfl
      clear l_519
      have g_519_66 := (f_519 66 (Nat.ne_of_beq_eq_false rfl)).trans g_518_66
      have g_519_69 := (f_519 69 (Nat.ne_of_beq_eq_false rfl)).trans g_518_69
      have g_519_70 := (f_519 70 (Nat.ne_of_beq_eq_false rfl)).trans g_518_70
      have g_519_71 := (f_519 71 (Nat.ne_of_beq_eq_false rfl)).trans g_518_71
      have g_519_93 := (f_519 93 (Nat.ne_of_beq_eq_false rfl)).trans g_518_93
      have g_519_92 : cE h_519 92 (.inl (.int, fA ((((m1.set (48 : Int).toNat ka).set (49 : Int).toNat pa).set (50 : Int).toNat fa).set (51 : Int).toNat kb))) := e_519
      refine fw_inc (a := 3) (loc_q := [some (.ref 66), some (fI 0), some (fI 0), some (fI 4)]) rfl rfl (Nat.le_of_ble_eq_true rfl) rfl ?_
      refine ik_Wk 2 (pc_q := 49) (loc_q := [some (.ref 66), some (fI 0), some (fI 0), some (fI 4)]) (st_q := [fI 4]) (h_q := h_519) (cl_q := 0) (sl_q := 0) rfl ?_
      refine fw_bi rfl (by decide +kernel) ?_
      refine fw_ic_ge rfl rfl (by omega) (by omega) (by omega) (by omega) (fun hc10 => absurd hc10 (by omega)) (fun hc10 => ?_)
      refine ik_Wk 1 (pc_q := 55) (loc_q := [some (.ref 66), some (fI 0), some (fI 0), some (fI 4)]) (st_q := [.ref 66]) (h_q := h_519) (cl_q := 0) (sl_q := 0) rfl ?_
      refine fw_gf rfl rfl g_519_66 rfl ?_
      refine ik_Wk 1 (pc_q := 59) (loc_q := [some (.ref 66), some (fI 0), some (fI 0), some (fI 4)]) (st_q := [fI 0, .ref 92]) (h_q := h_519) (cl_q := 0) (sl_q := 0) rfl ?_
      refine fw_bi rfl (by decide +kernel) ?_
      refine fw_add rfl ?_
      refine ik_Wk 1 (pc_q := 63) (loc_q := [some (.ref 66), some (fI 0), some (fI 0), some (fI 4)]) (st_q := [fI 4, fI 48, .ref 92]) (h_q := h_519) (cl_q := 0) (sl_q := 0) rfl ?_
      refine fw_add rfl ?_
      refine ik_Wk 1 (pc_q := 65) (loc_q := [some (.ref 66), some (fI 0), some (fI 0), some (fI 4)]) (st_q := [.ref 66, fI 52, .ref 92]) (h_q := h_519) (cl_q := 0) (sl_q := 0) rfl ?_
      refine fw_gf rfl rfl g_519_66 rfl ?_
      refine ik_Wk 1 (pc_q := 69) (loc_q := [some (.ref 66), some (fI 0), some (fI 0), some (fI 4)]) (st_q := [fI 4, .ref 70, fI 52, .ref 92]) (h_q := h_519) (cl_q := 0) (sl_q := 0) rfl ?_
      refine fw_ial (z := 4) rfl g_519_70 (by decide +kernel) (Nat.le_of_ble_eq_true rfl) (by decide +kernel) ?_
      refine ik_Wk 0 (pc_q := 70) (loc_q := [some (.ref 66), some (fI 0), some (fI 0), some (fI 4)]) (st_q := [fI pb, fI 52, .ref 92]) (h_q := h_519) (cl_q := 0) (sl_q := 0) rfl ?_
      have hl11 : (((((m1.set (48 : Int).toNat ka).set (49 : Int).toNat pa).set (50 : Int).toNat fa).set (51 : Int).toNat kb).set (52 : Int).toNat pb).length = 160 := (List.length_set ..).trans hl9
      refine fx_ias rfl g_519_92 (by omega) (by omega) (by omega) ?_
      intro h_520 e_520 f_520 l_520
      have k_520 : cL h_520 := l_520.trans k_519
      have fr_520 := hfr_wb fr_519 f_520 l_520 rfl
      clear l_520
      have g_520_66 := (f_520 66 (Nat.ne_of_beq_eq_false rfl)).trans g_519_66
      have g_520_69 := (f_520 69 (Nat.ne_of_beq_eq_false rfl)).trans g_519_69
      have g_520_70 := (f_520 70 (Nat.ne_of_beq_eq_false rfl)).trans g_519_70
      have g_520_71 := (f_520 71 (Nat.ne_of_beq_eq_false rfl)).trans g_519_71
      have g_520_93 := (f_520 93 (Nat.ne_of_beq_eq_false rfl)).trans g_519_93
      have g_520_92 : cE h_520 92 (.inl (.int, fA (((((m1.set (48 : Int).toNat ka).set (49 : Int).toNat pa).set (50 : Int).toNat fa).set (51 : Int).toNat kb).set (52 : Int).toNat pb))) := e_520
      refine fw_inc (a := 4) (loc_q := [some (.ref 66), some (fI 0), some (fI 0), some (fI 5)]) rfl rfl (Nat.le_of_ble_eq_true rfl) rfl ?_
      refine ik_Wk 2 (pc_q := 49) (loc_q := [some (.ref 66), some (fI 0), some (fI 0), some (fI 5)]) (st_q := [fI 5]) (h_q := h_520) (cl_q := 0) (sl_q := 0) rfl ?_
      refine fw_bi rfl (by decide +kernel) ?_
      refine fw_ic_ge rfl rfl (by omega) (by omega) (by omega) (by omega) (fun hc12 => absurd hc12 (by omega)) (fun hc12 => ?_)
      refine ik_Wk 1 (pc_q := 55) (loc_q := [some (.ref 66), some (fI 0), some (fI 0), some (fI 5)]) (st_q := [.ref 66]) (h_q := h_520) (cl_q := 0) (sl_q := 0) rfl ?_
      refine fw_gf rfl rfl g_520_66 rfl ?_
      refine ik_Wk 1 (pc_q := 59) (loc_q := [some (.ref 66), some (fI 0), some (fI 0), some (fI 5)]) (st_q := [fI 0, .ref 92]) (h_q := h_520) (cl_q := 0) (sl_q := 0) rfl ?_
      refine fw_bi rfl (by decide +kernel) ?_
      refine fw_add rfl ?_
      refine ik_Wk 1 (pc_q := 63) (loc_q := [some (.ref 66), some (fI 0), some (fI 0), some (fI 5)]) (st_q := [fI 5, fI 48, .ref 92]) (h_q := h_520) (cl_q := 0) (sl_q := 0) rfl ?_
      refine fw_add rfl ?_
      refine ik_Wk 1 (pc_q := 65) (loc_q := [some (.ref 66), some (fI 0), some (fI 0), some (fI 5)]) (st_q := [.ref 66, fI 53, .ref 92]) (h_q := h_520) (cl_q := 0) (sl_q := 0) rfl ?_
      refine fw_gf rfl rfl g_520_66 rfl ?_
      refine ik_Wk 1 (pc_q := 69) (loc_q := [some (.ref 66), some (fI 0), some (fI 0), some (fI 5)]) (st_q := [fI 5, .ref 70, fI 53, .ref 92]) (h_q := h_520) (cl_q := 0) (sl_q := 0) rfl ?_
      refine fw_ial (z := 5) rfl g_520_70 (by decide +kernel) (Nat.le_of_ble_eq_true rfl) (by decide +kernel) ?_
      refine ik_Wk 0 (pc_q := 70) (loc_q := [some (.ref 66), some (fI 0), some (fI 0), some (fI 5)]) (st_q := [fI fb, fI 53, .ref 92]) (h_q := h_520) (cl_q := 0) (sl_q := 0) rfl ?_
      have hl13 : ((((((m1.set (48 : Int).toNat ka).set (49 : Int).toNat pa).set (50 : Int).toNat fa).set (51 : Int).toNat kb).set (52 : Int).toNat pb).set (53 : Int).toNat fb).length = 160 := (List.length_set ..).trans hl11
      refine fx_ias rfl g_520_92 (by omega) (by omega) (by omega) ?_
      intro h_521 e_521 f_521 l_521
      have k_521 : cL h_521 := l_521.trans k_520
      have fr_521 := hfr_wb fr_520 f_521 l_521 rfl
      clear l_521
      have g_521_66 := (f_521 66 (Nat.ne_of_beq_eq_false rfl)).trans g_520_66
      have g_521_69 := (f_521 69 (Nat.ne_of_beq_eq_false rfl)).trans g_520_69
      have g_521_70 := (f_521 70 (Nat.ne_of_beq_eq_false rfl)).trans g_520_70
      have g_521_71 := (f_521 71 (Nat.ne_of_beq_eq_false rfl)).trans g_520_71
      have g_521_93 := (f_521 93 (Nat.ne_of_beq_eq_false rfl)).trans g_520_93
      have g_521_92 : cE h_521 92 (.inl (.int, fA ((((((m1.set (48 : Int).toNat ka).set (49 : Int).toNat pa).set (50 : Int).toNat fa).set (51 : Int).toNat kb).set (52 : Int).toNat pb).set (53 : Int).toNat fb))) := e_521
      refine fw_inc (a := 5) (loc_q := [some (.ref 66), some (fI 0), some (fI 0), some (fI 6)]) rfl rfl (Nat.le_of_ble_eq_true rfl) rfl ?_
      refine ik_Wk 2 (pc_q := 49) (loc_q := [some (.ref 66), some (fI 0), some (fI 0), some (fI 6)]) (st_q := [fI 6]) (h_q := h_521) (cl_q := 0) (sl_q := 0) rfl ?_
      refine fw_bi rfl (by decide +kernel) ?_
      refine fw_ic_ge rfl rfl (by omega) (by omega) (by omega) (by omega) (fun hc14 => ?_) (fun hc14 => absurd hc14 (by omega))
      refine ik_Wk 1 (pc_q := 78) (loc_q := [some (.ref 66), some (fI 0), some (fI 0), some (fI 6)]) (st_q := [.ref 66]) (h_q := h_521) (cl_q := 0) (sl_q := 0) rfl ?_
      refine fw_gf rfl rfl g_521_66 rfl ?_
      refine ik_Wk 1 (pc_q := 82) (loc_q := [some (.ref 66), some (fI 0), some (fI 0), some (fI 6)]) (st_q := [fI 0, .ref 92]) (h_q := h_521) (cl_q := 0) (sl_q := 0) rfl ?_
      refine fw_bi rfl (by decide +kernel) ?_
      refine fw_add rfl ?_
      refine ik_Wk 1 (pc_q := 86) (loc_q := [some (.ref 66), some (fI 0), some (fI 0), some (fI 6)]) (st_q := [.ref 66, fI 54, .ref 92]) (h_q := h_521) (cl_q := 0) (sl_q := 0) rfl ?_
      refine fw_gf rfl rfl g_521_66 rfl ?_
      refine ik_Wk 1 (pc_q := 90) (loc_q := [some (.ref 66), some (fI 0), some (fI 0), some (fI 6)]) (st_q := [fI 0, .ref 71, fI 54, .ref 92]) (h_q := h_521) (cl_q := 0) (sl_q := 0) rfl ?_
      refine fw_ial (z := 0) rfl g_521_71 (by decide +kernel) (Nat.le_of_ble_eq_true rfl) (by decide +kernel) ?_
      refine ik_Wk 0 (pc_q := 91) (loc_q := [some (.ref 66), some (fI 0), some (fI 0), some (fI 6)]) (st_q := [fI xa, fI 54, .ref 92]) (h_q := h_521) (cl_q := 0) (sl_q := 0) rfl ?_
      have hl15 : (((((((m1.set (48 : Int).toNat ka).set (49 : Int).toNat pa).set (50 : Int).toNat fa).set (51 : Int).toNat kb).set (52 : Int).toNat pb).set (53 : Int).toNat fb).set (54 : Int).toNat xa).length = 160 := (List.length_set ..).trans hl13
      refine fx_ias rfl g_521_92 (by omega) (by omega) (by omega) ?_
      intro h_522 e_522 f_522 l_522
      have k_522 : cL h_522 := l_522.trans k_521
      have fr_522 := hfr_wb fr_521 f_522 l_522 rfl
      clear l_522
      have g_522_66 := (f_522 66 (Nat.ne_of_beq_eq_false rfl)).trans g_521_66
      have g_522_69 := (f_522 69 (Nat.ne_of_beq_eq_false rfl)).trans g_521_69
      have g_522_70 := (f_522 70 (Nat.ne_of_beq_eq_false rfl)).trans g_521_70
      have g_522_71 := (f_522 71 (Nat.ne_of_beq_eq_false rfl)).trans g_521_71
      have g_522_93 := (f_522 93 (Nat.ne_of_beq_eq_false rfl)).trans g_521_93
      have g_522_92 : cE h_522 92 (.inl (.int, fA (((((((m1.set (48 : Int).toNat ka).set (49 : Int).toNat pa).set (50 : Int).toNat fa).set (51 : Int).toNat kb).set (52 : Int).toNat pb).set (53 : Int).toNat fb).set (54 : Int).toNat xa))) := e_522
      refine ik_Wk 1 (pc_q := 93) (loc_q := [some (.ref 66), some (fI 0), some (fI 0), some (fI 6)]) (st_q := [.ref 66]) (h_q := h_522) (cl_q := 0) (sl_q := 0) rfl ?_
      refine fw_gf rfl rfl g_522_66 rfl ?_
      refine ik_Wk 1 (pc_q := 97) (loc_q := [some (.ref 66), some (fI 0), some (fI 0), some (fI 6)]) (st_q := [fI 0, .ref 92]) (h_q := h_522) (cl_q := 0) (sl_q := 0) rfl ?_
      refine fw_bi rfl (by decide +kernel) ?_
      refine fw_add rfl ?_
      refine ik_Wk 1 (pc_q := 101) (loc_q := [some (.ref 66), some (fI 0), some (fI 0), some (fI 6)]) (st_q := [.ref 66, fI 55, .ref 92]) (h_q := h_522) (cl_q := 0) (sl_q := 0) rfl ?_
      refine fw_gf rfl rfl g_522_66 rfl ?_
      refine ik_Wk 1 (pc_q := 105) (loc_q := [some (.ref 66), some (fI 0), some (fI 0), some (fI 6)]) (st_q := [fI 1, .ref 71, fI 55, .ref 92]) (h_q := h_522) (cl_q := 0) (sl_q := 0) rfl ?_
      refine fw_ial (z := 1) rfl g_522_71 (by decide +kernel) (Nat.le_of_ble_eq_true rfl) (by decide +kernel) ?_
      refine ik_Wk 0 (pc_q := 106) (loc_q := [some (.ref 66), some (fI 0), some (fI 0), some (fI 6)]) (st_q := [fI xb, fI 55, .ref 92]) (h_q := h_522) (cl_q := 0) (sl_q := 0) rfl ?_
      have hl16 : ((((((((m1.set (48 : Int).toNat ka).set (49 : Int).toNat pa).set (50 : Int).toNat fa).set (51 : Int).toNat kb).set (52 : Int).toNat pb).set (53 : Int).toNat fb).set (54 : Int).toNat xa).set (55 : Int).toNat xb).length = 160 := (List.length_set ..).trans hl15
      refine fx_ias rfl g_522_92 (by omega) (by omega) (by omega) ?_
      intro h_523 e_523 f_523 l_523
      have k_523 : cL h_523 := l_523.trans k_522
      have fr_523 := hfr_wb fr_522 f_523 l_523 rfl
      clear l_523
      have g_523_66 := (f_523 66 (Nat.ne_of_beq_eq_false rfl)).trans g_522_66
      have g_523_69 := (f_523 69 (Nat.ne_of_beq_eq_false rfl)).trans g_522_69
      have g_523_70 := (f_523 70 (Nat.ne_of_beq_eq_false rfl)).trans g_522_70
      have g_523_71 := (f_523 71 (Nat.ne_of_beq_eq_false rfl)).trans g_522_71
      have g_523_93 := (f_523 93 (Nat.ne_of_beq_eq_false rfl)).trans g_522_93
      have g_523_92 : cE h_523 92 (.inl (.int, fA ((((((((m1.set (48 : Int).toNat ka).set (49 : Int).toNat pa).set (50 : Int).toNat fa).set (51 : Int).toNat kb).set (52 : Int).toNat pb).set (53 : Int).toNat fb).set (54 : Int).toNat xa).set (55 : Int).toNat xb))) := e_523
      refine ik_Wk 1 (pc_q := 108) (loc_q := [some (.ref 66), some (fI 0), some (fI 0), some (fI 6)]) (st_q := [.ref 66]) (h_q := h_523) (cl_q := 0) (sl_q := 0) rfl ?_
      refine fw_gf rfl rfl g_523_66 rfl ?_
      refine ik_Wk 1 (pc_q := 112) (loc_q := [some (.ref 66), some (fI 0), some (fI 0), some (fI 6)]) (st_q := [fI 0, .ref 92]) (h_q := h_523) (cl_q := 0) (sl_q := 0) rfl ?_
      refine fw_bi rfl (by decide +kernel) ?_
      refine fw_add rfl ?_
      refine ik_Wk 1 (pc_q := 116) (loc_q := [some (.ref 66), some (fI 0), some (fI 0), some (fI 6)]) (st_q := [.ref 66, fI 56, .ref 92]) (h_q := h_523) (cl_q := 0) (sl_q := 0) rfl ?_
      refine fw_gf rfl rfl g_523_66 rfl ?_
      have hl17 : (((((((((m1.set (48 : Int).toNat ka).set (49 : Int).toNat pa).set (50 : Int).toNat fa).set (51 : Int).toNat kb).set (52 : Int).toNat pb).set (53 : Int).toNat fb).set (54 : Int).toNat xa).set (55 : Int).toNat xb).set (56 : Int).toNat mi).length = 160 := (List.length_set ..).trans hl16
      refine fx_ias rfl g_523_92 (by omega) (by omega) (by omega) ?_
      intro h_524 e_524 f_524 l_524
      have k_524 : cL h_524 := l_524.trans k_523
      have fr_524 := hfr_wb fr_523 f_524 l_524 rfl
      clear l_524
      have g_524_66 := (f_524 66 (Nat.ne_of_beq_eq_false rfl)).trans g_523_66
      have g_524_69 := (f_524 69 (Nat.ne_of_beq_eq_false rfl)).trans g_523_69
      have g_524_70 := (f_524 70 (Nat.ne_of_beq_eq_false rfl)).trans g_523_70
      have g_524_71 := (f_524 71 (Nat.ne_of_beq_eq_false rfl)).trans g_523_71
      have g_524_93 := (f_524 93 (Nat.ne_of_beq_eq_false rfl)).trans g_523_93
      have g_524_92 : cE h_524 92 (.inl (.int, fA (((((((((m1.set (48 : Int).toNat ka).set (49 : Int).toNat pa).set (50 : Int).toNat fa).set (51 : Int).toNat kb).set (52 : Int).toNat pb).set (53 : Int).toNat fb).set (54 : Int).toNat xa).set (55 : Int).toNat xb).set (56 : Int).toNat mi))) := e_524
      refine ik_Wk 1 (pc_q := 121) (loc_q := [some (.ref 66), some (fI 0), some (fI 0), some (fI 6)]) (st_q := [.ref 66]) (h_q := h_524) (cl_q := 0) (sl_q := 0) rfl ?_
      refine fw_gf rfl rfl g_524_66 rfl ?_
      refine ik_Wk 1 (pc_q := 125) (loc_q := [some (.ref 66), some (fI 0), some (fI 0), some (fI 6)]) (st_q := [fI 0, .ref 92]) (h_q := h_524) (cl_q := 0) (sl_q := 0) rfl ?_
      refine fw_bi rfl (by decide +kernel) ?_
      refine fw_add rfl ?_
      refine ik_Wk 1 (pc_q := 129) (loc_q := [some (.ref 66), some (fI 0), some (fI 0), some (fI 6)]) (st_q := [.ref 66, fI 57, .ref 92]) (h_q := h_524) (cl_q := 0) (sl_q := 0) rfl ?_
      refine fw_gf rfl rfl g_524_66 rfl ?_
      have hl18 : ((((((((((m1.set (48 : Int).toNat ka).set (49 : Int).toNat pa).set (50 : Int).toNat fa).set (51 : Int).toNat kb).set (52 : Int).toNat pb).set (53 : Int).toNat fb).set (54 : Int).toNat xa).set (55 : Int).toNat xb).set (56 : Int).toNat mi).set (57 : Int).toNat ((s : Nat) : Int)).length = 160 := (List.length_set ..).trans hl17
      refine fx_ias rfl g_524_92 (by omega) (by omega) (by omega) ?_
      intro h_525 e_525 f_525 l_525
      have k_525 : cL h_525 := l_525.trans k_524
      have fr_525 := hfr_wb fr_524 f_525 l_525 rfl
      clear l_525
      have g_525_66 := (f_525 66 (Nat.ne_of_beq_eq_false rfl)).trans g_524_66
      have g_525_69 := (f_525 69 (Nat.ne_of_beq_eq_false rfl)).trans g_524_69
      have g_525_70 := (f_525 70 (Nat.ne_of_beq_eq_false rfl)).trans g_524_70
      have g_525_71 := (f_525 71 (Nat.ne_of_beq_eq_false rfl)).trans g_524_71
      have g_525_93 := (f_525 93 (Nat.ne_of_beq_eq_false rfl)).trans g_524_93
      have g_525_92 : cE h_525 92 (.inl (.int, fA ((((((((((m1.set (48 : Int).toNat ka).set (49 : Int).toNat pa).set (50 : Int).toNat fa).set (51 : Int).toNat kb).set (52 : Int).toNat pb).set (53 : Int).toNat fb).set (54 : Int).toNat xa).set (55 : Int).toNat xb).set (56 : Int).toNat mi).set (57 : Int).toNat ((s : Nat) : Int)))) := e_525
      refine ik_Wk 1 (pc_q := 134) (loc_q := [some (.ref 66), some (fI 0), some (fI 0), some (fI 6)]) (st_q := [.ref 66]) (h_q := h_525) (cl_q := 0) (sl_q := 0) rfl ?_
      refine fw_gf rfl rfl g_525_66 rfl ?_
      refine ik_Wk 1 (pc_q := 138) (loc_q := [some (.ref 66), some (fI 0), some (fI 0), some (fI 6)]) (st_q := [fI 0, .ref 92]) (h_q := h_525) (cl_q := 0) (sl_q := 0) rfl ?_
      refine fw_bi rfl (by decide +kernel) ?_
      refine fw_add rfl ?_
      refine ik_Wk 1 (pc_q := 142) (loc_q := [some (.ref 66), some (fI 0), some (fI 0), some (fI 6)]) (st_q := [.ref 66, fI 58, .ref 92]) (h_q := h_525) (cl_q := 0) (sl_q := 0) rfl ?_
      refine fw_gf rfl rfl g_525_66 rfl ?_
      have hl19 : (((((((((((m1.set (48 : Int).toNat ka).set (49 : Int).toNat pa).set (50 : Int).toNat fa).set (51 : Int).toNat kb).set (52 : Int).toNat pb).set (53 : Int).toNat fb).set (54 : Int).toNat xa).set (55 : Int).toNat xb).set (56 : Int).toNat mi).set (57 : Int).toNat ((s : Nat) : Int)).set (58 : Int).toNat sd).length = 160 := (List.length_set ..).trans hl18
      refine fx_ias rfl g_525_92 (by omega) (by omega) (by omega) ?_
      intro h_526 e_526 f_526 l_526
      have k_526 : cL h_526 := l_526.trans k_525
      have fr_526 := hfr_wb fr_525 f_526 l_526 rfl
      clear l_526
      have g_526_66 := (f_526 66 (Nat.ne_of_beq_eq_false rfl)).trans g_525_66
      have g_526_69 := (f_526 69 (Nat.ne_of_beq_eq_false rfl)).trans g_525_69
      have g_526_70 := (f_526 70 (Nat.ne_of_beq_eq_false rfl)).trans g_525_70
      have g_526_71 := (f_526 71 (Nat.ne_of_beq_eq_false rfl)).trans g_525_71
      have g_526_93 := (f_526 93 (Nat.ne_of_beq_eq_false rfl)).trans g_525_93
      have g_526_92 : cE h_526 92 (.inl (.int, fA (((((((((((m1.set (48 : Int).toNat ka).set (49 : Int).toNat pa).set (50 : Int).toNat fa).set (51 : Int).toNat kb).set (52 : Int).toNat pb).set (53 : Int).toNat fb).set (54 : Int).toNat xa).set (55 : Int).toNat xb).set (56 : Int).toNat mi).set (57 : Int).toNat ((s : Nat) : Int)).set (58 : Int).toNat sd))) := e_526
      refine ik_Wk 1 (pc_q := 147) (loc_q := [some (.ref 66), some (fI 0), some (fI 0), some (fI 6)]) (st_q := [.ref 66]) (h_q := h_526) (cl_q := 0) (sl_q := 0) rfl ?_
      refine fw_gf rfl rfl g_526_66 rfl ?_
      refine ik_Wk 2 (pc_q := 152) (loc_q := [some (.ref 66), some (fI 0), some (fI 0), some (fI 6)]) (st_q := [fI 1, fI 0, .ref 93]) (h_q := h_526) (cl_q := 0) (sl_q := 0) rfl ?_
      refine fx_bsb (z := 0) (v := 1) rfl g_526_93 (by decide +kernel) (Nat.le_of_ble_eq_true rfl) (by decide +kernel) (by decide +kernel) ?_
      intro h_527 e_527 f_527 l_527
      have k_527 : cL h_527 := l_527.trans k_526
      have fr_527 := hfr_wb fr_526 f_527 l_527 rfl
      clear l_527
      have g_527_66 := (f_527 66 (Nat.ne_of_beq_eq_false rfl)).trans g_526_66
      have g_527_69 := (f_527 69 (Nat.ne_of_beq_eq_false rfl)).trans g_526_69
      have g_527_70 := (f_527 70 (Nat.ne_of_beq_eq_false rfl)).trans g_526_70
      have g_527_71 := (f_527 71 (Nat.ne_of_beq_eq_false rfl)).trans g_526_71
      have g_527_92 := (f_527 92 (Nat.ne_of_beq_eq_false rfl)).trans g_526_92
      have g_527_93 : cE h_527 93 (.inl (.boolean, fA [1, t1])) := e_527
      refine ik_Wk 1 (pc_q := 154) (loc_q := [some (.ref 66), some (fI 0), some (fI 0), some (fI 6)]) (st_q := [fI 1]) (h_q := h_527) (cl_q := 0) (sl_q := 0) rfl ?_
      have ew : ((((((((((m1.set (48 : Int).toNat ka).set (49 : Int).toNat pa).set (50 : Int).toNat fa).set (51 : Int).toNat kb).set (52 : Int).toNat pb).set (53 : Int).toNat fb).set (54 : Int).toNat xa).set (55 : Int).toNat xb).set (56 : Int).toNat mi).set (57 : Int).toNat ((s : Nat) : Int)).set (58 : Int).toNat sd = mi_w m1 48 [ka, pa, fa, kb, pb, fb, xa, xb, mi, ((s : Nat) : Int), sd] := rfl
      have gw := mi_w_get [ka, pa, fa, kb, pb, fb, xa, xb, mi, ((s : Nat) : Int), sd] m1 48
      exact ik_Wret rfl rfl ⟨_, _, rfl, rfl, rfl, rfl, ⟨(((((((((((m1.set (48 : Int).toNat ka).set (49 : Int).toNat pa).set (50 : Int).toNat fa).set (51 : Int).toNat kb).set (52 : Int).toNat pb).set (53 : Int).toNat fb).set (54 : Int).toNat xa).set (55 : Int).toNat xb).set (56 : Int).toNat mi).set (57 : Int).toNat ((s : Nat) : Int)).set (58 : Int).toNat sd), rfl, g_527_92, hl19, g_527_93, (by rw [ew]; exact ⟨fun j hj => by rw [gw _ (by simp only [List.length_cons, List.length_nil]; omega), if_neg (by omega)]; exact hc j (by omega), fun j hj => by rw [gw _ (by simp only [List.length_cons, List.length_nil]; omega), if_pos (by simp only [List.length_cons, List.length_nil]; omega), show 0 + 48 + j - 48 = j by omega]⟩), (by rw [ew]; intro j hj; rw [gw _ (by simp only [List.length_cons, List.length_nil]; omega), if_neg (by simp only [List.length_cons, List.length_nil]; omega)]; exact ho j hj), fr_527⟩⟩
    · refine ik_Wk 1 (pc_q := 27) (loc_q := [some (.ref 66), some (fI 0), some (fI 0), some (fI i)]) (st_q := [.ref 66]) (h_q := u) (cl_q := 0) (sl_q := 0) rfl ?_
      refine fw_gf rfl rfl u66 rfl ?_
      refine ik_Wk 2 (pc_q := 32) (loc_q := [some (.ref 66), some (fI 0), some (fI 0), some (fI i)]) (st_q := [fI i, fI 0, .ref 92]) (h_q := u) (cl_q := 0) (sl_q := 0) rfl ?_
      refine fw_add rfl ?_
      refine ik_Wk 1 (pc_q := 34) (loc_q := [some (.ref 66), some (fI 0), some (fI 0), some (fI i)]) (st_q := [.ref 66, fI (0 + i), .ref 92]) (h_q := u) (cl_q := 0) (sl_q := 0) rfl ?_
      refine fw_gf rfl rfl u66 rfl ?_
      refine ik_Wk 1 (pc_q := 38) (loc_q := [some (.ref 66), some (fI 0), some (fI 0), some (fI i)]) (st_q := [fI i, .ref 69, fI (0 + i), .ref 92]) (h_q := u) (cl_q := 0) (sl_q := 0) rfl ?_
      refine fw_ial rfl u69 (by omega) (by omega) (by omega) ?_
      have hl20 : (m1.set (0 + i).toNat (ch.getD i.toNat 0)).length = 160 := (List.length_set ..).trans n92
      refine fx_ias rfl u92 (by omega) (by omega) (by omega) ?_
      intro h_528 e_528 f_528 l_528
      have k_528 : cL h_528 := l_528.trans ul
      have fr_528 := hfr_wb F f_528 l_528 rfl
      clear l_528
      have g_528_66 := (f_528 66 (Nat.ne_of_beq_eq_false rfl)).trans u66
      have g_528_69 := (f_528 69 (Nat.ne_of_beq_eq_false rfl)).trans u69
      have g_528_70 := (f_528 70 (Nat.ne_of_beq_eq_false rfl)).trans u70
      have g_528_71 := (f_528 71 (Nat.ne_of_beq_eq_false rfl)).trans u71
      have g_528_93 := (f_528 93 (Nat.ne_of_beq_eq_false rfl)).trans u93
      have g_528_92 : cE h_528 92 (.inl (.int, fA (m1.set (0 + i).toNat (ch.getD i.toNat 0)))) := e_528
      refine fw_inc (a := i) (loc_q := [some (.ref 66), some (fI 0), some (fI 0), some (fI (i + 1))]) rfl rfl (Nat.le_of_ble_eq_true rfl) rfl ?_
      refine ik_Wk 1 (pc_q := 20) (loc_q := [some (.ref 66), some (fI 0), some (fI 0), some (fI (i + 1))]) (st_q := []) (h_q := h_528) (cl_q := 0) (sl_q := 0) rfl ?_
      have hc2 : ∀ j : Nat, (j : Int) < i + 1 → (m1.set (0 + i).toNat (ch.getD i.toNat 0)).getD (0 + j) 0 = ch.getD j 0 := by
        intro j hj
        rw [fz_getD_set]
        by_cases z : j = i.toNat
        · rw [if_pos ⟨by omega, by omega⟩, z]
        · rw [if_neg (fun y => z (by omega))]; exact hc j (by omega)
      exact ih  (i + 1) (m1.set (0 + i).toNat (ch.getD i.toNat 0)) h_528 g_528_66 g_528_69 n69 g_528_70 g_528_71 g_528_92 hl20 g_528_93 k_528 fr_528 (by omega) hc2 (mx_out_s ho (by omega) (by omega)) (by omega)

theorem rp_keep0 {h : List ik_E} {f : Nat → Int} {s : Nat} {t0 : Int} {t1 : Int} {ka : Int} {pa : Int} {fa : Int} {kb : Int} {pb : Int} {fb : Int} {xa : Int} {xb : Int} {mi : Int} {sd : Int} {ch : List Int} {im : List Int}  (h66 : cE h 66 (.inr (10, (fI (f 0) :: .ref 67 :: .ref 68 :: .ref 69 :: fI ((s : Nat) : Int) :: .ref 70 :: .ref 71 :: fI mi :: fI sd :: .ref 72 :: fI (f 10) :: fI (f 11) :: fI (f 12) :: fJ (f 13) :: fI (f 14) :: fI (f 15) :: fI (f 16) :: fI (f 17) :: .ref 73 :: .ref 74 :: .ref 75 :: .ref 76 :: .ref 77 :: .ref 78 :: fI (f 24) :: .ref 79 :: .ref 80 :: .ref 81 :: .ref 82 :: .ref 83 :: .ref 84 :: .ref 85 :: fJ (f 32) :: fJ (f 33) :: .ref 86 :: .ref 87 :: fI (f 36) :: .ref 88 :: .ref 89 :: .ref 90 :: .ref 91 :: .ref 92 :: .ref 93 :: [])))) (h69 : cE h 69 (.inl (.int, fA ch))) (n69 : ch.length = (48 : Nat)) (h70 : cE h 70 (.inl (.int, fA [ka, pa, fa, kb, pb, fb]))) (h71 : cE h 71 (.inl (.int, fA [xa, xb]))) (h92 : cE h 92 (.inl (.int, fA im))) (n92 : im.length = (160 : Nat)) (h93 : cE h 93 (.inl (.boolean, fA [t0, t1]))) (hl : h.length = (94 : Nat)) : ik_F 209 [.ref 66, fI 0] h (fun rv h_q => ∃ (im' : List Int), rv = [fI 1] ∧ cE h_q 92 (.inl (.int, fA im')) ∧ im'.length = (160 : Nat) ∧ cE h_q 93 (.inl (.boolean, fA [1, t1])) ∧ (mi_ok im' 0 ch ka pa fa kb pb fb xa xb mi s sd) ∧ (mx_out 0 80 im im') ∧ hfr [92, 93] h h_q) := by
  refine ik_Wk 1 (pc_q := 1) (loc_q := [some (.ref 66), some (fI 0), none, none]) (st_q := [fI 0]) (h_q := h) (cl_q := 0) (sl_q := 0) rfl ?_
  refine fw_i2l rfl (by omega) (by omega) ?_
  refine fw_lc (z := 0) rfl (by decide +kernel) ?_
  refine fw_lc (z := 1) rfl (by decide +kernel) ?_
  refine fw_call 127 3 3 [fJ 0, fJ 0, fJ 1] [] rfl rfl rfl (Nat.le_of_ble_eq_true rfl) rfl rfl (fw_sta hl rfl (by decide +kernel)) (cr_in (v := 0) (a := 0) (b := 1) (by omega) (by omega) (by omega)  hl) ?_
  rintro _ h_529 (⟨rfl, p_529_0, F_529⟩ | ⟨rfl, p_529_0, F_529⟩)
  · have k_529 : cL h_529 := F_529.1.trans hl
    have fr_529 := hfr_cb (hfr_refl [92, 93] h) F_529 rfl
    have g_529_66 := (hfr_g F_529 66 rfl).trans h66
    have g_529_69 := (hfr_g F_529 69 rfl).trans h69
    have g_529_70 := (hfr_g F_529 70 rfl).trans h70
    have g_529_71 := (hfr_g F_529 71 rfl).trans h71
    have g_529_92 := (hfr_g F_529 92 rfl).trans h92
    have g_529_93 := (hfr_g F_529 93 rfl).trans h93
    refine ik_Wk 0 (pc_q := 7) (loc_q := [some (.ref 66), some (fI 0), none, none]) (st_q := [fI 1]) (h_q := h_529) (cl_q := 0) (sl_q := 0) rfl ?_
    refine fw_if_ne rfl rfl (by decide +kernel) (by decide +kernel) (fun hc1 => absurd hc1 (by decide +kernel)) (fun hc1 => ?_)
    refine fw_bi rfl (by decide +kernel) ?_
    refine ik_Wk 1 (pc_q := 16) (loc_q := [some (.ref 66), some (fI 0), none, none]) (st_q := [fI 0, fI 80]) (h_q := h_529) (cl_q := 0) (sl_q := 0) rfl ?_
    refine fw_mul rfl ?_
    refine ik_Wk 3 (pc_q := 20) (loc_q := [some (.ref 66), some (fI 0), some (fI 0), some (fI 0)]) (st_q := []) (h_q := h_529) (cl_q := 0) (sl_q := 0) rfl ?_
    exact rp_keep0L (f := f) (s := s) (t0 := t0) (t1 := t1) (ka := ka) (pa := pa) (fa := fa) (kb := kb) (pb := pb) (fb := fb) (xa := xa) (xb := xb) (mi := mi) (sd := sd) (ch := ch) (im := im)   49 0 im h_529 g_529_66 g_529_69 n69 g_529_70 g_529_71 g_529_92 n92 g_529_93 k_529 fr_529 (by omega) (fun j hj => absurd hj (by omega)) (mx_out_r _ _ _) (by omega)
  · have k_529 : cL h_529 := F_529.1.trans hl
    have fr_529 := hfr_cb (hfr_refl [92, 93] h) F_529 rfl
    have g_529_66 := (hfr_g F_529 66 rfl).trans h66
    have g_529_69 := (hfr_g F_529 69 rfl).trans h69
    have g_529_70 := (hfr_g F_529 70 rfl).trans h70
    have g_529_71 := (hfr_g F_529 71 rfl).trans h71
    have g_529_92 := (hfr_g F_529 92 rfl).trans h92
    have g_529_93 := (hfr_g F_529 93 rfl).trans h93
    omega

theorem rp_goBack0L {h : List ik_E} {f : Nat → Int} {s : Nat} {s2 : Nat} {t0 : Int} {t1 : Int} {e0 : Int} {e1 : Int} {e2 : Int} {e3 : Int} {e4 : Int} {e5 : Int} {y0 : Int} {y1 : Int} {m2 : Int} {d2 : Int} {ka : Int} {pa : Int} {fa : Int} {kb : Int} {pb : Int} {fb : Int} {xa : Int} {xb : Int} {mi : Int} {sd : Int} {ch : List Int} {im : List Int} {ci : List Int} (q0 : mi_ok im 0 ci e0 e1 e2 e3 e4 e5 y0 y1 m2 s2 d2) (q1 : ci.length = (48 : Nat))  : ∀ (k : Nat) (i : Int) (c1 : List Int) (u : List ik_E) (u66 : cE u 66 (.inr (10, (fI (f 0) :: .ref 67 :: .ref 68 :: .ref 69 :: fI ((s : Nat) : Int) :: .ref 70 :: .ref 71 :: fI mi :: fI sd :: .ref 72 :: fI (f 10) :: fI (f 11) :: fI (f 12) :: fJ (f 13) :: fI (f 14) :: fI (f 15) :: fI (f 16) :: fI (f 17) :: .ref 73 :: .ref 74 :: .ref 75 :: .ref 76 :: .ref 77 :: .ref 78 :: fI (f 24) :: .ref 79 :: .ref 80 :: .ref 81 :: .ref 82 :: .ref 83 :: .ref 84 :: .ref 85 :: fJ (f 32) :: fJ (f 33) :: .ref 86 :: .ref 87 :: fI (f 36) :: .ref 88 :: .ref 89 :: .ref 90 :: .ref 91 :: .ref 92 :: .ref 93 :: [])))) (u69 : cE u 69 (.inl (.int, fA c1))) (n69 : c1.length = (48 : Nat)) (u70 : cE u 70 (.inl (.int, fA [ka, pa, fa, kb, pb, fb]))) (u71 : cE u 71 (.inl (.int, fA [xa, xb]))) (u92 : cE u 92 (.inl (.int, fA im))) (n92 : im.length = (160 : Nat)) (u93 : cE u 93 (.inl (.boolean, fA [1, t1]))) (ul : u.length = (94 : Nat)) (F : hfr [66, 69, 70, 71] h u) (hi : (0 : Int) ≤ i ∧ i ≤ (48 : Int)) (hc : ∀ j : Nat, (j : Int) < i → c1.getD j 0 = ci.getD j 0) (hk : 48 - i < (k : Int)), ik_G 210 32 [some (.ref 66), some (fI 0), some (fI 0), some (fI i)] [] u (fun rv h_q => rv = [fI 1] ∧ cE h_q 66 (.inr (10, (fI (f 0) :: .ref 67 :: .ref 68 :: .ref 69 :: fI ((s2 : Nat) : Int) :: .ref 70 :: .ref 71 :: fI m2 :: fI d2 :: .ref 72 :: fI (f 10) :: fI (f 11) :: fI (f 12) :: fJ (f 13) :: fI (f 14) :: fI (f 15) :: fI (f 16) :: fI (f 17) :: .ref 73 :: .ref 74 :: .ref 75 :: .ref 76 :: .ref 77 :: .ref 78 :: fI (f 24) :: .ref 79 :: .ref 80 :: .ref 81 :: .ref 82 :: .ref 83 :: .ref 84 :: .ref 85 :: fJ (f 32) :: fJ (f 33) :: .ref 86 :: .ref 87 :: fI (f 36) :: .ref 88 :: .ref 89 :: .ref 90 :: .ref 91 :: .ref 92 :: .ref 93 :: []))) ∧ cE h_q 69 (.inl (.int, fA ci)) ∧ ci.length = (48 : Nat) ∧ cE h_q 70 (.inl (.int, fA [e0, e1, e2, e3, e4, e5])) ∧ cE h_q 71 (.inl (.int, fA [y0, y1])) ∧ hfr [66, 69, 70, 71] h h_q) := by
  intro k
  induction k with
  | zero => intro i c1 u u66 u69 n69 u70 u71 u92 n92 u93 ul F hi hc hk; omega
  | succ k ih =>
    intro i c1 u u66 u69 n69 u70 u71 u92 n92 u93 ul F hi hc hk
    refine ik_Wk 1 (pc_q := 33) (loc_q := [some (.ref 66), some (fI 0), some (fI 0), some (fI i)]) (st_q := [fI i]) (h_q := u) (cl_q := 0) (sl_q := 0) rfl ?_
    refine fw_bi rfl (by decide +kernel) ?_
    refine fw_ic_ge rfl rfl (by omega) (by omega) (by omega) (by omega) (fun hc1 => ?_) (fun hc1 => ?_)
    · refine ik_Wk 3 (pc_q := 61) (loc_q := [some (.ref 66), some (fI 0), some (fI 0), some (fI 0)]) (st_q := [fI 0]) (h_q := u) (cl_q := 0) (sl_q := 0) rfl ?_
      refine fw_bi rfl (by decide +kernel) ?_
      refine fw_ic_ge rfl rfl (by omega) (by omega) (by omega) (by omega) (fun hc2 => absurd hc2 (by omega)) (fun hc2 => ?_)
      refine ik_Wk 1 (pc_q := 67) (loc_q := [some (.ref 66), some (fI 0), some (fI 0), some (fI 0)]) (st_q := [.ref 66]) (h_q := u) (cl_q := 0) (sl_q := 0) rfl ?_
      refine fw_gf rfl rfl u66 rfl ?_
      refine ik_Wk 2 (pc_q := 72) (loc_q := [some (.ref 66), some (fI 0), some (fI 0), some (fI 0)]) (st_q := [.ref 66, fI 0, .ref 70]) (h_q := u) (cl_q := 0) (sl_q := 0) rfl ?_
      refine fw_gf rfl rfl u66 rfl ?_
      refine ik_Wk 1 (pc_q := 76) (loc_q := [some (.ref 66), some (fI 0), some (fI 0), some (fI 0)]) (st_q := [fI 0, .ref 92, fI 0, .ref 70]) (h_q := u) (cl_q := 0) (sl_q := 0) rfl ?_
      refine fw_bi rfl (by decide +kernel) ?_
      refine fw_add rfl ?_
      refine ik_Wk 1 (pc_q := 80) (loc_q := [some (.ref 66), some (fI 0), some (fI 0), some (fI 0)]) (st_q := [fI 0, fI 48, .ref 92, fI 0, .ref 70]) (h_q := u) (cl_q := 0) (sl_q := 0) rfl ?_
      refine fw_add rfl ?_
      refine fw_ial rfl u92 (by omega) (by omega) (by omega) ?_
      refine ik_Wk 0 (pc_q := 82) (loc_q := [some (.ref 66), some (fI 0), some (fI 0), some (fI 0)]) (st_q := [fI (im.getD (48 : Int).toNat 0), fI 0, .ref 70]) (h_q := u) (cl_q := 0) (sl_q := 0) rfl ?_
      rw [show im.getD (48 : Int).toNat 0 = e0 from q0.2 0 (by decide +kernel)]
      refine fx_ias (z := 0) rfl u70 (by decide +kernel) (Nat.le_of_ble_eq_true rfl) (by decide +kernel) ?_
      intro h_530 e_530 f_530 l_530
      have k_530 : cL h_530 := l_530.trans ul
      have fr_530 := hfr_wb F f_530 l_530 rfl
      clear l_530
      have g_530_66 := (f_530 66 (Nat.ne_of_beq_eq_false rfl)).trans u66
      have g_530_69 := (f_530 69 (Nat.ne_of_beq_eq_false rfl)).trans u69
      have g_530_71 := (f_530 71 (Nat.ne_of_beq_eq_false rfl)).trans u71
      have g_530_92 := (f_530 92 (Nat.ne_of_beq_eq_false rfl)).trans u92
      have g_530_93 := (f_530 93 (Nat.ne_of_beq_eq_false rfl)).trans u93
      have g_530_70 : cE h_530 70 (.inl (.int, fA [e0, pa, fa, kb, pb, fb])) := e_530
      refine fw_inc (a := 0) (loc_q := [some (.ref 66), some (fI 0), some (fI 0), some (fI 1)]) rfl rfl (Nat.le_of_ble_eq_true rfl) rfl ?_
      refine ik_Wk 2 (pc_q := 61) (loc_q := [some (.ref 66), some (fI 0), some (fI 0), some (fI 1)]) (st_q := [fI 1]) (h_q := h_530) (cl_q := 0) (sl_q := 0) rfl ?_
      refine fw_bi rfl (by decide +kernel) ?_
      refine fw_ic_ge rfl rfl (by omega) (by omega) (by omega) (by omega) (fun hc3 => absurd hc3 (by omega)) (fun hc3 => ?_)
      refine ik_Wk 1 (pc_q := 67) (loc_q := [some (.ref 66), some (fI 0), some (fI 0), some (fI 1)]) (st_q := [.ref 66]) (h_q := h_530) (cl_q := 0) (sl_q := 0) rfl ?_
      refine fw_gf rfl rfl g_530_66 rfl ?_
      refine ik_Wk 2 (pc_q := 72) (loc_q := [some (.ref 66), some (fI 0), some (fI 0), some (fI 1)]) (st_q := [.ref 66, fI 1, .ref 70]) (h_q := h_530) (cl_q := 0) (sl_q := 0) rfl ?_
      refine fw_gf rfl rfl g_530_66 rfl ?_
      refine ik_Wk 1 (pc_q := 76) (loc_q := [some (.ref 66), some (fI 0), some (fI 0), some (fI 1)]) (st_q := [fI 0, .ref 92, fI 1, .ref 70]) (h_q := h_530) (cl_q := 0) (sl_q := 0) rfl ?_
      refine fw_bi rfl (by decide +kernel) ?_
      refine fw_add rfl ?_
      refine ik_Wk 1 (pc_q := 80) (loc_q := [some (.ref 66), some (fI 0), some (fI 0), some (fI 1)]) (st_q := [fI 1, fI 48, .ref 92, fI 1, .ref 70]) (h_q := h_530) (cl_q := 0) (sl_q := 0) rfl ?_
      refine fw_add rfl ?_
      refine fw_ial rfl g_530_92 (by omega) (by omega) (by omega) ?_
      refine ik_Wk 0 (pc_q := 82) (loc_q := [some (.ref 66), some (fI 0), some (fI 0), some (fI 1)]) (st_q := [fI (im.getD (49 : Int).toNat 0), fI 1, .ref 70]) (h_q := h_530) (cl_q := 0) (sl_q := 0) rfl ?_
      rw [show im.getD (49 : Int).toNat 0 = e1 from q0.2 1 (by decide +kernel)]
      refine fx_ias (z := 1) rfl g_530_70 (by decide +kernel) (Nat.le_of_ble_eq_true rfl) (by decide +kernel) ?_
      intro h_531 e_531 f_531 l_531
      have k_531 : cL h_531 := l_531.trans k_530
      have fr_531 := hfr_wb fr_530 f_531 l_531 rfl
      clear l_531
      have g_531_66 := (f_531 66 (Nat.ne_of_beq_eq_false rfl)).trans g_530_66
      have g_531_69 := (f_531 69 (Nat.ne_of_beq_eq_false rfl)).trans g_530_69
      have g_531_71 := (f_531 71 (Nat.ne_of_beq_eq_false rfl)).trans g_530_71
      have g_531_92 := (f_531 92 (Nat.ne_of_beq_eq_false rfl)).trans g_530_92
      have g_531_93 := (f_531 93 (Nat.ne_of_beq_eq_false rfl)).trans g_530_93
      have g_531_70 : cE h_531 70 (.inl (.int, fA [e0, e1, fa, kb, pb, fb])) := e_531
      refine fw_inc (a := 1) (loc_q := [some (.ref 66), some (fI 0), some (fI 0), some (fI 2)]) rfl rfl (Nat.le_of_ble_eq_true rfl) rfl ?_
      refine ik_Wk 2 (pc_q := 61) (loc_q := [some (.ref 66), some (fI 0), some (fI 0), some (fI 2)]) (st_q := [fI 2]) (h_q := h_531) (cl_q := 0) (sl_q := 0) rfl ?_
      refine fw_bi rfl (by decide +kernel) ?_
      refine fw_ic_ge rfl rfl (by omega) (by omega) (by omega) (by omega) (fun hc4 => absurd hc4 (by omega)) (fun hc4 => ?_)
      refine ik_Wk 1 (pc_q := 67) (loc_q := [some (.ref 66), some (fI 0), some (fI 0), some (fI 2)]) (st_q := [.ref 66]) (h_q := h_531) (cl_q := 0) (sl_q := 0) rfl ?_
      refine fw_gf rfl rfl g_531_66 rfl ?_
      refine ik_Wk 2 (pc_q := 72) (loc_q := [some (.ref 66), some (fI 0), some (fI 0), some (fI 2)]) (st_q := [.ref 66, fI 2, .ref 70]) (h_q := h_531) (cl_q := 0) (sl_q := 0) rfl ?_
      refine fw_gf rfl rfl g_531_66 rfl ?_
      refine ik_Wk 1 (pc_q := 76) (loc_q := [some (.ref 66), some (fI 0), some (fI 0), some (fI 2)]) (st_q := [fI 0, .ref 92, fI 2, .ref 70]) (h_q := h_531) (cl_q := 0) (sl_q := 0) rfl ?_
      refine fw_bi rfl (by decide +kernel) ?_
      refine fw_add rfl ?_
      refine ik_Wk 1 (pc_q := 80) (loc_q := [some (.ref 66), some (fI 0), some (fI 0), some (fI 2)]) (st_q := [fI 2, fI 48, .ref 92, fI 2, .ref 70]) (h_q := h_531) (cl_q := 0) (sl_q := 0) rfl ?_
      refine fw_add rfl ?_
      refine fw_ial rfl g_531_92 (by omega) (by omega) (by omega) ?_
      refine ik_Wk 0 (pc_q := 82) (loc_q := [some (.ref 66), some (fI 0), some (fI 0), some (fI 2)]) (st_q := [fI (im.getD (50 : Int).toNat 0), fI 2, .ref 70]) (h_q := h_531) (cl_q := 0) (sl_q := 0) rfl ?_
      rw [show im.getD (50 : Int).toNat 0 = e2 from q0.2 2 (by decide +kernel)]
      refine fx_ias (z := 2) rfl g_531_70 (by decide +kernel) (Nat.le_of_ble_eq_true rfl) (by decide +kernel) ?_
      intro h_532 e_532 f_532 l_532
      have k_532 : cL h_532 := l_532.trans k_531
      have fr_532 := hfr_wb fr_531 f_532 l_532 rfl
      clear l_532
      have g_532_66 := (f_532 66 (Nat.ne_of_beq_eq_false rfl)).trans g_531_66
      have g_532_69 := (f_532 69 (Nat.ne_of_beq_eq_false rfl)).trans g_531_69
      have g_532_71 := (f_532 71 (Nat.ne_of_beq_eq_false rfl)).trans g_531_71
      have g_532_92 := (f_532 92 (Nat.ne_of_beq_eq_false rfl)).trans g_531_92
      have g_532_93 := (f_532 93 (Nat.ne_of_beq_eq_false rfl)).trans g_531_93
      have g_532_70 : cE h_532 70 (.inl (.int, fA [e0, e1, e2, kb, pb, fb])) := e_532
      refine fw_inc (a := 2) (loc_q := [some (.ref 66), some (fI 0), some (fI 0), some (fI 3)]) rfl rfl (Nat.le_of_ble_eq_true rfl) rfl ?_
      refine ik_Wk 2 (pc_q := 61) (loc_q := [some (.ref 66), some (fI 0), some (fI 0), some (fI 3)]) (st_q := [fI 3]) (h_q := h_532) (cl_q := 0) (sl_q := 0) rfl ?_
      refine fw_bi rfl (by decide +kernel) ?_
      refine fw_ic_ge rfl rfl (by omega) (by omega) (by omega) (by omega) (fun hc5 => absurd hc5 (by omega)) (fun hc5 => ?_)
      refine ik_Wk 1 (pc_q := 67) (loc_q := [some (.ref 66), some (fI 0), some (fI 0), some (fI 3)]) (st_q := [.ref 66]) (h_q := h_532) (cl_q := 0) (sl_q := 0) rfl ?_
      refine fw_gf rfl rfl g_532_66 rfl ?_
      refine ik_Wk 2 (pc_q := 72) (loc_q := [some (.ref 66), some (fI 0), some (fI 0), some (fI 3)]) (st_q := [.ref 66, fI 3, .ref 70]) (h_q := h_532) (cl_q := 0) (sl_q := 0) rfl ?_
      refine fw_gf rfl rfl g_532_66 rfl ?_
      refine ik_Wk 1 (pc_q := 76) (loc_q := [some (.ref 66), some (fI 0), some (fI 0), some (fI 3)]) (st_q := [fI 0, .ref 92, fI 3, .ref 70]) (h_q := h_532) (cl_q := 0) (sl_q := 0) rfl ?_
      refine fw_bi rfl (by decide +kernel) ?_
      refine fw_add rfl ?_
      refine ik_Wk 1 (pc_q := 80) (loc_q := [some (.ref 66), some (fI 0), some (fI 0), some (fI 3)]) (st_q := [fI 3, fI 48, .ref 92, fI 3, .ref 70]) (h_q := h_532) (cl_q := 0) (sl_q := 0) rfl ?_
      refine fw_add rfl ?_
      refine fw_ial rfl g_532_92 (by omega) (by omega) (by omega) ?_
      refine ik_Wk 0 (pc_q := 82) (loc_q := [some (.ref 66), some (fI 0), some (fI 0), some (fI 3)]) (st_q := [fI (im.getD (51 : Int).toNat 0), fI 3, .ref 70]) (h_q := h_532) (cl_q := 0) (sl_q := 0) rfl ?_
      rw [show im.getD (51 : Int).toNat 0 = e3 from q0.2 3 (by decide +kernel)]
      refine fx_ias (z := 3) rfl g_532_70 (by decide +kernel) (Nat.le_of_ble_eq_true rfl) (by decide +kernel) ?_
      intro h_533 e_533 f_533 l_533
      have k_533 : cL h_533 := l_533.trans k_532
      have fr_533 := hfr_wb fr_532 f_533 l_533 rfl
      clear l_533
      have g_533_66 := (f_533 66 (Nat.ne_of_beq_eq_false rfl)).trans g_532_66
      have g_533_69 := (f_533 69 (Nat.ne_of_beq_eq_false rfl)).trans g_532_69
      have g_533_71 := (f_533 71 (Nat.ne_of_beq_eq_false rfl)).trans g_532_71
      have g_533_92 := (f_533 92 (Nat.ne_of_beq_eq_false rfl)).trans g_532_92
      have g_533_93 := (f_533 93 (Nat.ne_of_beq_eq_false rfl)).trans g_532_93
      have g_533_70 : cE h_533 70 (.inl (.int, fA [e0, e1, e2, e3, pb, fb])) := e_533
      refine fw_inc (a := 3) (loc_q := [some (.ref 66), some (fI 0), some (fI 0), some (fI 4)]) rfl rfl (Nat.le_of_ble_eq_true rfl) rfl ?_
      refine ik_Wk 2 (pc_q := 61) (loc_q := [some (.ref 66), some (fI 0), some (fI 0), some (fI 4)]) (st_q := [fI 4]) (h_q := h_533) (cl_q := 0) (sl_q := 0) rfl ?_
      refine fw_bi rfl (by decide +kernel) ?_
      refine fw_ic_ge rfl rfl (by omega) (by omega) (by omega) (by omega) (fun hc6 => absurd hc6 (by omega)) (fun hc6 => ?_)
      refine ik_Wk 1 (pc_q := 67) (loc_q := [some (.ref 66), some (fI 0), some (fI 0), some (fI 4)]) (st_q := [.ref 66]) (h_q := h_533) (cl_q := 0) (sl_q := 0) rfl ?_
      refine fw_gf rfl rfl g_533_66 rfl ?_
      refine ik_Wk 2 (pc_q := 72) (loc_q := [some (.ref 66), some (fI 0), some (fI 0), some (fI 4)]) (st_q := [.ref 66, fI 4, .ref 70]) (h_q := h_533) (cl_q := 0) (sl_q := 0) rfl ?_
      refine fw_gf rfl rfl g_533_66 rfl ?_
      refine ik_Wk 1 (pc_q := 76) (loc_q := [some (.ref 66), some (fI 0), some (fI 0), some (fI 4)]) (st_q := [fI 0, .ref 92, fI 4, .ref 70]) (h_q := h_533) (cl_q := 0) (sl_q := 0) rfl ?_
      refine fw_bi rfl (by decide +kernel) ?_
      refine fw_add rfl ?_
      refine ik_Wk 1 (pc_q := 80) (loc_q := [some (.ref 66), some (fI 0), some (fI 0), some (fI 4)]) (st_q := [fI 4, fI 48, .ref 92, fI 4, .ref 70]) (h_q := h_533) (cl_q := 0) (sl_q := 0) rfl ?_
      refine fw_add rfl ?_
      refine fw_ial rfl g_533_92 (by omega) (by omega) (by omega) ?_
      refine ik_Wk 0 (pc_q := 82) (loc_q := [some (.ref 66), some (fI 0), some (fI 0), some (fI 4)]) (st_q := [fI (im.getD (52 : Int).toNat 0), fI 4, .ref 70]) (h_q := h_533) (cl_q := 0) (sl_q := 0) rfl ?_
      rw [show im.getD (52 : Int).toNat 0 = e4 from q0.2 4 (by decide +kernel)]
      refine fx_ias (z := 4) rfl g_533_70 (by decide +kernel) (Nat.le_of_ble_eq_true rfl) (by decide +kernel) ?_
      intro h_534 e_534 f_534 l_534
      have k_534 : cL h_534 := l_534.trans k_533
      have fr_534 := hfr_wb fr_533 f_534 l_534 rfl
      clear l_534
      have g_534_66 := (f_534 66 (Nat.ne_of_beq_eq_false rfl)).trans g_533_66
      have g_534_69 := (f_534 69 (Nat.ne_of_beq_eq_false rfl)).trans g_533_69
      have g_534_71 := (f_534 71 (Nat.ne_of_beq_eq_false rfl)).trans g_533_71
      have g_534_92 := (f_534 92 (Nat.ne_of_beq_eq_false rfl)).trans g_533_92
      have g_534_93 := (f_534 93 (Nat.ne_of_beq_eq_false rfl)).trans g_533_93
      have g_534_70 : cE h_534 70 (.inl (.int, fA [e0, e1, e2, e3, e4, fb])) := e_534
      refine fw_inc (a := 4) (loc_q := [some (.ref 66), some (fI 0), some (fI 0), some (fI 5)]) rfl rfl (Nat.le_of_ble_eq_true rfl) rfl ?_
      refine ik_Wk 2 (pc_q := 61) (loc_q := [some (.ref 66), some (fI 0), some (fI 0), some (fI 5)]) (st_q := [fI 5]) (h_q := h_534) (cl_q := 0) (sl_q := 0) rfl ?_
      refine fw_bi rfl (by decide +kernel) ?_
      refine fw_ic_ge rfl rfl (by omega) (by omega) (by omega) (by omega) (fun hc7 => absurd hc7 (by omega)) (fun hc7 => ?_)
      refine ik_Wk 1 (pc_q := 67) (loc_q := [some (.ref 66), some (fI 0), some (fI 0), some (fI 5)]) (st_q := [.ref 66]) (h_q := h_534) (cl_q := 0) (sl_q := 0) rfl ?_
      refine fw_gf rfl rfl g_534_66 rfl ?_
      refine ik_Wk 2 (pc_q := 72) (loc_q := [some (.ref 66), some (fI 0), some (fI 0), some (fI 5)]) (st_q := [.ref 66, fI 5, .ref 70]) (h_q := h_534) (cl_q := 0) (sl_q := 0) rfl ?_
      refine fw_gf rfl rfl g_534_66 rfl ?_
      refine ik_Wk 1 (pc_q := 76) (loc_q := [some (.ref 66), some (fI 0), some (fI 0), some (fI 5)]) (st_q := [fI 0, .ref 92, fI 5, .ref 70]) (h_q := h_534) (cl_q := 0) (sl_q := 0) rfl ?_
      refine fw_bi rfl (by decide +kernel) ?_
      refine fw_add rfl ?_
      refine ik_Wk 1 (pc_q := 80) (loc_q := [some (.ref 66), some (fI 0), some (fI 0), some (fI 5)]) (st_q := [fI 5, fI 48, .ref 92, fI 5, .ref 70]) (h_q := h_534) (cl_q := 0) (sl_q := 0) rfl ?_
      refine fw_add rfl ?_
      refine fw_ial rfl g_534_92 (by omega) (by omega) (by omega) ?_
      refine ik_Wk 0 (pc_q := 82) (loc_q := [some (.ref 66), some (fI 0), some (fI 0), some (fI 5)]) (st_q := [fI (im.getD (53 : Int).toNat 0), fI 5, .ref 70]) (h_q := h_534) (cl_q := 0) (sl_q := 0) rfl ?_
      rw [show im.getD (53 : Int).toNat 0 = e5 from q0.2 5 (by decide +kernel)]
      refine fx_ias (z := 5) rfl g_534_70 (by decide +kernel) (Nat.le_of_ble_eq_true rfl) (by decide +kernel) ?_
      intro h_535 e_535 f_535 l_535
      have k_535 : cL h_535 := l_535.trans k_534
      have fr_535 := hfr_wb fr_534 f_535 l_535 rfl
      clear l_535
      have g_535_66 := (f_535 66 (Nat.ne_of_beq_eq_false rfl)).trans g_534_66
      have g_535_69 := (f_535 69 (Nat.ne_of_beq_eq_false rfl)).trans g_534_69
      have g_535_71 := (f_535 71 (Nat.ne_of_beq_eq_false rfl)).trans g_534_71
      have g_535_92 := (f_535 92 (Nat.ne_of_beq_eq_false rfl)).trans g_534_92
      have g_535_93 := (f_535 93 (Nat.ne_of_beq_eq_false rfl)).trans g_534_93
      have g_535_70 : cE h_535 70 (.inl (.int, fA [e0, e1, e2, e3, e4, e5])) := e_535
      refine fw_inc (a := 5) (loc_q := [some (.ref 66), some (fI 0), some (fI 0), some (fI 6)]) rfl rfl (Nat.le_of_ble_eq_true rfl) rfl ?_
      refine ik_Wk 2 (pc_q := 61) (loc_q := [some (.ref 66), some (fI 0), some (fI 0), some (fI 6)]) (st_q := [fI 6]) (h_q := h_535) (cl_q := 0) (sl_q := 0) rfl ?_
      refine fw_bi rfl (by decide +kernel) ?_
      refine fw_ic_ge rfl rfl (by omega) (by omega) (by omega) (by omega) (fun hc8 => ?_) (fun hc8 => absurd hc8 (by omega))
      refine ik_Wk 1 (pc_q := 90) (loc_q := [some (.ref 66), some (fI 0), some (fI 0), some (fI 6)]) (st_q := [.ref 66]) (h_q := h_535) (cl_q := 0) (sl_q := 0) rfl ?_
      refine fw_gf rfl rfl g_535_66 rfl ?_
      refine ik_Wk 2 (pc_q := 95) (loc_q := [some (.ref 66), some (fI 0), some (fI 0), some (fI 6)]) (st_q := [.ref 66, fI 0, .ref 71]) (h_q := h_535) (cl_q := 0) (sl_q := 0) rfl ?_
      refine fw_gf rfl rfl g_535_66 rfl ?_
      refine ik_Wk 1 (pc_q := 99) (loc_q := [some (.ref 66), some (fI 0), some (fI 0), some (fI 6)]) (st_q := [fI 0, .ref 92, fI 0, .ref 71]) (h_q := h_535) (cl_q := 0) (sl_q := 0) rfl ?_
      refine fw_bi rfl (by decide +kernel) ?_
      refine fw_add rfl ?_
      refine fw_ial rfl g_535_92 (by omega) (by omega) (by omega) ?_
      refine ik_Wk 0 (pc_q := 103) (loc_q := [some (.ref 66), some (fI 0), some (fI 0), some (fI 6)]) (st_q := [fI (im.getD (54 : Int).toNat 0), fI 0, .ref 71]) (h_q := h_535) (cl_q := 0) (sl_q := 0) rfl ?_
      rw [show im.getD (54 : Int).toNat 0 = y0 from q0.2 6 (by decide +kernel)]
      refine fx_ias (z := 0) rfl g_535_71 (by decide +kernel) (Nat.le_of_ble_eq_true rfl) (by decide +kernel) ?_
      intro h_536 e_536 f_536 l_536
      have k_536 : cL h_536 := l_536.trans k_535
      have fr_536 := hfr_wb fr_535 f_536 l_536 rfl
      clear l_536
      have g_536_66 := (f_536 66 (Nat.ne_of_beq_eq_false rfl)).trans g_535_66
      have g_536_69 := (f_536 69 (Nat.ne_of_beq_eq_false rfl)).trans g_535_69
      have g_536_70 := (f_536 70 (Nat.ne_of_beq_eq_false rfl)).trans g_535_70
      have g_536_92 := (f_536 92 (Nat.ne_of_beq_eq_false rfl)).trans g_535_92
      have g_536_93 := (f_536 93 (Nat.ne_of_beq_eq_false rfl)).trans g_535_93
      have g_536_71 : cE h_536 71 (.inl (.int, fA [y0, xb])) := e_536
      refine ik_Wk 1 (pc_q := 105) (loc_q := [some (.ref 66), some (fI 0), some (fI 0), some (fI 6)]) (st_q := [.ref 66]) (h_q := h_536) (cl_q := 0) (sl_q := 0) rfl ?_
      refine fw_gf rfl rfl g_536_66 rfl ?_
      refine ik_Wk 2 (pc_q := 110) (loc_q := [some (.ref 66), some (fI 0), some (fI 0), some (fI 6)]) (st_q := [.ref 66, fI 1, .ref 71]) (h_q := h_536) (cl_q := 0) (sl_q := 0) rfl ?_
      refine fw_gf rfl rfl g_536_66 rfl ?_
      refine ik_Wk 1 (pc_q := 114) (loc_q := [some (.ref 66), some (fI 0), some (fI 0), some (fI 6)]) (st_q := [fI 0, .ref 92, fI 1, .ref 71]) (h_q := h_536) (cl_q := 0) (sl_q := 0) rfl ?_
      refine fw_bi rfl (by decide +kernel) ?_
      refine fw_add rfl ?_
      refine fw_ial rfl g_536_92 (by omega) (by omega) (by omega) ?_
      refine ik_Wk 0 (pc_q := 118) (loc_q := [some (.ref 66), some (fI 0), some (fI 0), some (fI 6)]) (st_q := [fI (im.getD (55 : Int).toNat 0), fI 1, .ref 71]) (h_q := h_536) (cl_q := 0) (sl_q := 0) rfl ?_
      rw [show im.getD (55 : Int).toNat 0 = y1 from q0.2 7 (by decide +kernel)]
      refine fx_ias (z := 1) rfl g_536_71 (by decide +kernel) (Nat.le_of_ble_eq_true rfl) (by decide +kernel) ?_
      intro h_537 e_537 f_537 l_537
      have k_537 : cL h_537 := l_537.trans k_536
      have fr_537 := hfr_wb fr_536 f_537 l_537 rfl
      clear l_537
      have g_537_66 := (f_537 66 (Nat.ne_of_beq_eq_false rfl)).trans g_536_66
      have g_537_69 := (f_537 69 (Nat.ne_of_beq_eq_false rfl)).trans g_536_69
      have g_537_70 := (f_537 70 (Nat.ne_of_beq_eq_false rfl)).trans g_536_70
      have g_537_92 := (f_537 92 (Nat.ne_of_beq_eq_false rfl)).trans g_536_92
      have g_537_93 := (f_537 93 (Nat.ne_of_beq_eq_false rfl)).trans g_536_93
      have g_537_71 : cE h_537 71 (.inl (.int, fA [y0, y1])) := e_537
      refine ik_Wk 2 (pc_q := 121) (loc_q := [some (.ref 66), some (fI 0), some (fI 0), some (fI 6)]) (st_q := [.ref 66, .ref 66]) (h_q := h_537) (cl_q := 0) (sl_q := 0) rfl ?_
      refine fw_gf rfl rfl g_537_66 rfl ?_
      refine ik_Wk 1 (pc_q := 125) (loc_q := [some (.ref 66), some (fI 0), some (fI 0), some (fI 6)]) (st_q := [fI 0, .ref 92, .ref 66]) (h_q := h_537) (cl_q := 0) (sl_q := 0) rfl ?_
      refine fw_bi rfl (by decide +kernel) ?_
      refine fw_add rfl ?_
      refine fw_ial rfl g_537_92 (by omega) (by omega) (by omega) ?_
      refine ik_Wk 0 (pc_q := 129) (loc_q := [some (.ref 66), some (fI 0), some (fI 0), some (fI 6)]) (st_q := [fI (im.getD (56 : Int).toNat 0), .ref 66]) (h_q := h_537) (cl_q := 0) (sl_q := 0) rfl ?_
      rw [show im.getD (56 : Int).toNat 0 = m2 from q0.2 8 (by decide +kernel)]
      refine fx_pf rfl rfl g_537_66 (Nat.le_of_ble_eq_true rfl) rfl rfl ?_
      intro h_538 e_538 f_538 l_538
      have k_538 : cL h_538 := l_538.trans k_537
      have fr_538 := hfr_wb fr_537 f_538 l_538 rfl
      clear l_538
      have g_538_69 := (f_538 69 (Nat.ne_of_beq_eq_false rfl)).trans g_537_69
      have g_538_70 := (f_538 70 (Nat.ne_of_beq_eq_false rfl)).trans g_537_70
      have g_538_71 := (f_538 71 (Nat.ne_of_beq_eq_false rfl)).trans g_537_71
      have g_538_92 := (f_538 92 (Nat.ne_of_beq_eq_false rfl)).trans g_537_92
      have g_538_93 := (f_538 93 (Nat.ne_of_beq_eq_false rfl)).trans g_537_93
      have g_538_66 : cE h_538 66 (.inr (10, (fI (f 0) :: .ref 67 :: .ref 68 :: .ref 69 :: fI ((s : Nat) : Int) :: .ref 70 :: .ref 71 :: fI m2 :: fI sd :: .ref 72 :: fI (f 10) :: fI (f 11) :: fI (f 12) :: fJ (f 13) :: fI (f 14) :: fI (f 15) :: fI (f 16) :: fI (f 17) :: .ref 73 :: .ref 74 :: .ref 75 :: .ref 76 :: .ref 77 :: .ref 78 :: fI (f 24) :: .ref 79 :: .ref 80 :: .ref 81 :: .ref 82 :: .ref 83 :: .ref 84 :: .ref 85 :: fJ (f 32) :: fJ (f 33) :: .ref 86 :: .ref 87 :: fI (f 36) :: .ref 88 :: .ref 89 :: .ref 90 :: .ref 91 :: .ref 92 :: .ref 93 :: []))) := e_538
      refine ik_Wk 2 (pc_q := 134) (loc_q := [some (.ref 66), some (fI 0), some (fI 0), some (fI 6)]) (st_q := [.ref 66, .ref 66]) (h_q := h_538) (cl_q := 0) (sl_q := 0) rfl ?_
      refine fw_gf rfl rfl g_538_66 rfl ?_
      refine ik_Wk 1 (pc_q := 138) (loc_q := [some (.ref 66), some (fI 0), some (fI 0), some (fI 6)]) (st_q := [fI 0, .ref 92, .ref 66]) (h_q := h_538) (cl_q := 0) (sl_q := 0) rfl ?_
      refine fw_bi rfl (by decide +kernel) ?_
      refine fw_add rfl ?_
      refine fw_ial rfl g_538_92 (by omega) (by omega) (by omega) ?_
      refine ik_Wk 0 (pc_q := 142) (loc_q := [some (.ref 66), some (fI 0), some (fI 0), some (fI 6)]) (st_q := [fI (im.getD (57 : Int).toNat 0), .ref 66]) (h_q := h_538) (cl_q := 0) (sl_q := 0) rfl ?_
      rw [show im.getD (57 : Int).toNat 0 = ((s2 : Nat) : Int) from q0.2 9 (by decide +kernel)]
      refine fx_pf rfl rfl g_538_66 (Nat.le_of_ble_eq_true rfl) rfl rfl ?_
      intro h_539 e_539 f_539 l_539
      have k_539 : cL h_539 := l_539.trans k_538
      have fr_539 := hfr_wb fr_538 f_539 l_539 rfl
      clear l_539
      have g_539_69 := (f_539 69 (Nat.ne_of_beq_eq_false rfl)).trans g_538_69
      have g_539_70 := (f_539 70 (Nat.ne_of_beq_eq_false rfl)).trans g_538_70
      have g_539_71 := (f_539 71 (Nat.ne_of_beq_eq_false rfl)).trans g_538_71
      have g_539_92 := (f_539 92 (Nat.ne_of_beq_eq_false rfl)).trans g_538_92
      have g_539_93 := (f_539 93 (Nat.ne_of_beq_eq_false rfl)).trans g_538_93
      have g_539_66 : cE h_539 66 (.inr (10, (fI (f 0) :: .ref 67 :: .ref 68 :: .ref 69 :: fI ((s2 : Nat) : Int) :: .ref 70 :: .ref 71 :: fI m2 :: fI sd :: .ref 72 :: fI (f 10) :: fI (f 11) :: fI (f 12) :: fJ (f 13) :: fI (f 14) :: fI (f 15) :: fI (f 16) :: fI (f 17) :: .ref 73 :: .ref 74 :: .ref 75 :: .ref 76 :: .ref 77 :: .ref 78 :: fI (f 24) :: .ref 79 :: .ref 80 :: .ref 81 :: .ref 82 :: .ref 83 :: .ref 84 :: .ref 85 :: fJ (f 32) :: fJ (f 33) :: .ref 86 :: .ref 87 :: fI (f 36) :: .ref 88 :: .ref 89 :: .ref 90 :: .ref 91 :: .ref 92 :: .ref 93 :: []))) := e_539
      refine ik_Wk 2 (pc_q := 147) (loc_q := [some (.ref 66), some (fI 0), some (fI 0), some (fI 6)]) (st_q := [.ref 66, .ref 66]) (h_q := h_539) (cl_q := 0) (sl_q := 0) rfl ?_
      refine fw_gf rfl rfl g_539_66 rfl ?_
      refine ik_Wk 1 (pc_q := 151) (loc_q := [some (.ref 66), some (fI 0), some (fI 0), some (fI 6)]) (st_q := [fI 0, .ref 92, .ref 66]) (h_q := h_539) (cl_q := 0) (sl_q := 0) rfl ?_
      refine fw_bi rfl (by decide +kernel) ?_
      refine fw_add rfl ?_
      refine fw_ial rfl g_539_92 (by omega) (by omega) (by omega) ?_
      refine ik_Wk 0 (pc_q := 155) (loc_q := [some (.ref 66), some (fI 0), some (fI 0), some (fI 6)]) (st_q := [fI (im.getD (58 : Int).toNat 0), .ref 66]) (h_q := h_539) (cl_q := 0) (sl_q := 0) rfl ?_
      rw [show im.getD (58 : Int).toNat 0 = d2 from q0.2 10 (by decide +kernel)]
      refine fx_pf rfl rfl g_539_66 (Nat.le_of_ble_eq_true rfl) rfl rfl ?_
      intro h_540 e_540 f_540 l_540
      have k_540 : cL h_540 := l_540.trans k_539
      have fr_540 := hfr_wb fr_539 f_540 l_540 rfl
      clear l_540
      have g_540_69 := (f_540 69 (Nat.ne_of_beq_eq_false rfl)).trans g_539_69
      have g_540_70 := (f_540 70 (Nat.ne_of_beq_eq_false rfl)).trans g_539_70
      have g_540_71 := (f_540 71 (Nat.ne_of_beq_eq_false rfl)).trans g_539_71
      have g_540_92 := (f_540 92 (Nat.ne_of_beq_eq_false rfl)).trans g_539_92
      have g_540_93 := (f_540 93 (Nat.ne_of_beq_eq_false rfl)).trans g_539_93
      have g_540_66 : cE h_540 66 (.inr (10, (fI (f 0) :: .ref 67 :: .ref 68 :: .ref 69 :: fI ((s2 : Nat) : Int) :: .ref 70 :: .ref 71 :: fI m2 :: fI d2 :: .ref 72 :: fI (f 10) :: fI (f 11) :: fI (f 12) :: fJ (f 13) :: fI (f 14) :: fI (f 15) :: fI (f 16) :: fI (f 17) :: .ref 73 :: .ref 74 :: .ref 75 :: .ref 76 :: .ref 77 :: .ref 78 :: fI (f 24) :: .ref 79 :: .ref 80 :: .ref 81 :: .ref 82 :: .ref 83 :: .ref 84 :: .ref 85 :: fJ (f 32) :: fJ (f 33) :: .ref 86 :: .ref 87 :: fI (f 36) :: .ref 88 :: .ref 89 :: .ref 90 :: .ref 91 :: .ref 92 :: .ref 93 :: []))) := e_540
      refine ik_Wk 1 (pc_q := 159) (loc_q := [some (.ref 66), some (fI 0), some (fI 0), some (fI 6)]) (st_q := [fI 1]) (h_q := h_540) (cl_q := 0) (sl_q := 0) rfl ?_
      have ec : c1 = ci := mx_ext (by rw [n69, q1]) (fun j => by
        rcases Nat.lt_or_ge j 48 with z | z
        · exact hc j (by omega)
        · rw [mi_out (by omega), mi_out (by omega)])
      rw [ec] at g_540_69
      exact ik_Wret rfl rfl ⟨_, _, rfl, rfl, rfl, rfl, ⟨rfl, g_540_66, g_540_69, q1, g_540_70, g_540_71, fr_540⟩⟩
    · refine ik_Wk 1 (pc_q := 39) (loc_q := [some (.ref 66), some (fI 0), some (fI 0), some (fI i)]) (st_q := [.ref 66]) (h_q := u) (cl_q := 0) (sl_q := 0) rfl ?_
      refine fw_gf rfl rfl u66 rfl ?_
      refine ik_Wk 2 (pc_q := 44) (loc_q := [some (.ref 66), some (fI 0), some (fI 0), some (fI i)]) (st_q := [.ref 66, fI i, .ref 69]) (h_q := u) (cl_q := 0) (sl_q := 0) rfl ?_
      refine fw_gf rfl rfl u66 rfl ?_
      refine ik_Wk 2 (pc_q := 49) (loc_q := [some (.ref 66), some (fI 0), some (fI 0), some (fI i)]) (st_q := [fI i, fI 0, .ref 92, fI i, .ref 69]) (h_q := u) (cl_q := 0) (sl_q := 0) rfl ?_
      refine fw_add rfl ?_
      refine fw_ial rfl u92 (by omega) (by omega) (by omega) ?_
      have hl9 : (c1.set i.toNat (im.getD (0 + i).toNat 0)).length = 48 := (List.length_set ..).trans n69
      refine fx_ias rfl u69 (by omega) (by omega) (by omega) ?_
      intro h_541 e_541 f_541 l_541
      have k_541 : cL h_541 := l_541.trans ul
      have fr_541 := hfr_wb F f_541 l_541 rfl
      clear l_541
      have g_541_66 := (f_541 66 (Nat.ne_of_beq_eq_false rfl)).trans u66
      have g_541_70 := (f_541 70 (Nat.ne_of_beq_eq_false rfl)).trans u70
      have g_541_71 := (f_541 71 (Nat.ne_of_beq_eq_false rfl)).trans u71
      have g_541_92 := (f_541 92 (Nat.ne_of_beq_eq_false rfl)).trans u92
      have g_541_93 := (f_541 93 (Nat.ne_of_beq_eq_false rfl)).trans u93
      have g_541_69 : cE h_541 69 (.inl (.int, fA (c1.set i.toNat (im.getD (0 + i).toNat 0)))) := e_541
      refine fw_inc (a := i) (loc_q := [some (.ref 66), some (fI 0), some (fI 0), some (fI (i + 1))]) rfl rfl (Nat.le_of_ble_eq_true rfl) rfl ?_
      refine ik_Wk 1 (pc_q := 32) (loc_q := [some (.ref 66), some (fI 0), some (fI 0), some (fI (i + 1))]) (st_q := []) (h_q := h_541) (cl_q := 0) (sl_q := 0) rfl ?_
      have hq := q0.1 i.toNat (by omega)
      rw [show 0 + i.toNat = (0 + i).toNat by omega] at hq
      have hc2 : ∀ j : Nat, (j : Int) < i + 1 → (c1.set i.toNat (im.getD (0 + i).toNat 0)).getD j 0 = ci.getD j 0 := by
        intro j hj
        rw [fz_getD_set]
        by_cases z : j = i.toNat
        · rw [if_pos ⟨z, by omega⟩, z]; exact hq
        · rw [if_neg (fun y => z y.1)]; exact hc j (by omega)
      exact ih  (i + 1) (c1.set i.toNat (im.getD (0 + i).toNat 0)) h_541 g_541_66 g_541_69 hl9 g_541_70 g_541_71 g_541_92 n92 g_541_93 k_541 fr_541 (by omega) hc2 (by omega)

theorem rp_goBack0T {h : List ik_E} {f : Nat → Int} {s : Nat} {s2 : Nat} {t0 : Int} {t1 : Int} {e0 : Int} {e1 : Int} {e2 : Int} {e3 : Int} {e4 : Int} {e5 : Int} {y0 : Int} {y1 : Int} {m2 : Int} {d2 : Int} {ka : Int} {pa : Int} {fa : Int} {kb : Int} {pb : Int} {fb : Int} {xa : Int} {xb : Int} {mi : Int} {sd : Int} {ch : List Int} {im : List Int} {ci : List Int} (q0 : mi_ok im 0 ci e0 e1 e2 e3 e4 e5 y0 y1 m2 s2 d2) (q1 : ci.length = 48) (h66 : cE h 66 (.inr (10, (fI (f 0) :: .ref 67 :: .ref 68 :: .ref 69 :: fI ((s : Nat) : Int) :: .ref 70 :: .ref 71 :: fI mi :: fI sd :: .ref 72 :: fI (f 10) :: fI (f 11) :: fI (f 12) :: fJ (f 13) :: fI (f 14) :: fI (f 15) :: fI (f 16) :: fI (f 17) :: .ref 73 :: .ref 74 :: .ref 75 :: .ref 76 :: .ref 77 :: .ref 78 :: fI (f 24) :: .ref 79 :: .ref 80 :: .ref 81 :: .ref 82 :: .ref 83 :: .ref 84 :: .ref 85 :: fJ (f 32) :: fJ (f 33) :: .ref 86 :: .ref 87 :: fI (f 36) :: .ref 88 :: .ref 89 :: .ref 90 :: .ref 91 :: .ref 92 :: .ref 93 :: [])))) (h69 : cE h 69 (.inl (.int, fA ch))) (n69 : ch.length = 48) (h70 : cE h 70 (.inl (.int, fA [ka, pa, fa, kb, pb, fb]))) (h71 : cE h 71 (.inl (.int, fA [xa, xb]))) (h92 : cE h 92 (.inl (.int, fA im))) (n92 : im.length = 160) (h93 : cE h 93 (.inl (.boolean, fA [1, t1]))) (hl : h.length = 94) : ik_F 210 [.ref 66, fI 0] h (fun rv h_q => rv = [fI 1] ∧ cE h_q 66 (.inr (10, (fI (f 0) :: .ref 67 :: .ref 68 :: .ref 69 :: fI ((s2 : Nat) : Int) :: .ref 70 :: .ref 71 :: fI m2 :: fI d2 :: .ref 72 :: fI (f 10) :: fI (f 11) :: fI (f 12) :: fJ (f 13) :: fI (f 14) :: fI (f 15) :: fI (f 16) :: fI (f 17) :: .ref 73 :: .ref 74 :: .ref 75 :: .ref 76 :: .ref 77 :: .ref 78 :: fI (f 24) :: .ref 79 :: .ref 80 :: .ref 81 :: .ref 82 :: .ref 83 :: .ref 84 :: .ref 85 :: fJ (f 32) :: fJ (f 33) :: .ref 86 :: .ref 87 :: fI (f 36) :: .ref 88 :: .ref 89 :: .ref 90 :: .ref 91 :: .ref 92 :: .ref 93 :: []))) ∧ cE h_q 69 (.inl (.int, fA ci)) ∧ ci.length = 48 ∧ cE h_q 70 (.inl (.int, fA [e0, e1, e2, e3, e4, e5])) ∧ cE h_q 71 (.inl (.int, fA [y0, y1])) ∧ hfr [66, 69, 70, 71] h h_q) := by
  refine ik_Wk 1 (pc_q := 1) (loc_q := [some (.ref 66), some (fI 0), none, none]) (st_q := [fI 0]) (h_q := h) (cl_q := 0) (sl_q := 0) rfl ?_
  refine fw_i2l rfl (by omega) (by omega) ?_
  refine fw_lc (z := 0) rfl (by decide +kernel) ?_
  refine fw_lc (z := 1) rfl (by decide +kernel) ?_
  refine fw_call 127 3 3 [fJ 0, fJ 0, fJ 1] [] rfl rfl rfl (Nat.le_of_ble_eq_true rfl) rfl rfl (fw_sta hl rfl (by decide +kernel)) (cr_in (v := 0) (a := 0) (b := 1) (by omega) (by omega) (by omega)  hl) ?_
  rintro _ h_542 (⟨rfl, p_542_0, F_542⟩ | ⟨rfl, p_542_0, F_542⟩)
  · have k_542 : cL h_542 := F_542.1.trans hl
    have fr_542 := hfr_cb (hfr_refl [66, 69, 70, 71] h) F_542 rfl
    have g_542_66 := (hfr_g F_542 66 rfl).trans h66
    have g_542_69 := (hfr_g F_542 69 rfl).trans h69
    have g_542_70 := (hfr_g F_542 70 rfl).trans h70
    have g_542_71 := (hfr_g F_542 71 rfl).trans h71
    have g_542_92 := (hfr_g F_542 92 rfl).trans h92
    have g_542_93 := (hfr_g F_542 93 rfl).trans h93
    refine ik_Wk 0 (pc_q := 7) (loc_q := [some (.ref 66), some (fI 0), none, none]) (st_q := [fI 1]) (h_q := h_542) (cl_q := 0) (sl_q := 0) rfl ?_
    refine fw_if_ne rfl rfl (by decide +kernel) (by decide +kernel) (fun hc1 => absurd hc1 (by decide +kernel)) (fun hc1 => ?_)
    refine ik_Wk 1 (pc_q := 14) (loc_q := [some (.ref 66), some (fI 0), none, none]) (st_q := [.ref 66]) (h_q := h_542) (cl_q := 0) (sl_q := 0) rfl ?_
    refine fw_gf rfl rfl g_542_66 rfl ?_
    refine ik_Wk 1 (pc_q := 18) (loc_q := [some (.ref 66), some (fI 0), none, none]) (st_q := [fI 0, .ref 93]) (h_q := h_542) (cl_q := 0) (sl_q := 0) rfl ?_
    refine fx_bbl (z := 0) rfl g_542_93 (by decide +kernel) (Nat.le_of_ble_eq_true rfl) (by decide +kernel) ?_
    refine ik_Wk 0 (pc_q := 19) (loc_q := [some (.ref 66), some (fI 0), none, none]) (st_q := [fI 1]) (h_q := h_542) (cl_q := 0) (sl_q := 0) rfl ?_
    refine fw_if_ne rfl rfl (by decide +kernel) (by decide +kernel) (fun hc2 => absurd hc2 (by decide +kernel)) (fun hc2 => ?_)
    refine fw_bi rfl (by decide +kernel) ?_
    refine ik_Wk 1 (pc_q := 28) (loc_q := [some (.ref 66), some (fI 0), none, none]) (st_q := [fI 0, fI 80]) (h_q := h_542) (cl_q := 0) (sl_q := 0) rfl ?_
    refine fw_mul rfl ?_
    refine ik_Wk 3 (pc_q := 32) (loc_q := [some (.ref 66), some (fI 0), some (fI 0), some (fI 0)]) (st_q := []) (h_q := h_542) (cl_q := 0) (sl_q := 0) rfl ?_
    exact rp_goBack0L (f := f) (s := s) (s2 := s2) (t0 := t0) (t1 := t1) (e0 := e0) (e1 := e1) (e2 := e2) (e3 := e3) (e4 := e4) (e5 := e5) (y0 := y0) (y1 := y1) (m2 := m2) (d2 := d2) (ka := ka) (pa := pa) (fa := fa) (kb := kb) (pb := pb) (fb := fb) (xa := xa) (xb := xb) (mi := mi) (sd := sd) (ch := ch) (im := im) (ci := ci) q0 q1  49 0 ch h_542 g_542_66 g_542_69 n69 g_542_70 g_542_71 g_542_92 n92 g_542_93 k_542 fr_542 (by omega) (fun j hj => absurd hj (by omega)) (by omega)
  · have k_542 : cL h_542 := F_542.1.trans hl
    have fr_542 := hfr_cb (hfr_refl [66, 69, 70, 71] h) F_542 rfl
    have g_542_66 := (hfr_g F_542 66 rfl).trans h66
    have g_542_69 := (hfr_g F_542 69 rfl).trans h69
    have g_542_70 := (hfr_g F_542 70 rfl).trans h70
    have g_542_71 := (hfr_g F_542 71 rfl).trans h71
    have g_542_92 := (hfr_g F_542 92 rfl).trans h92
    have g_542_93 := (hfr_g F_542 93 rfl).trans h93
    omega

theorem rp_goBack0N {h : List ik_E} {f : Nat → Int} {t0 : Int} {t1 : Int}  (h66 : cE h 66 (.inr (10, (fI (f 0) :: .ref 67 :: .ref 68 :: .ref 69 :: fI (f 4) :: .ref 70 :: .ref 71 :: fI (f 7) :: fI (f 8) :: .ref 72 :: fI (f 10) :: fI (f 11) :: fI (f 12) :: fJ (f 13) :: fI (f 14) :: fI (f 15) :: fI (f 16) :: fI (f 17) :: .ref 73 :: .ref 74 :: .ref 75 :: .ref 76 :: .ref 77 :: .ref 78 :: fI (f 24) :: .ref 79 :: .ref 80 :: .ref 81 :: .ref 82 :: .ref 83 :: .ref 84 :: .ref 85 :: fJ (f 32) :: fJ (f 33) :: .ref 86 :: .ref 87 :: fI (f 36) :: .ref 88 :: .ref 89 :: .ref 90 :: .ref 91 :: .ref 92 :: .ref 93 :: [])))) (h93 : cE h 93 (.inl (.boolean, fA [0, t1]))) (hl : h.length = 94) : ik_F 210 [.ref 66, fI 0] h (fun rv h_q => rv = [fI (-1000000003)] ∧ hfr [] h h_q) := by
  refine ik_Wk 1 (pc_q := 1) (loc_q := [some (.ref 66), some (fI 0), none, none]) (st_q := [fI 0]) (h_q := h) (cl_q := 0) (sl_q := 0) rfl ?_
  refine fw_i2l rfl (by omega) (by omega) ?_
  refine fw_lc (z := 0) rfl (by decide +kernel) ?_
  refine fw_lc (z := 1) rfl (by decide +kernel) ?_
  refine fw_call 127 3 3 [fJ 0, fJ 0, fJ 1] [] rfl rfl rfl (Nat.le_of_ble_eq_true rfl) rfl rfl (fw_sta hl rfl (by decide +kernel)) (cr_in (v := 0) (a := 0) (b := 1) (by omega) (by omega) (by omega)  hl) ?_
  rintro _ h_543 (⟨rfl, p_543_0, F_543⟩ | ⟨rfl, p_543_0, F_543⟩)
  · have k_543 : cL h_543 := F_543.1.trans hl
    have fr_543 := hfr_cb (hfr_refl [] h) F_543 rfl
    have g_543_66 := (hfr_g F_543 66 rfl).trans h66
    have g_543_93 := (hfr_g F_543 93 rfl).trans h93
    refine ik_Wk 0 (pc_q := 7) (loc_q := [some (.ref 66), some (fI 0), none, none]) (st_q := [fI 1]) (h_q := h_543) (cl_q := 0) (sl_q := 0) rfl ?_
    refine fw_if_ne rfl rfl (by decide +kernel) (by decide +kernel) (fun hc1 => absurd hc1 (by decide +kernel)) (fun hc1 => ?_)
    refine ik_Wk 1 (pc_q := 14) (loc_q := [some (.ref 66), some (fI 0), none, none]) (st_q := [.ref 66]) (h_q := h_543) (cl_q := 0) (sl_q := 0) rfl ?_
    refine fw_gf rfl rfl g_543_66 rfl ?_
    refine ik_Wk 1 (pc_q := 18) (loc_q := [some (.ref 66), some (fI 0), none, none]) (st_q := [fI 0, .ref 93]) (h_q := h_543) (cl_q := 0) (sl_q := 0) rfl ?_
    refine fx_bbl (z := 0) rfl g_543_93 (by decide +kernel) (Nat.le_of_ble_eq_true rfl) (by decide +kernel) ?_
    refine ik_Wk 0 (pc_q := 19) (loc_q := [some (.ref 66), some (fI 0), none, none]) (st_q := [fI 0]) (h_q := h_543) (cl_q := 0) (sl_q := 0) rfl ?_
    refine fw_if_ne rfl rfl (by decide +kernel) (by decide +kernel) (fun hc2 => ?_) (fun hc2 => absurd hc2 (by decide +kernel))
    refine fw_ld (-1000000003) rfl rfl (by decide +kernel) ?_
    exact ik_Wret rfl rfl ⟨_, _, rfl, rfl, rfl, rfl, ⟨rfl, fr_543⟩⟩
  · have k_543 : cL h_543 := F_543.1.trans hl
    have fr_543 := hfr_cb (hfr_refl [] h) F_543 rfl
    have g_543_66 := (hfr_g F_543 66 rfl).trans h66
    have g_543_93 := (hfr_g F_543 93 rfl).trans h93
    omega

theorem cp_keep1 {h : List ik_E} {pl : Int} {st : Int} {lo : Int} {it : Int} {im_ : Int} {id_ : Int} {is_ : Int} {e0 : Int} {e1 : Int} {e2 : Int} {e3 : Int} {e4 : Int} {e5 : Int} {y0 : Int} {y1 : Int} {ci : List Int} {ka : Int} {pa : Int} {fa : Int} {kb : Int} {pb : Int} {fb : Int} {xa : Int} {xb : Int} {mi : Int} {dr : Int} {ch : List Int}  (h0 : cE h 0 (.inr (9, [.ref 1, .ref 7, .ref 14, .ref 17, .ref 45, .ref 51, .ref 54, .ref 57]))) (h7 : cE h 7 (.inr (0, [fI pl, fI st, fI lo, .ref 8, .ref 9, .ref 10, .ref 11, .ref 12, .ref 13]))) (h10 : cE h 10 (.inl (.int, fA ch))) (n10 : ch.length = 48) (h14 : cE h 14 (.inr (1, [.ref 7, .ref 15, .ref 16, fI mi, fJ dr]))) (h15 : cE h 15 (.inl (.int, fA [ka, pa, fa, kb, pb, fb]))) (h16 : cE h 16 (.inl (.int, fA [xa, xb]))) (h57 : cE h 57 (.inl (.object "SlowerCork$Image", [.ref 58, .ref 62]))) (h62 : cE h 62 (.inr (3, [fI it, .ref 63, .ref 64, fI im_, fJ id_, fI is_, .ref 65]))) (h63 : cE h 63 (.inl (.int, fA [e0, e1, e2, e3, e4, e5]))) (h64 : cE h 64 (.inl (.int, fA [y0, y1]))) (h65 : cE h 65 (.inl (.int, fA ci))) (n65 : ci.length = 48) (hl : h.length = 94) : ik_F 119 [.ref 0, fI 1] h (fun rv h_q => rv = [fI 1] ∧ cE h_q 62 (.inr (3, [fI 1, .ref 63, .ref 64, fI mi, fJ dr, fI st, .ref 65])) ∧ cE h_q 63 (.inl (.int, fA [ka, pa, fa, kb, pb, fb])) ∧ cE h_q 64 (.inl (.int, fA [xa, xb])) ∧ cE h_q 65 (.inl (.int, fA ch)) ∧ ch.length = 48 ∧ hfr [62, 63, 64, 65] h h_q) := by
  refine ik_Wk 2 (pc_q := 2) (loc_q := [some (.ref 0), some (fI 1)]) (st_q := [fI 1, .ref 0]) (h_q := h) (cl_q := 0) (sl_q := 0) rfl ?_
  refine ik_Wc 124 2 0 [.ref 0, fI 1] [] rfl rfl rfl (by decide +kernel) rfl rfl (fw_rec hl rfl h0 rfl (Nat.le_of_ble_eq_true rfl)) ?_
  refine ik_Wk 0 (pc_q := 0) (loc_q := [some (.ref 0), some (fI 1)]) (st_q := []) (h_q := h) (cl_q := 0) (sl_q := 0) rfl ?_
  refine ik_Wk 1 (pc_q := 1) (loc_q := [some (.ref 0), some (fI 1)]) (st_q := [fI 1]) (h_q := h) (cl_q := 0) (sl_q := 0) rfl ?_
  refine fw_if_lt rfl rfl (by decide +kernel) (by decide +kernel) (fun hc1 => absurd hc1 (by decide +kernel)) (fun hc1 => ?_)
  refine ik_Wk 2 (pc_q := 6) (loc_q := [some (.ref 0), some (fI 1)]) (st_q := [.ref 0, fI 1]) (h_q := h) (cl_q := 0) (sl_q := 0) rfl ?_
  refine fw_gf rfl rfl h0 rfl ?_
  refine fx_aln (L := 2) rfl h57 (rfl : [(.ref 58 : Value), (.ref 62 : Value)].length = 2) (by decide +kernel) ?_
  refine fw_ic_ge rfl rfl (by omega) (by omega) (by omega) (by omega) (fun hc2 => absurd hc2 (by omega)) (fun hc2 => ?_)
  refine ik_Wk 2 (pc_q := 18) (loc_q := [some (.ref 0), some (fI 1)]) (st_q := [fI 1]) (h_q := h) (cl_q := 0) (sl_q := 0) rfl ?_
  refine ik_Wret rfl rfl ⟨_, _, rfl, rfl, ?_⟩
  refine ik_Wk 0 (pc_q := 5) (loc_q := [some (.ref 0), some (fI 1)]) (st_q := [fI 1]) (h_q := h) (cl_q := 0) (sl_q := 0) rfl ?_
  refine fw_if_ne rfl rfl (by decide +kernel) (by decide +kernel) (fun hc3 => absurd hc3 (by decide +kernel)) (fun hc3 => ?_)
  refine ik_Wk 1 (pc_q := 12) (loc_q := [some (.ref 0), some (fI 1)]) (st_q := [.ref 0]) (h_q := h) (cl_q := 0) (sl_q := 0) rfl ?_
  refine fw_gf rfl rfl h0 rfl ?_
  refine ik_Wk 1 (pc_q := 16) (loc_q := [some (.ref 0), some (fI 1)]) (st_q := [fI 1, .ref 57]) (h_q := h) (cl_q := 0) (sl_q := 0) rfl ?_
  refine fx_aal (z := 1) rfl h57 (by decide +kernel) (by decide +kernel) rfl ?_
  refine ik_Wk 1 (pc_q := 18) (loc_q := [some (.ref 0), some (fI 1)]) (st_q := [.ref 0, .ref 62]) (h_q := h) (cl_q := 0) (sl_q := 0) rfl ?_
  refine fw_gf rfl rfl h0 rfl ?_
  refine ik_Wk 1 (pc_q := 22) (loc_q := [some (.ref 0), some (fI 1)]) (st_q := [.ref 0, .ref 7, .ref 62]) (h_q := h) (cl_q := 0) (sl_q := 0) rfl ?_
  refine fw_gf rfl rfl h0 rfl ?_
  refine ik_Wc 34 3 0 [.ref 62, .ref 7, .ref 14] [] rfl rfl rfl (by decide +kernel) rfl rfl (fw_rec hl rfl h62 rfl (Nat.le_of_ble_eq_true rfl)) ?_
  refine ik_Wk 0 (pc_q := 0) (loc_q := [some (.ref 62), some (.ref 7), some (.ref 14)]) (st_q := []) (h_q := h) (cl_q := 0) (sl_q := 0) rfl ?_
  refine ik_Wk 2 (pc_q := 2) (loc_q := [some (.ref 62), some (.ref 7), some (.ref 14)]) (st_q := [fI 1, .ref 62]) (h_q := h) (cl_q := 0) (sl_q := 0) rfl ?_
  refine fx_pf rfl rfl h62 (Nat.le_of_ble_eq_true rfl) rfl rfl ?_
  intro h_544 e_544 f_544 l_544
  have k_544 : cL h_544 := l_544.trans hl
  have fr_544 := hfr_wb (hfr_refl [62, 63, 64, 65] h) f_544 l_544 rfl
  clear l_544
  have g_544_0 := (f_544 0 (Nat.ne_of_beq_eq_false rfl)).trans h0
  have g_544_7 := (f_544 7 (Nat.ne_of_beq_eq_false rfl)).trans h7
  have g_544_10 := (f_544 10 (Nat.ne_of_beq_eq_false rfl)).trans h10
  have g_544_14 := (f_544 14 (Nat.ne_of_beq_eq_false rfl)).trans h14
  have g_544_15 := (f_544 15 (Nat.ne_of_beq_eq_false rfl)).trans h15
  have g_544_16 := (f_544 16 (Nat.ne_of_beq_eq_false rfl)).trans h16
  have g_544_57 := (f_544 57 (Nat.ne_of_beq_eq_false rfl)).trans h57
  have g_544_63 := (f_544 63 (Nat.ne_of_beq_eq_false rfl)).trans h63
  have g_544_64 := (f_544 64 (Nat.ne_of_beq_eq_false rfl)).trans h64
  have g_544_65 := (f_544 65 (Nat.ne_of_beq_eq_false rfl)).trans h65
  have g_544_62 : cE h_544 62 (.inr (3, [fI 1, .ref 63, .ref 64, fI im_, fJ id_, fI is_, .ref 65])) := e_544
  refine ik_Wk 1 (pc_q := 6) (loc_q := [some (.ref 62), some (.ref 7), some (.ref 14)]) (st_q := [.ref 14]) (h_q := h_544) (cl_q := 0) (sl_q := 0) rfl ?_
  refine fw_gf rfl rfl g_544_14 rfl ?_
  refine ik_Wk 2 (pc_q := 11) (loc_q := [some (.ref 62), some (.ref 7), some (.ref 14)]) (st_q := [.ref 62, fI 0, .ref 15]) (h_q := h_544) (cl_q := 0) (sl_q := 0) rfl ?_
  refine fw_gf rfl rfl g_544_62 rfl ?_
  refine ik_Wk 2 (pc_q := 16) (loc_q := [some (.ref 62), some (.ref 7), some (.ref 14)]) (st_q := [.ref 62, fI 0, .ref 63, fI 0, .ref 15]) (h_q := h_544) (cl_q := 0) (sl_q := 0) rfl ?_
  refine fw_gf rfl rfl g_544_62 rfl ?_
  refine fx_aln (L := 6) rfl g_544_63 rfl (by decide +kernel) ?_
  refine fx_cpy (xs := [ka, pa, fa, kb, pb, fb]) (ys := [e0, e1, e2, e3, e4, e5]) (n := 6) rfl rfl rfl g_544_15 g_544_63 (by decide +kernel) (by decide +kernel) rfl rfl (by decide +kernel) ⟨Nat.le_of_ble_eq_true rfl, Nat.le_of_ble_eq_true rfl, Nat.le_of_ble_eq_true rfl⟩ ?_
  intro h_545 e_545 f_545 l_545
  have k_545 : cL h_545 := l_545.trans k_544
  have fr_545 := hfr_wb fr_544 f_545 l_545 rfl
  clear l_545
  have g_545_0 := (f_545 0 (Nat.ne_of_beq_eq_false rfl)).trans g_544_0
  have g_545_7 := (f_545 7 (Nat.ne_of_beq_eq_false rfl)).trans g_544_7
  have g_545_10 := (f_545 10 (Nat.ne_of_beq_eq_false rfl)).trans g_544_10
  have g_545_14 := (f_545 14 (Nat.ne_of_beq_eq_false rfl)).trans g_544_14
  have g_545_15 := (f_545 15 (Nat.ne_of_beq_eq_false rfl)).trans g_544_15
  have g_545_16 := (f_545 16 (Nat.ne_of_beq_eq_false rfl)).trans g_544_16
  have g_545_57 := (f_545 57 (Nat.ne_of_beq_eq_false rfl)).trans g_544_57
  have g_545_62 := (f_545 62 (Nat.ne_of_beq_eq_false rfl)).trans g_544_62
  have g_545_64 := (f_545 64 (Nat.ne_of_beq_eq_false rfl)).trans g_544_64
  have g_545_65 := (f_545 65 (Nat.ne_of_beq_eq_false rfl)).trans g_544_65
  have g_545_63 : cE h_545 63 (.inl (.int, fA [ka, pa, fa, kb, pb, fb])) := e_545
  refine ik_Wk 1 (pc_q := 24) (loc_q := [some (.ref 62), some (.ref 7), some (.ref 14)]) (st_q := [.ref 14]) (h_q := h_545) (cl_q := 0) (sl_q := 0) rfl ?_
  refine fw_gf rfl rfl g_545_14 rfl ?_
  refine ik_Wk 2 (pc_q := 29) (loc_q := [some (.ref 62), some (.ref 7), some (.ref 14)]) (st_q := [.ref 62, fI 0, .ref 16]) (h_q := h_545) (cl_q := 0) (sl_q := 0) rfl ?_
  refine fw_gf rfl rfl g_545_62 rfl ?_
  refine ik_Wk 2 (pc_q := 34) (loc_q := [some (.ref 62), some (.ref 7), some (.ref 14)]) (st_q := [.ref 62, fI 0, .ref 64, fI 0, .ref 16]) (h_q := h_545) (cl_q := 0) (sl_q := 0) rfl ?_
  refine fw_gf rfl rfl g_545_62 rfl ?_
  refine fx_aln (L := 2) rfl g_545_64 rfl (by decide +kernel) ?_
  refine fx_cpy (xs := [xa, xb]) (ys := [y0, y1]) (n := 2) rfl rfl rfl g_545_16 g_545_64 (by decide +kernel) (by decide +kernel) rfl rfl (by decide +kernel) ⟨Nat.le_of_ble_eq_true rfl, Nat.le_of_ble_eq_true rfl, Nat.le_of_ble_eq_true rfl⟩ ?_
  intro h_546 e_546 f_546 l_546
  have k_546 : cL h_546 := l_546.trans k_545
  have fr_546 := hfr_wb fr_545 f_546 l_546 rfl
  clear l_546
  have g_546_0 := (f_546 0 (Nat.ne_of_beq_eq_false rfl)).trans g_545_0
  have g_546_7 := (f_546 7 (Nat.ne_of_beq_eq_false rfl)).trans g_545_7
  have g_546_10 := (f_546 10 (Nat.ne_of_beq_eq_false rfl)).trans g_545_10
  have g_546_14 := (f_546 14 (Nat.ne_of_beq_eq_false rfl)).trans g_545_14
  have g_546_15 := (f_546 15 (Nat.ne_of_beq_eq_false rfl)).trans g_545_15
  have g_546_16 := (f_546 16 (Nat.ne_of_beq_eq_false rfl)).trans g_545_16
  have g_546_57 := (f_546 57 (Nat.ne_of_beq_eq_false rfl)).trans g_545_57
  have g_546_62 := (f_546 62 (Nat.ne_of_beq_eq_false rfl)).trans g_545_62
  have g_546_63 := (f_546 63 (Nat.ne_of_beq_eq_false rfl)).trans g_545_63
  have g_546_65 := (f_546 65 (Nat.ne_of_beq_eq_false rfl)).trans g_545_65
  have g_546_64 : cE h_546 64 (.inl (.int, fA [xa, xb])) := e_546
  refine ik_Wk 2 (pc_q := 43) (loc_q := [some (.ref 62), some (.ref 7), some (.ref 14)]) (st_q := [.ref 14, .ref 62]) (h_q := h_546) (cl_q := 0) (sl_q := 0) rfl ?_
  refine fw_gf rfl rfl g_546_14 rfl ?_
  refine fx_pf rfl rfl g_546_62 (Nat.le_of_ble_eq_true rfl) rfl rfl ?_
  intro h_547 e_547 f_547 l_547
  have k_547 : cL h_547 := l_547.trans k_546
  have fr_547 := hfr_wb fr_546 f_547 l_547 rfl
  clear l_547
  have g_547_0 := (f_547 0 (Nat.ne_of_beq_eq_false rfl)).trans g_546_0
  have g_547_7 := (f_547 7 (Nat.ne_of_beq_eq_false rfl)).trans g_546_7
  have g_547_10 := (f_547 10 (Nat.ne_of_beq_eq_false rfl)).trans g_546_10
  have g_547_14 := (f_547 14 (Nat.ne_of_beq_eq_false rfl)).trans g_546_14
  have g_547_15 := (f_547 15 (Nat.ne_of_beq_eq_false rfl)).trans g_546_15
  have g_547_16 := (f_547 16 (Nat.ne_of_beq_eq_false rfl)).trans g_546_16
  have g_547_57 := (f_547 57 (Nat.ne_of_beq_eq_false rfl)).trans g_546_57
  have g_547_63 := (f_547 63 (Nat.ne_of_beq_eq_false rfl)).trans g_546_63
  have g_547_64 := (f_547 64 (Nat.ne_of_beq_eq_false rfl)).trans g_546_64
  have g_547_65 := (f_547 65 (Nat.ne_of_beq_eq_false rfl)).trans g_546_65
  have g_547_62 : cE h_547 62 (.inr (3, [fI 1, .ref 63, .ref 64, fI mi, fJ id_, fI is_, .ref 65])) := e_547
  refine ik_Wk 2 (pc_q := 51) (loc_q := [some (.ref 62), some (.ref 7), some (.ref 14)]) (st_q := [.ref 14, .ref 62]) (h_q := h_547) (cl_q := 0) (sl_q := 0) rfl ?_
  refine fw_gf rfl rfl g_547_14 rfl ?_
  refine fx_pf rfl rfl g_547_62 (Nat.le_of_ble_eq_true rfl) rfl rfl ?_
  intro h_548 e_548 f_548 l_548
  have k_548 : cL h_548 := l_548.trans k_547
  have fr_548 := hfr_wb fr_547 f_548 l_548 rfl
  clear l_548
  have g_548_0 := (f_548 0 (Nat.ne_of_beq_eq_false rfl)).trans g_547_0
  have g_548_7 := (f_548 7 (Nat.ne_of_beq_eq_false rfl)).trans g_547_7
  have g_548_10 := (f_548 10 (Nat.ne_of_beq_eq_false rfl)).trans g_547_10
  have g_548_14 := (f_548 14 (Nat.ne_of_beq_eq_false rfl)).trans g_547_14
  have g_548_15 := (f_548 15 (Nat.ne_of_beq_eq_false rfl)).trans g_547_15
  have g_548_16 := (f_548 16 (Nat.ne_of_beq_eq_false rfl)).trans g_547_16
  have g_548_57 := (f_548 57 (Nat.ne_of_beq_eq_false rfl)).trans g_547_57
  have g_548_63 := (f_548 63 (Nat.ne_of_beq_eq_false rfl)).trans g_547_63
  have g_548_64 := (f_548 64 (Nat.ne_of_beq_eq_false rfl)).trans g_547_64
  have g_548_65 := (f_548 65 (Nat.ne_of_beq_eq_false rfl)).trans g_547_65
  have g_548_62 : cE h_548 62 (.inr (3, [fI 1, .ref 63, .ref 64, fI mi, fJ dr, fI is_, .ref 65])) := e_548
  refine ik_Wk 2 (pc_q := 59) (loc_q := [some (.ref 62), some (.ref 7), some (.ref 14)]) (st_q := [.ref 7, .ref 62]) (h_q := h_548) (cl_q := 0) (sl_q := 0) rfl ?_
  refine fw_gf rfl rfl g_548_7 rfl ?_
  refine fx_pf rfl rfl g_548_62 (Nat.le_of_ble_eq_true rfl) rfl rfl ?_
  intro h_549 e_549 f_549 l_549
  have k_549 : cL h_549 := l_549.trans k_548
  have fr_549 := hfr_wb fr_548 f_549 l_549 rfl
  clear l_549
  have g_549_0 := (f_549 0 (Nat.ne_of_beq_eq_false rfl)).trans g_548_0
  have g_549_7 := (f_549 7 (Nat.ne_of_beq_eq_false rfl)).trans g_548_7
  have g_549_10 := (f_549 10 (Nat.ne_of_beq_eq_false rfl)).trans g_548_10
  have g_549_14 := (f_549 14 (Nat.ne_of_beq_eq_false rfl)).trans g_548_14
  have g_549_15 := (f_549 15 (Nat.ne_of_beq_eq_false rfl)).trans g_548_15
  have g_549_16 := (f_549 16 (Nat.ne_of_beq_eq_false rfl)).trans g_548_16
  have g_549_57 := (f_549 57 (Nat.ne_of_beq_eq_false rfl)).trans g_548_57
  have g_549_63 := (f_549 63 (Nat.ne_of_beq_eq_false rfl)).trans g_548_63
  have g_549_64 := (f_549 64 (Nat.ne_of_beq_eq_false rfl)).trans g_548_64
  have g_549_65 := (f_549 65 (Nat.ne_of_beq_eq_false rfl)).trans g_548_65
  have g_549_62 : cE h_549 62 (.inr (3, [fI 1, .ref 63, .ref 64, fI mi, fJ dr, fI st, .ref 65])) := e_549
  refine ik_Wk 1 (pc_q := 66) (loc_q := [some (.ref 62), some (.ref 7), some (.ref 14)]) (st_q := [.ref 7]) (h_q := h_549) (cl_q := 0) (sl_q := 0) rfl ?_
  refine fw_gf rfl rfl g_549_7 rfl ?_
  refine ik_Wk 2 (pc_q := 71) (loc_q := [some (.ref 62), some (.ref 7), some (.ref 14)]) (st_q := [.ref 62, fI 0, .ref 10]) (h_q := h_549) (cl_q := 0) (sl_q := 0) rfl ?_
  refine fw_gf rfl rfl g_549_62 rfl ?_
  refine ik_Wk 2 (pc_q := 76) (loc_q := [some (.ref 62), some (.ref 7), some (.ref 14)]) (st_q := [.ref 62, fI 0, .ref 65, fI 0, .ref 10]) (h_q := h_549) (cl_q := 0) (sl_q := 0) rfl ?_
  refine fw_gf rfl rfl g_549_62 rfl ?_
  refine fx_aln rfl g_549_65 ((fA_len _).trans n65) (by decide +kernel) ?_
  refine fx_cpy rfl rfl rfl g_549_10 g_549_65 (by decide +kernel) (by decide +kernel) n10 n65 (by decide +kernel) ⟨Nat.le_of_ble_eq_true rfl, Nat.le_of_ble_eq_true rfl, Nat.le_of_ble_eq_true rfl⟩ ?_
  intro h_550 e_550 f_550 l_550
  have k_550 : cL h_550 := l_550.trans k_549
  have fr_550 := hfr_wb fr_549 f_550 l_550 rfl
  clear l_550
  have g_550_0 := (f_550 0 (Nat.ne_of_beq_eq_false rfl)).trans g_549_0
  have g_550_7 := (f_550 7 (Nat.ne_of_beq_eq_false rfl)).trans g_549_7
  have g_550_10 := (f_550 10 (Nat.ne_of_beq_eq_false rfl)).trans g_549_10
  have g_550_14 := (f_550 14 (Nat.ne_of_beq_eq_false rfl)).trans g_549_14
  have g_550_15 := (f_550 15 (Nat.ne_of_beq_eq_false rfl)).trans g_549_15
  have g_550_16 := (f_550 16 (Nat.ne_of_beq_eq_false rfl)).trans g_549_16
  have g_550_57 := (f_550 57 (Nat.ne_of_beq_eq_false rfl)).trans g_549_57
  have g_550_62 := (f_550 62 (Nat.ne_of_beq_eq_false rfl)).trans g_549_62
  have g_550_63 := (f_550 63 (Nat.ne_of_beq_eq_false rfl)).trans g_549_63
  have g_550_64 := (f_550 64 (Nat.ne_of_beq_eq_false rfl)).trans g_549_64
  have g_550_65 : cE h_550 65 (.inl (.int, fA ch)) := e_550
  refine ik_Wret rfl rfl ⟨_, _, rfl, rfl, ?_⟩
  refine ik_Wk 0 (pc_q := 28) (loc_q := [some (.ref 0), some (fI 1)]) (st_q := []) (h_q := h_550) (cl_q := 0) (sl_q := 0) rfl ?_
  refine ik_Wk 1 (pc_q := 29) (loc_q := [some (.ref 0), some (fI 1)]) (st_q := [fI 1]) (h_q := h_550) (cl_q := 0) (sl_q := 0) rfl ?_
  exact ik_Wret rfl rfl ⟨_, _, rfl, rfl, rfl, rfl, ⟨rfl, g_550_62, g_550_63, g_550_64, g_550_65, n10, fr_550⟩⟩

theorem cp_goBack1T {h : List ik_E} {pl : Int} {s : Nat} {lo : Int} {im_ : Int} {id_ : Int} {s2 : Nat} {e0 : Int} {e1 : Int} {e2 : Int} {e3 : Int} {e4 : Int} {e5 : Int} {y0 : Int} {y1 : Int} {ci : List Int} {ka : Int} {pa : Int} {fa : Int} {kb : Int} {pb : Int} {fb : Int} {xa : Int} {xb : Int} {mi : Int} {dr : Int} {cn : List Int} {go : List Int} {ch : List Int} {wg : List Int} {wc : List Int} {we : List Int} (q0 : 0 ≤ pl ∧ pl ≤ 12) (q1 : s2 < 4096) (q2 : mx_rw pl cn go ci) (q3 : 1 ≤ pl → cn.getD (pl - 1).toNat 0 = 0) (q4 : 1 ≤ pl → s2.testBit (pl - 1).toNat = false) (h0 : cE h 0 (.inr (9, [.ref 1, .ref 7, .ref 14, .ref 17, .ref 45, .ref 51, .ref 54, .ref 57]))) (h7 : cE h 7 (.inr (0, [fI pl, fI ((s : Nat) : Int), fI lo, .ref 8, .ref 9, .ref 10, .ref 11, .ref 12, .ref 13]))) (h8 : cE h 8 (.inl (.int, fA cn))) (n8 : cn.length = (12 : Nat)) (h9 : cE h 9 (.inl (.int, fA go))) (n9 : go.length = (48 : Nat)) (h10 : cE h 10 (.inl (.int, fA ch))) (n10 : ch.length = (48 : Nat)) (h11 : cE h 11 (.inl (.int, fA wg))) (n11 : wg.length = (60 : Nat)) (h12 : cE h 12 (.inl (.int, fA wc))) (n12 : wc.length = (60 : Nat)) (h13 : cE h 13 (.inl (.int, fA we))) (n13 : we.length = (12 : Nat)) (h14 : cE h 14 (.inr (1, [.ref 7, .ref 15, .ref 16, fI mi, fJ dr]))) (h15 : cE h 15 (.inl (.int, fA [ka, pa, fa, kb, pb, fb]))) (h16 : cE h 16 (.inl (.int, fA [xa, xb]))) (h57 : cE h 57 (.inl (.object "SlowerCork$Image", [.ref 58, .ref 62]))) (h62 : cE h 62 (.inr (3, [fI 1, .ref 63, .ref 64, fI im_, fJ id_, fI ((s2 : Nat) : Int), .ref 65]))) (h63 : cE h 63 (.inl (.int, fA [e0, e1, e2, e3, e4, e5]))) (h64 : cE h 64 (.inl (.int, fA [y0, y1]))) (h65 : cE h 65 (.inl (.int, fA ci))) (n65 : ci.length = (48 : Nat)) (hl : h.length = (94 : Nat)) : ik_F 120 [.ref 0, fI 1] h (fun rv h_q => ∃ (wg' : List Int) (wc' : List Int) (we' : List Int), rv = [fI 1] ∧ cE h_q 7 (.inr (0, [fI pl, fI ((s2 : Nat) : Int), fI lo, .ref 8, .ref 9, .ref 10, .ref 11, .ref 12, .ref 13])) ∧ cE h_q 10 (.inl (.int, fA ci)) ∧ ci.length = (48 : Nat) ∧ cE h_q 11 (.inl (.int, fA wg')) ∧ wg'.length = (60 : Nat) ∧ cE h_q 12 (.inl (.int, fA wc')) ∧ wc'.length = (60 : Nat) ∧ cE h_q 13 (.inl (.int, fA we')) ∧ we'.length = (12 : Nat) ∧ cE h_q 14 (.inr (1, [.ref 7, .ref 15, .ref 16, fI im_, fJ id_])) ∧ cE h_q 15 (.inl (.int, fA [e0, e1, e2, e3, e4, e5])) ∧ cE h_q 16 (.inl (.int, fA [y0, y1])) ∧ (∀ x : Int, (0 : Int) ≤ x → x < pl - 1 → mx_wy wg' wc' we' x (mx_w cn go ci s2 x)) ∧ hfr [7, 10, 11, 12, 13, 14, 15, 16] h h_q) := by
  refine ik_Wk 2 (pc_q := 2) (loc_q := [some (.ref 0), some (fI 1)]) (st_q := [fI 1, .ref 0]) (h_q := h) (cl_q := 0) (sl_q := 0) rfl ?_
  refine ik_Wc 124 2 0 [.ref 0, fI 1] [] rfl rfl rfl (by decide +kernel) rfl rfl (fw_rec hl rfl h0 rfl (Nat.le_of_ble_eq_true rfl)) ?_
  refine ik_Wk 0 (pc_q := 0) (loc_q := [some (.ref 0), some (fI 1)]) (st_q := []) (h_q := h) (cl_q := 0) (sl_q := 0) rfl ?_
  refine ik_Wk 1 (pc_q := 1) (loc_q := [some (.ref 0), some (fI 1)]) (st_q := [fI 1]) (h_q := h) (cl_q := 0) (sl_q := 0) rfl ?_
  refine fw_if_lt rfl rfl (by decide +kernel) (by decide +kernel) (fun hc1 => absurd hc1 (by decide +kernel)) (fun hc1 => ?_)
  refine ik_Wk 2 (pc_q := 6) (loc_q := [some (.ref 0), some (fI 1)]) (st_q := [.ref 0, fI 1]) (h_q := h) (cl_q := 0) (sl_q := 0) rfl ?_
  refine fw_gf rfl rfl h0 rfl ?_
  refine fx_aln (L := 2) rfl h57 (rfl : [(.ref 58 : Value), (.ref 62 : Value)].length = 2) (by decide +kernel) ?_
  refine fw_ic_ge rfl rfl (by omega) (by omega) (by omega) (by omega) (fun hc2 => absurd hc2 (by omega)) (fun hc2 => ?_)
  refine ik_Wk 2 (pc_q := 18) (loc_q := [some (.ref 0), some (fI 1)]) (st_q := [fI 1]) (h_q := h) (cl_q := 0) (sl_q := 0) rfl ?_
  refine ik_Wret rfl rfl ⟨_, _, rfl, rfl, ?_⟩
  refine ik_Wk 0 (pc_q := 5) (loc_q := [some (.ref 0), some (fI 1)]) (st_q := [fI 1]) (h_q := h) (cl_q := 0) (sl_q := 0) rfl ?_
  refine fw_if_ne rfl rfl (by decide +kernel) (by decide +kernel) (fun hc3 => absurd hc3 (by decide +kernel)) (fun hc3 => ?_)
  refine ik_Wk 1 (pc_q := 12) (loc_q := [some (.ref 0), some (fI 1)]) (st_q := [.ref 0]) (h_q := h) (cl_q := 0) (sl_q := 0) rfl ?_
  refine fw_gf rfl rfl h0 rfl ?_
  refine ik_Wk 1 (pc_q := 16) (loc_q := [some (.ref 0), some (fI 1)]) (st_q := [fI 1, .ref 57]) (h_q := h) (cl_q := 0) (sl_q := 0) rfl ?_
  refine fx_aal (z := 1) rfl h57 (by decide +kernel) (by decide +kernel) rfl ?_
  refine fw_gf rfl rfl h62 rfl ?_
  refine fw_if_ne rfl rfl (by omega) (by omega) (fun hc4 => absurd hc4 (by omega)) (fun hc4 => ?_)
  refine ik_Wk 1 (pc_q := 27) (loc_q := [some (.ref 0), some (fI 1)]) (st_q := [.ref 0]) (h_q := h) (cl_q := 0) (sl_q := 0) rfl ?_
  refine fw_gf rfl rfl h0 rfl ?_
  refine ik_Wk 1 (pc_q := 31) (loc_q := [some (.ref 0), some (fI 1)]) (st_q := [fI 1, .ref 57]) (h_q := h) (cl_q := 0) (sl_q := 0) rfl ?_
  refine fx_aal (z := 1) rfl h57 (by decide +kernel) (by decide +kernel) rfl ?_
  refine ik_Wk 1 (pc_q := 33) (loc_q := [some (.ref 0), some (fI 1)]) (st_q := [.ref 0, .ref 62]) (h_q := h) (cl_q := 0) (sl_q := 0) rfl ?_
  refine fw_gf rfl rfl h0 rfl ?_
  refine ik_Wk 1 (pc_q := 37) (loc_q := [some (.ref 0), some (fI 1)]) (st_q := [.ref 0, .ref 7, .ref 62]) (h_q := h) (cl_q := 0) (sl_q := 0) rfl ?_
  refine fw_gf rfl rfl h0 rfl ?_
  refine ik_Wc 35 3 0 [.ref 62, .ref 7, .ref 14] [] rfl rfl rfl (by decide +kernel) rfl rfl (fw_rec hl rfl h62 rfl (Nat.le_of_ble_eq_true rfl)) ?_
  refine ik_Wk 0 (pc_q := 0) (loc_q := [some (.ref 62), some (.ref 7), some (.ref 14)]) (st_q := []) (h_q := h) (cl_q := 0) (sl_q := 0) rfl ?_
  refine ik_Wk 1 (pc_q := 1) (loc_q := [some (.ref 62), some (.ref 7), some (.ref 14)]) (st_q := [.ref 62]) (h_q := h) (cl_q := 0) (sl_q := 0) rfl ?_
  refine fw_gf rfl rfl h62 rfl ?_
  refine ik_Wk 2 (pc_q := 6) (loc_q := [some (.ref 62), some (.ref 7), some (.ref 14)]) (st_q := [.ref 14, fI 0, .ref 63]) (h_q := h) (cl_q := 0) (sl_q := 0) rfl ?_
  refine fw_gf rfl rfl h14 rfl ?_
  refine ik_Wk 2 (pc_q := 11) (loc_q := [some (.ref 62), some (.ref 7), some (.ref 14)]) (st_q := [.ref 62, fI 0, .ref 15, fI 0, .ref 63]) (h_q := h) (cl_q := 0) (sl_q := 0) rfl ?_
  refine fw_gf rfl rfl h62 rfl ?_
  refine fx_aln (L := 6) rfl h63 rfl (by decide +kernel) ?_
  refine fx_cpy (xs := [e0, e1, e2, e3, e4, e5]) (ys := [ka, pa, fa, kb, pb, fb]) (n := 6) rfl rfl rfl h63 h15 (by decide +kernel) (by decide +kernel) rfl rfl (by decide +kernel) ⟨Nat.le_of_ble_eq_true rfl, Nat.le_of_ble_eq_true rfl, Nat.le_of_ble_eq_true rfl⟩ ?_
  intro h_551 e_551 f_551 l_551
  have k_551 : cL h_551 := l_551.trans hl
  have fr_551 := hfr_wb (hfr_refl [7, 10, 11, 12, 13, 14, 15, 16] h) f_551 l_551 rfl
  clear l_551
  have g_551_0 := (f_551 0 (Nat.ne_of_beq_eq_false rfl)).trans h0
  have g_551_7 := (f_551 7 (Nat.ne_of_beq_eq_false rfl)).trans h7
  have g_551_8 := (f_551 8 (Nat.ne_of_beq_eq_false rfl)).trans h8
  have g_551_9 := (f_551 9 (Nat.ne_of_beq_eq_false rfl)).trans h9
  have g_551_10 := (f_551 10 (Nat.ne_of_beq_eq_false rfl)).trans h10
  have g_551_11 := (f_551 11 (Nat.ne_of_beq_eq_false rfl)).trans h11
  have g_551_12 := (f_551 12 (Nat.ne_of_beq_eq_false rfl)).trans h12
  have g_551_13 := (f_551 13 (Nat.ne_of_beq_eq_false rfl)).trans h13
  have g_551_14 := (f_551 14 (Nat.ne_of_beq_eq_false rfl)).trans h14
  have g_551_16 := (f_551 16 (Nat.ne_of_beq_eq_false rfl)).trans h16
  have g_551_57 := (f_551 57 (Nat.ne_of_beq_eq_false rfl)).trans h57
  have g_551_62 := (f_551 62 (Nat.ne_of_beq_eq_false rfl)).trans h62
  have g_551_63 := (f_551 63 (Nat.ne_of_beq_eq_false rfl)).trans h63
  have g_551_64 := (f_551 64 (Nat.ne_of_beq_eq_false rfl)).trans h64
  have g_551_65 := (f_551 65 (Nat.ne_of_beq_eq_false rfl)).trans h65
  have g_551_15 : cE h_551 15 (.inl (.int, fA [e0, e1, e2, e3, e4, e5])) := e_551
  refine ik_Wk 1 (pc_q := 19) (loc_q := [some (.ref 62), some (.ref 7), some (.ref 14)]) (st_q := [.ref 62]) (h_q := h_551) (cl_q := 0) (sl_q := 0) rfl ?_
  refine fw_gf rfl rfl g_551_62 rfl ?_
  refine ik_Wk 2 (pc_q := 24) (loc_q := [some (.ref 62), some (.ref 7), some (.ref 14)]) (st_q := [.ref 14, fI 0, .ref 64]) (h_q := h_551) (cl_q := 0) (sl_q := 0) rfl ?_
  refine fw_gf rfl rfl g_551_14 rfl ?_
  refine ik_Wk 2 (pc_q := 29) (loc_q := [some (.ref 62), some (.ref 7), some (.ref 14)]) (st_q := [.ref 62, fI 0, .ref 16, fI 0, .ref 64]) (h_q := h_551) (cl_q := 0) (sl_q := 0) rfl ?_
  refine fw_gf rfl rfl g_551_62 rfl ?_
  refine fx_aln (L := 2) rfl g_551_64 rfl (by decide +kernel) ?_
  refine fx_cpy (xs := [y0, y1]) (ys := [xa, xb]) (n := 2) rfl rfl rfl g_551_64 g_551_16 (by decide +kernel) (by decide +kernel) rfl rfl (by decide +kernel) ⟨Nat.le_of_ble_eq_true rfl, Nat.le_of_ble_eq_true rfl, Nat.le_of_ble_eq_true rfl⟩ ?_
  intro h_552 e_552 f_552 l_552
  have k_552 : cL h_552 := l_552.trans k_551
  have fr_552 := hfr_wb fr_551 f_552 l_552 rfl
  clear l_552
  have g_552_0 := (f_552 0 (Nat.ne_of_beq_eq_false rfl)).trans g_551_0
  have g_552_7 := (f_552 7 (Nat.ne_of_beq_eq_false rfl)).trans g_551_7
  have g_552_8 := (f_552 8 (Nat.ne_of_beq_eq_false rfl)).trans g_551_8
  have g_552_9 := (f_552 9 (Nat.ne_of_beq_eq_false rfl)).trans g_551_9
  have g_552_10 := (f_552 10 (Nat.ne_of_beq_eq_false rfl)).trans g_551_10
  have g_552_11 := (f_552 11 (Nat.ne_of_beq_eq_false rfl)).trans g_551_11
  have g_552_12 := (f_552 12 (Nat.ne_of_beq_eq_false rfl)).trans g_551_12
  have g_552_13 := (f_552 13 (Nat.ne_of_beq_eq_false rfl)).trans g_551_13
  have g_552_14 := (f_552 14 (Nat.ne_of_beq_eq_false rfl)).trans g_551_14
  have g_552_15 := (f_552 15 (Nat.ne_of_beq_eq_false rfl)).trans g_551_15
  have g_552_57 := (f_552 57 (Nat.ne_of_beq_eq_false rfl)).trans g_551_57
  have g_552_62 := (f_552 62 (Nat.ne_of_beq_eq_false rfl)).trans g_551_62
  have g_552_63 := (f_552 63 (Nat.ne_of_beq_eq_false rfl)).trans g_551_63
  have g_552_64 := (f_552 64 (Nat.ne_of_beq_eq_false rfl)).trans g_551_64
  have g_552_65 := (f_552 65 (Nat.ne_of_beq_eq_false rfl)).trans g_551_65
  have g_552_16 : cE h_552 16 (.inl (.int, fA [y0, y1])) := e_552
  refine ik_Wk 2 (pc_q := 38) (loc_q := [some (.ref 62), some (.ref 7), some (.ref 14)]) (st_q := [.ref 62, .ref 14]) (h_q := h_552) (cl_q := 0) (sl_q := 0) rfl ?_
  refine fw_gf rfl rfl g_552_62 rfl ?_
  refine fx_pf rfl rfl g_552_14 (Nat.le_of_ble_eq_true rfl) rfl rfl ?_
  intro h_553 e_553 f_553 l_553
  have k_553 : cL h_553 := l_553.trans k_552
  have fr_553 := hfr_wb fr_552 f_553 l_553 rfl
  clear l_553
  have g_553_0 := (f_553 0 (Nat.ne_of_beq_eq_false rfl)).trans g_552_0
  have g_553_7 := (f_553 7 (Nat.ne_of_beq_eq_false rfl)).trans g_552_7
  have g_553_8 := (f_553 8 (Nat.ne_of_beq_eq_false rfl)).trans g_552_8
  have g_553_9 := (f_553 9 (Nat.ne_of_beq_eq_false rfl)).trans g_552_9
  have g_553_10 := (f_553 10 (Nat.ne_of_beq_eq_false rfl)).trans g_552_10
  have g_553_11 := (f_553 11 (Nat.ne_of_beq_eq_false rfl)).trans g_552_11
  have g_553_12 := (f_553 12 (Nat.ne_of_beq_eq_false rfl)).trans g_552_12
  have g_553_13 := (f_553 13 (Nat.ne_of_beq_eq_false rfl)).trans g_552_13
  have g_553_15 := (f_553 15 (Nat.ne_of_beq_eq_false rfl)).trans g_552_15
  have g_553_16 := (f_553 16 (Nat.ne_of_beq_eq_false rfl)).trans g_552_16
  have g_553_57 := (f_553 57 (Nat.ne_of_beq_eq_false rfl)).trans g_552_57
  have g_553_62 := (f_553 62 (Nat.ne_of_beq_eq_false rfl)).trans g_552_62
  have g_553_63 := (f_553 63 (Nat.ne_of_beq_eq_false rfl)).trans g_552_63
  have g_553_64 := (f_553 64 (Nat.ne_of_beq_eq_false rfl)).trans g_552_64
  have g_553_65 := (f_553 65 (Nat.ne_of_beq_eq_false rfl)).trans g_552_65
  have g_553_14 : cE h_553 14 (.inr (1, [.ref 7, .ref 15, .ref 16, fI im_, fJ dr])) := e_553
  refine ik_Wk 2 (pc_q := 46) (loc_q := [some (.ref 62), some (.ref 7), some (.ref 14)]) (st_q := [.ref 62, .ref 14]) (h_q := h_553) (cl_q := 0) (sl_q := 0) rfl ?_
  refine fw_gf rfl rfl g_553_62 rfl ?_
  refine fx_pf rfl rfl g_553_14 (Nat.le_of_ble_eq_true rfl) rfl rfl ?_
  intro h_554 e_554 f_554 l_554
  have k_554 : cL h_554 := l_554.trans k_553
  have fr_554 := hfr_wb fr_553 f_554 l_554 rfl
  clear l_554
  have g_554_0 := (f_554 0 (Nat.ne_of_beq_eq_false rfl)).trans g_553_0
  have g_554_7 := (f_554 7 (Nat.ne_of_beq_eq_false rfl)).trans g_553_7
  have g_554_8 := (f_554 8 (Nat.ne_of_beq_eq_false rfl)).trans g_553_8
  have g_554_9 := (f_554 9 (Nat.ne_of_beq_eq_false rfl)).trans g_553_9
  have g_554_10 := (f_554 10 (Nat.ne_of_beq_eq_false rfl)).trans g_553_10
  have g_554_11 := (f_554 11 (Nat.ne_of_beq_eq_false rfl)).trans g_553_11
  have g_554_12 := (f_554 12 (Nat.ne_of_beq_eq_false rfl)).trans g_553_12
  have g_554_13 := (f_554 13 (Nat.ne_of_beq_eq_false rfl)).trans g_553_13
  have g_554_15 := (f_554 15 (Nat.ne_of_beq_eq_false rfl)).trans g_553_15
  have g_554_16 := (f_554 16 (Nat.ne_of_beq_eq_false rfl)).trans g_553_16
  have g_554_57 := (f_554 57 (Nat.ne_of_beq_eq_false rfl)).trans g_553_57
  have g_554_62 := (f_554 62 (Nat.ne_of_beq_eq_false rfl)).trans g_553_62
  have g_554_63 := (f_554 63 (Nat.ne_of_beq_eq_false rfl)).trans g_553_63
  have g_554_64 := (f_554 64 (Nat.ne_of_beq_eq_false rfl)).trans g_553_64
  have g_554_65 := (f_554 65 (Nat.ne_of_beq_eq_false rfl)).trans g_553_65
  have g_554_14 : cE h_554 14 (.inr (1, [.ref 7, .ref 15, .ref 16, fI im_, fJ id_])) := e_554
  refine ik_Wk 2 (pc_q := 54) (loc_q := [some (.ref 62), some (.ref 7), some (.ref 14)]) (st_q := [.ref 62, .ref 7]) (h_q := h_554) (cl_q := 0) (sl_q := 0) rfl ?_
  refine fw_gf rfl rfl g_554_62 rfl ?_
  refine fx_pf rfl rfl g_554_7 (Nat.le_of_ble_eq_true rfl) rfl rfl ?_
  intro h_555 e_555 f_555 l_555
  have k_555 : cL h_555 := l_555.trans k_554
  have fr_555 := hfr_wb fr_554 f_555 l_555 rfl
  clear l_555
  have g_555_0 := (f_555 0 (Nat.ne_of_beq_eq_false rfl)).trans g_554_0
  have g_555_8 := (f_555 8 (Nat.ne_of_beq_eq_false rfl)).trans g_554_8
  have g_555_9 := (f_555 9 (Nat.ne_of_beq_eq_false rfl)).trans g_554_9
  have g_555_10 := (f_555 10 (Nat.ne_of_beq_eq_false rfl)).trans g_554_10
  have g_555_11 := (f_555 11 (Nat.ne_of_beq_eq_false rfl)).trans g_554_11
  have g_555_12 := (f_555 12 (Nat.ne_of_beq_eq_false rfl)).trans g_554_12
  have g_555_13 := (f_555 13 (Nat.ne_of_beq_eq_false rfl)).trans g_554_13
  have g_555_14 := (f_555 14 (Nat.ne_of_beq_eq_false rfl)).trans g_554_14
  have g_555_15 := (f_555 15 (Nat.ne_of_beq_eq_false rfl)).trans g_554_15
  have g_555_16 := (f_555 16 (Nat.ne_of_beq_eq_false rfl)).trans g_554_16
  have g_555_57 := (f_555 57 (Nat.ne_of_beq_eq_false rfl)).trans g_554_57
  have g_555_62 := (f_555 62 (Nat.ne_of_beq_eq_false rfl)).trans g_554_62
  have g_555_63 := (f_555 63 (Nat.ne_of_beq_eq_false rfl)).trans g_554_63
  have g_555_64 := (f_555 64 (Nat.ne_of_beq_eq_false rfl)).trans g_554_64
  have g_555_65 := (f_555 65 (Nat.ne_of_beq_eq_false rfl)).trans g_554_65
  have g_555_7 : cE h_555 7 (.inr (0, [fI pl, fI ((s2 : Nat) : Int), fI lo, .ref 8, .ref 9, .ref 10, .ref 11, .ref 12, .ref 13])) := e_555
  refine ik_Wk 1 (pc_q := 61) (loc_q := [some (.ref 62), some (.ref 7), some (.ref 14)]) (st_q := [.ref 62]) (h_q := h_555) (cl_q := 0) (sl_q := 0) rfl ?_
  refine fw_gf rfl rfl g_555_62 rfl ?_
  refine ik_Wk 2 (pc_q := 66) (loc_q := [some (.ref 62), some (.ref 7), some (.ref 14)]) (st_q := [.ref 7, fI 0, .ref 65]) (h_q := h_555) (cl_q := 0) (sl_q := 0) rfl ?_
  refine fw_gf rfl rfl g_555_7 rfl ?_
  refine ik_Wk 2 (pc_q := 71) (loc_q := [some (.ref 62), some (.ref 7), some (.ref 14)]) (st_q := [.ref 62, fI 0, .ref 10, fI 0, .ref 65]) (h_q := h_555) (cl_q := 0) (sl_q := 0) rfl ?_
  refine fw_gf rfl rfl g_555_62 rfl ?_
  refine fx_aln rfl g_555_65 ((fA_len _).trans n65) (by decide +kernel) ?_
  refine fx_cpy rfl rfl rfl g_555_65 g_555_10 (by decide +kernel) (by decide +kernel) n65 n10 (by decide +kernel) ⟨Nat.le_of_ble_eq_true rfl, Nat.le_of_ble_eq_true rfl, Nat.le_of_ble_eq_true rfl⟩ ?_
  intro h_556 e_556 f_556 l_556
  have k_556 : cL h_556 := l_556.trans k_555
  have fr_556 := hfr_wb fr_555 f_556 l_556 rfl
  clear l_556
  have g_556_0 := (f_556 0 (Nat.ne_of_beq_eq_false rfl)).trans g_555_0
  have g_556_7 := (f_556 7 (Nat.ne_of_beq_eq_false rfl)).trans g_555_7
  have g_556_8 := (f_556 8 (Nat.ne_of_beq_eq_false rfl)).trans g_555_8
  have g_556_9 := (f_556 9 (Nat.ne_of_beq_eq_false rfl)).trans g_555_9
  have g_556_11 := (f_556 11 (Nat.ne_of_beq_eq_false rfl)).trans g_555_11
  have g_556_12 := (f_556 12 (Nat.ne_of_beq_eq_false rfl)).trans g_555_12
  have g_556_13 := (f_556 13 (Nat.ne_of_beq_eq_false rfl)).trans g_555_13
  have g_556_14 := (f_556 14 (Nat.ne_of_beq_eq_false rfl)).trans g_555_14
  have g_556_15 := (f_556 15 (Nat.ne_of_beq_eq_false rfl)).trans g_555_15
  have g_556_16 := (f_556 16 (Nat.ne_of_beq_eq_false rfl)).trans g_555_16
  have g_556_57 := (f_556 57 (Nat.ne_of_beq_eq_false rfl)).trans g_555_57
  have g_556_62 := (f_556 62 (Nat.ne_of_beq_eq_false rfl)).trans g_555_62
  have g_556_63 := (f_556 63 (Nat.ne_of_beq_eq_false rfl)).trans g_555_63
  have g_556_64 := (f_556 64 (Nat.ne_of_beq_eq_false rfl)).trans g_555_64
  have g_556_65 := (f_556 65 (Nat.ne_of_beq_eq_false rfl)).trans g_555_65
  have g_556_10 : cE h_556 10 (.inl (.int, fA ci)) := e_556
  refine ik_Wk 1 (pc_q := 79) (loc_q := [some (.ref 62), some (.ref 7), some (.ref 14)]) (st_q := [.ref 7]) (h_q := h_556) (cl_q := 0) (sl_q := 0) rfl ?_
  refine fw_call 11 1 0 [.ref 7] [] rfl rfl rfl (Nat.le_of_ble_eq_true rfl) rfl rfl (fw_rec k_556 rfl g_556_7 rfl (Nat.le_of_ble_eq_true rfl)) (cs_settleAll (pl := pl) (lo := lo) (s := s2) (cn := cn) (go := go) (ch := ci) (wg := wg) (wc := wc) (we := we) (by omega) q1 q2 q3 q4 g_556_7 g_556_8 n8 g_556_9 n9 g_556_10 n65 g_556_11 n11 g_556_12 n12 g_556_13 n13 k_556) ?_
  rintro _ h_557 ⟨wg'_557, wc'_557, we'_557, rfl, e_557_11, m_557_11, e_557_12, m_557_12, e_557_13, m_557_13, p_557_0, F_557⟩
  have k_557 : cL h_557 := F_557.1.trans k_556
  have fr_557 := hfr_cb fr_556 F_557 rfl
  have g_557_0 := (hfr_g F_557 0 rfl).trans g_556_0
  have g_557_7 := (hfr_g F_557 7 rfl).trans g_556_7
  have g_557_8 := (hfr_g F_557 8 rfl).trans g_556_8
  have g_557_9 := (hfr_g F_557 9 rfl).trans g_556_9
  have g_557_10 := (hfr_g F_557 10 rfl).trans g_556_10
  have g_557_14 := (hfr_g F_557 14 rfl).trans g_556_14
  have g_557_15 := (hfr_g F_557 15 rfl).trans g_556_15
  have g_557_16 := (hfr_g F_557 16 rfl).trans g_556_16
  have g_557_57 := (hfr_g F_557 57 rfl).trans g_556_57
  have g_557_62 := (hfr_g F_557 62 rfl).trans g_556_62
  have g_557_63 := (hfr_g F_557 63 rfl).trans g_556_63
  have g_557_64 := (hfr_g F_557 64 rfl).trans g_556_64
  have g_557_65 := (hfr_g F_557 65 rfl).trans g_556_65
  have g_557_11 : cE h_557 11 (.inl (.int, fA wg'_557)) := e_557_11
  have g_557_12 : cE h_557 12 (.inl (.int, fA wc'_557)) := e_557_12
  have g_557_13 : cE h_557 13 (.inl (.int, fA we'_557)) := e_557_13
  refine ik_Wk 0 (pc_q := 82) (loc_q := [some (.ref 62), some (.ref 7), some (.ref 14)]) (st_q := []) (h_q := h_557) (cl_q := 0) (sl_q := 0) rfl ?_
  refine ik_Wret rfl rfl ⟨_, _, rfl, rfl, ?_⟩
  refine ik_Wk 0 (pc_q := 43) (loc_q := [some (.ref 0), some (fI 1)]) (st_q := []) (h_q := h_557) (cl_q := 0) (sl_q := 0) rfl ?_
  refine ik_Wk 1 (pc_q := 44) (loc_q := [some (.ref 0), some (fI 1)]) (st_q := [fI 1]) (h_q := h_557) (cl_q := 0) (sl_q := 0) rfl ?_
  exact ik_Wret rfl rfl ⟨_, _, rfl, rfl, rfl, rfl, ⟨wg'_557, wc'_557, we'_557, rfl, g_557_7, g_557_10, n65, g_557_11, m_557_11, g_557_12, m_557_12, g_557_13, m_557_13, g_557_14, g_557_15, g_557_16, p_557_0, fr_557⟩⟩

theorem cp_goBack1N {h : List ik_E} {im_ : Int} {id_ : Int} {is_ : Int}  (h0 : cE h 0 (.inr (9, [.ref 1, .ref 7, .ref 14, .ref 17, .ref 45, .ref 51, .ref 54, .ref 57]))) (h57 : cE h 57 (.inl (.object "SlowerCork$Image", [.ref 58, .ref 62]))) (h62 : cE h 62 (.inr (3, [fI 0, .ref 63, .ref 64, fI im_, fJ id_, fI is_, .ref 65]))) (hl : h.length = 94) : ik_F 120 [.ref 0, fI 1] h (fun rv h_q => rv = [fI (-1000000003)] ∧ hfr [] h h_q) := by
  refine ik_Wk 2 (pc_q := 2) (loc_q := [some (.ref 0), some (fI 1)]) (st_q := [fI 1, .ref 0]) (h_q := h) (cl_q := 0) (sl_q := 0) rfl ?_
  refine ik_Wc 124 2 0 [.ref 0, fI 1] [] rfl rfl rfl (by decide +kernel) rfl rfl (fw_rec hl rfl h0 rfl (Nat.le_of_ble_eq_true rfl)) ?_
  refine ik_Wk 0 (pc_q := 0) (loc_q := [some (.ref 0), some (fI 1)]) (st_q := []) (h_q := h) (cl_q := 0) (sl_q := 0) rfl ?_
  refine ik_Wk 1 (pc_q := 1) (loc_q := [some (.ref 0), some (fI 1)]) (st_q := [fI 1]) (h_q := h) (cl_q := 0) (sl_q := 0) rfl ?_
  refine fw_if_lt rfl rfl (by decide +kernel) (by decide +kernel) (fun hc1 => absurd hc1 (by decide +kernel)) (fun hc1 => ?_)
  refine ik_Wk 2 (pc_q := 6) (loc_q := [some (.ref 0), some (fI 1)]) (st_q := [.ref 0, fI 1]) (h_q := h) (cl_q := 0) (sl_q := 0) rfl ?_
  refine fw_gf rfl rfl h0 rfl ?_
  refine fx_aln (L := 2) rfl h57 (rfl : [(.ref 58 : Value), (.ref 62 : Value)].length = 2) (by decide +kernel) ?_
  refine fw_ic_ge rfl rfl (by omega) (by omega) (by omega) (by omega) (fun hc2 => absurd hc2 (by omega)) (fun hc2 => ?_)
  refine ik_Wk 2 (pc_q := 18) (loc_q := [some (.ref 0), some (fI 1)]) (st_q := [fI 1]) (h_q := h) (cl_q := 0) (sl_q := 0) rfl ?_
  refine ik_Wret rfl rfl ⟨_, _, rfl, rfl, ?_⟩
  refine ik_Wk 0 (pc_q := 5) (loc_q := [some (.ref 0), some (fI 1)]) (st_q := [fI 1]) (h_q := h) (cl_q := 0) (sl_q := 0) rfl ?_
  refine fw_if_ne rfl rfl (by decide +kernel) (by decide +kernel) (fun hc3 => absurd hc3 (by decide +kernel)) (fun hc3 => ?_)
  refine ik_Wk 1 (pc_q := 12) (loc_q := [some (.ref 0), some (fI 1)]) (st_q := [.ref 0]) (h_q := h) (cl_q := 0) (sl_q := 0) rfl ?_
  refine fw_gf rfl rfl h0 rfl ?_
  refine ik_Wk 1 (pc_q := 16) (loc_q := [some (.ref 0), some (fI 1)]) (st_q := [fI 1, .ref 57]) (h_q := h) (cl_q := 0) (sl_q := 0) rfl ?_
  refine fx_aal (z := 1) rfl h57 (by decide +kernel) (by decide +kernel) rfl ?_
  refine fw_gf rfl rfl h62 rfl ?_
  refine fw_if_ne rfl rfl (by omega) (by omega) (fun hc4 => ?_) (fun hc4 => absurd hc4 (by omega))
  refine fw_ld (-1000000003) rfl rfl (by decide +kernel) ?_
  exact ik_Wret rfl rfl ⟨_, _, rfl, rfl, rfl, rfl, ⟨rfl, (hfr_refl [] h)⟩⟩

theorem rp_keep1L {h : List ik_E} {f : Nat → Int} {s : Nat} {t0 : Int} {t1 : Int} {ka : Int} {pa : Int} {fa : Int} {kb : Int} {pb : Int} {fb : Int} {xa : Int} {xb : Int} {mi : Int} {sd : Int} {ch : List Int} {im : List Int}   : ∀ (k : Nat) (i : Int) (m1 : List Int) (u : List ik_E) (u66 : cE u 66 (.inr (10, (fI (f 0) :: .ref 67 :: .ref 68 :: .ref 69 :: fI ((s : Nat) : Int) :: .ref 70 :: .ref 71 :: fI mi :: fI sd :: .ref 72 :: fI (f 10) :: fI (f 11) :: fI (f 12) :: fJ (f 13) :: fI (f 14) :: fI (f 15) :: fI (f 16) :: fI (f 17) :: .ref 73 :: .ref 74 :: .ref 75 :: .ref 76 :: .ref 77 :: .ref 78 :: fI (f 24) :: .ref 79 :: .ref 80 :: .ref 81 :: .ref 82 :: .ref 83 :: .ref 84 :: .ref 85 :: fJ (f 32) :: fJ (f 33) :: .ref 86 :: .ref 87 :: fI (f 36) :: .ref 88 :: .ref 89 :: .ref 90 :: .ref 91 :: .ref 92 :: .ref 93 :: [])))) (u69 : cE u 69 (.inl (.int, fA ch))) (n69 : ch.length = (48 : Nat)) (u70 : cE u 70 (.inl (.int, fA [ka, pa, fa, kb, pb, fb]))) (u71 : cE u 71 (.inl (.int, fA [xa, xb]))) (u92 : cE u 92 (.inl (.int, fA m1))) (n92 : m1.length = (160 : Nat)) (u93 : cE u 93 (.inl (.boolean, fA [t0, t1]))) (ul : u.length = (94 : Nat)) (F : hfr [92, 93] h u) (hi : (0 : Int) ≤ i ∧ i ≤ (48 : Int)) (hc : ∀ j : Nat, (j : Int) < i → m1.getD (80 + j) 0 = ch.getD j 0) (ho : mx_out 80 160 im m1) (hk : 48 - i < (k : Int)), ik_G 209 20 [some (.ref 66), some (fI 1), some (fI 80), some (fI i)] [] u (fun rv h_q => ∃ (im' : List Int), rv = [fI 1] ∧ cE h_q 92 (.inl (.int, fA im')) ∧ im'.length = (160 : Nat) ∧ cE h_q 93 (.inl (.boolean, fA [t0, 1])) ∧ (mi_ok im' 80 ch ka pa fa kb pb fb xa xb mi s sd) ∧ (mx_out 80 160 im im') ∧ hfr [92, 93] h h_q) := by
  intro k
  induction k with
  | zero => intro i m1 u u66 u69 n69 u70 u71 u92 n92 u93 ul F hi hc ho hk; omega
  | succ k ih =>
    intro i m1 u u66 u69 n69 u70 u71 u92 n92 u93 ul F hi hc ho hk
    refine ik_Wk 1 (pc_q := 21) (loc_q := [some (.ref 66), some (fI 1), some (fI 80), some (fI i)]) (st_q := [fI i]) (h_q := u) (cl_q := 0) (sl_q := 0) rfl ?_
    refine fw_bi rfl (by decide +kernel) ?_
    refine fw_ic_ge rfl rfl (by omega) (by omega) (by omega) (by omega) (fun hc1 => ?_) (fun hc1 => ?_)
    · refine ik_Wk 3 (pc_q := 49) (loc_q := [some (.ref 66), some (fI 1), some (fI 80), some (fI 0)]) (st_q := [fI 0]) (h_q := u) (cl_q := 0) (sl_q := 0) rfl ?_
      refine fw_bi rfl (by decide +kernel) ?_
      refine fw_ic_ge rfl rfl (by omega) (by omega) (by omega) (by omega) (fun hc2 => absurd hc2 (by omega)) (fun hc2 => ?_)
      refine ik_Wk 1 (pc_q := 55) (loc_q := [some (.ref 66), some (fI 1), some (fI 80), some (fI 0)]) (st_q := [.ref 66]) (h_q := u) (cl_q := 0) (sl_q := 0) rfl ?_
      refine fw_gf rfl rfl u66 rfl ?_
      refine ik_Wk 1 (pc_q := 59) (loc_q := [some (.ref 66), some (fI 1), some (fI 80), some (fI 0)]) (st_q := [fI 80, .ref 92]) (h_q := u) (cl_q := 0) (sl_q := 0) rfl ?_
      refine fw_bi rfl (by decide +kernel) ?_
      refine fw_add rfl ?_
      refine ik_Wk 1 (pc_q := 63) (loc_q := [some (.ref 66), some (fI 1), some (fI 80), some (fI 0)]) (st_q := [fI 0, fI 128, .ref 92]) (h_q := u) (cl_q := 0) (sl_q := 0) rfl ?_
      refine fw_add rfl ?_
      refine ik_Wk 1 (pc_q := 65) (loc_q := [some (.ref 66), some (fI 1), some (fI 80), some (fI 0)]) (st_q := [.ref 66, fI 128, .ref 92]) (h_q := u) (cl_q := 0) (sl_q := 0) rfl ?_
      refine fw_gf rfl rfl u66 rfl ?_
      refine ik_Wk 1 (pc_q := 69) (loc_q := [some (.ref 66), some (fI 1), some (fI 80), some (fI 0)]) (st_q := [fI 0, .ref 70, fI 128, .ref 92]) (h_q := u) (cl_q := 0) (sl_q := 0) rfl ?_
      refine fw_ial (z := 0) rfl u70 (by decide +kernel) (Nat.le_of_ble_eq_true rfl) (by decide +kernel) ?_
      refine ik_Wk 0 (pc_q := 70) (loc_q := [some (.ref 66), some (fI 1), some (fI 80), some (fI 0)]) (st_q := [fI ka, fI 128, .ref 92]) (h_q := u) (cl_q := 0) (sl_q := 0) rfl ?_
      have hl3 : (m1.set (128 : Int).toNat ka).length = 160 := (List.length_set ..).trans n92
      refine fx_ias rfl u92 (by omega) (by omega) (by omega) ?_
      intro h_558 e_558 f_558 l_558
      have k_558 : cL h_558 := l_558.trans ul
      have fr_558 := hfr_wb F f_558 l_558 rfl
      clear l_558
      have g_558_66 := (f_558 66 (Nat.ne_of_beq_eq_false rfl)).trans u66
      have g_558_69 := (f_558 69 (Nat.ne_of_beq_eq_false rfl)).trans u69
      have g_558_70 := (f_558 70 (Nat.ne_of_beq_eq_false rfl)).trans u70
      have g_558_71 := (f_558 71 (Nat.ne_of_beq_eq_false rfl)).trans u71
      have g_558_93 := (f_558 93 (Nat.ne_of_beq_eq_false rfl)).trans u93
      have g_558_92 : cE h_558 92 (.inl (.int, fA (m1.set (128 : Int).toNat ka))) := e_558
      refine fw_inc (a := 0) (loc_q := [some (.ref 66), some (fI 1), some (fI 80), some (fI 1)]) rfl rfl (Nat.le_of_ble_eq_true rfl) rfl ?_
      refine ik_Wk 2 (pc_q := 49) (loc_q := [some (.ref 66), some (fI 1), some (fI 80), some (fI 1)]) (st_q := [fI 1]) (h_q := h_558) (cl_q := 0) (sl_q := 0) rfl ?_
      refine fw_bi rfl (by decide +kernel) ?_
      refine fw_ic_ge rfl rfl (by omega) (by omega) (by omega) (by omega) (fun hc4 => absurd hc4 (by omega)) (fun hc4 => ?_)
      refine ik_Wk 1 (pc_q := 55) (loc_q := [some (.ref 66), some (fI 1), some (fI 80), some (fI 1)]) (st_q := [.ref 66]) (h_q := h_558) (cl_q := 0) (sl_q := 0) rfl ?_
      refine fw_gf rfl rfl g_558_66 rfl ?_
      refine ik_Wk 1 (pc_q := 59) (loc_q := [some (.ref 66), some (fI 1), some (fI 80), some (fI 1)]) (st_q := [fI 80, .ref 92]) (h_q := h_558) (cl_q := 0) (sl_q := 0) rfl ?_
      refine fw_bi rfl (by decide +kernel) ?_
      refine fw_add rfl ?_
      refine ik_Wk 1 (pc_q := 63) (loc_q := [some (.ref 66), some (fI 1), some (fI 80), some (fI 1)]) (st_q := [fI 1, fI 128, .ref 92]) (h_q := h_558) (cl_q := 0) (sl_q := 0) rfl ?_
      refine fw_add rfl ?_
      refine ik_Wk 1 (pc_q := 65) (loc_q := [some (.ref 66), some (fI 1), some (fI 80), some (fI 1)]) (st_q := [.ref 66, fI 129, .ref 92]) (h_q := h_558) (cl_q := 0) (sl_q := 0) rfl ?_
      refine fw_gf rfl rfl g_558_66 rfl ?_
      refine ik_Wk 1 (pc_q := 69) (loc_q := [some (.ref 66), some (fI 1), some (fI 80), some (fI 1)]) (st_q := [fI 1, .ref 70, fI 129, .ref 92]) (h_q := h_558) (cl_q := 0) (sl_q := 0) rfl ?_
      refine fw_ial (z := 1) rfl g_558_70 (by decide +kernel) (Nat.le_of_ble_eq_true rfl) (by decide +kernel) ?_
      refine ik_Wk 0 (pc_q := 70) (loc_q := [some (.ref 66), some (fI 1), some (fI 80), some (fI 1)]) (st_q := [fI pa, fI 129, .ref 92]) (h_q := h_558) (cl_q := 0) (sl_q := 0) rfl ?_
      have hl5 : ((m1.set (128 : Int).toNat ka).set (129 : Int).toNat pa).length = 160 := (List.length_set ..).trans hl3
      refine fx_ias rfl g_558_92 (by omega) (by omega) (by omega) ?_
      intro h_559 e_559 f_559 l_559
      have k_559 : cL h_559 := l_559.trans k_558
      have fr_559 := hfr_wb fr_558 f_559 l_559 rfl
      clear l_559
      have g_559_66 := (f_559 66 (Nat.ne_of_beq_eq_false rfl)).trans g_558_66
      have g_559_69 := (f_559 69 (Nat.ne_of_beq_eq_false rfl)).trans g_558_69
      have g_559_70 := (f_559 70 (Nat.ne_of_beq_eq_false rfl)).trans g_558_70
      have g_559_71 := (f_559 71 (Nat.ne_of_beq_eq_false rfl)).trans g_558_71
      have g_559_93 := (f_559 93 (Nat.ne_of_beq_eq_false rfl)).trans g_558_93
      have g_559_92 : cE h_559 92 (.inl (.int, fA ((m1.set (128 : Int).toNat ka).set (129 : Int).toNat pa))) := e_559
      refine fw_inc (a := 1) (loc_q := [some (.ref 66), some (fI 1), some (fI 80), some (fI 2)]) rfl rfl (Nat.le_of_ble_eq_true rfl) rfl ?_
      refine ik_Wk 2 (pc_q := 49) (loc_q := [some (.ref 66), some (fI 1), some (fI 80), some (fI 2)]) (st_q := [fI 2]) (h_q := h_559) (cl_q := 0) (sl_q := 0) rfl ?_
      refine fw_bi rfl (by decide +kernel) ?_
      refine fw_ic_ge rfl rfl (by omega) (by omega) (by omega) (by omega) (fun hc6 => absurd hc6 (by omega)) (fun hc6 => ?_)
      refine ik_Wk 1 (pc_q := 55) (loc_q := [some (.ref 66), some (fI 1), some (fI 80), some (fI 2)]) (st_q := [.ref 66]) (h_q := h_559) (cl_q := 0) (sl_q := 0) rfl ?_
      refine fw_gf rfl rfl g_559_66 rfl ?_
      refine ik_Wk 1 (pc_q := 59) (loc_q := [some (.ref 66), some (fI 1), some (fI 80), some (fI 2)]) (st_q := [fI 80, .ref 92]) (h_q := h_559) (cl_q := 0) (sl_q := 0) rfl ?_
      refine fw_bi rfl (by decide +kernel) ?_
      refine fw_add rfl ?_
      refine ik_Wk 1 (pc_q := 63) (loc_q := [some (.ref 66), some (fI 1), some (fI 80), some (fI 2)]) (st_q := [fI 2, fI 128, .ref 92]) (h_q := h_559) (cl_q := 0) (sl_q := 0) rfl ?_
      refine fw_add rfl ?_
      refine ik_Wk 1 (pc_q := 65) (loc_q := [some (.ref 66), some (fI 1), some (fI 80), some (fI 2)]) (st_q := [.ref 66, fI 130, .ref 92]) (h_q := h_559) (cl_q := 0) (sl_q := 0) rfl ?_
      refine fw_gf rfl rfl g_559_66 rfl ?_
      refine ik_Wk 1 (pc_q := 69) (loc_q := [some (.ref 66), some (fI 1), some (fI 80), some (fI 2)]) (st_q := [fI 2, .ref 70, fI 130, .ref 92]) (h_q := h_559) (cl_q := 0) (sl_q := 0) rfl ?_
      refine fw_ial (z := 2) rfl g_559_70 (by decide +kernel) (Nat.le_of_ble_eq_true rfl) (by decide +kernel) ?_
      refine ik_Wk 0 (pc_q := 70) (loc_q := [some (.ref 66), some (fI 1), some (fI 80), some (fI 2)]) (st_q := [fI fa, fI 130, .ref 92]) (h_q := h_559) (cl_q := 0) (sl_q := 0) rfl ?_
      have hl7 : (((m1.set (128 : Int).toNat ka).set (129 : Int).toNat pa).set (130 : Int).toNat fa).length = 160 := (List.length_set ..).trans hl5
      refine fx_ias rfl g_559_92 (by omega) (by omega) (by omega) ?_
      intro h_560 e_560 f_560 l_560
      have k_560 : cL h_560 := l_560.trans k_559
      have fr_560 := hfr_wb fr_559 f_560 l_560 rfl
      clear l_560
      have g_560_66 := (f_560 66 (Nat.ne_of_beq_eq_false rfl)).trans g_559_66
      have g_560_69 := (f_560 69 (Nat.ne_of_beq_eq_false rfl)).trans g_559_69
      have g_560_70 := (f_560 70 (Nat.ne_of_beq_eq_false rfl)).trans g_559_70
      have g_560_71 := (f_560 71 (Nat.ne_of_beq_eq_false rfl)).trans g_559_71
      have g_560_93 := (f_560 93 (Nat.ne_of_beq_eq_false rfl)).trans g_559_93
      have g_560_92 : cE h_560 92 (.inl (.int, fA (((m1.set (128 : Int).toNat ka).set (129 : Int).toNat pa).set (130 : Int).toNat fa))) := e_560
      refine fw_inc (a := 2) (loc_q := [some (.ref 66), some (fI 1), some (fI 80), some (fI 3)]) rfl rfl (Nat.le_of_ble_eq_true rfl) rfl ?_
      refine ik_Wk 2 (pc_q := 49) (loc_q := [some (.ref 66), some (fI 1), some (fI 80), some (fI 3)]) (st_q := [fI 3]) (h_q := h_560) (cl_q := 0) (sl_q := 0) rfl ?_
      refine fw_bi rfl (by decide +kernel) ?_
      refine fw_ic_ge rfl rfl (by omega) (by omega) (by omega) (by omega) (fun hc8 => absurd hc8 (by omega)) (fun hc8 => ?_)
      refine ik_Wk 1 (pc_q := 55) (loc_q := [some (.ref 66), some (fI 1), some (fI 80), some (fI 3)]) (st_q := [.ref 66]) (h_q := h_560) (cl_q := 0) (sl_q := 0) rfl ?_
      refine fw_gf rfl rfl g_560_66 rfl ?_
      refine ik_Wk 1 (pc_q := 59) (loc_q := [some (.ref 66), some (fI 1), some (fI 80), some (fI 3)]) (st_q := [fI 80, .ref 92]) (h_q := h_560) (cl_q := 0) (sl_q := 0) rfl ?_
      refine fw_bi rfl (by decide +kernel) ?_
      refine fw_add rfl ?_
      refine ik_Wk 1 (pc_q := 63) (loc_q := [some (.ref 66), some (fI 1), some (fI 80), some (fI 3)]) (st_q := [fI 3, fI 128, .ref 92]) (h_q := h_560) (cl_q := 0) (sl_q := 0) rfl ?_
      refine fw_add rfl ?_
      refine ik_Wk 1 (pc_q := 65) (loc_q := [some (.ref 66), some (fI 1), some (fI 80), some (fI 3)]) (st_q := [.ref 66, fI 131, .ref 92]) (h_q := h_560) (cl_q := 0) (sl_q := 0) rfl ?_
      refine fw_gf rfl rfl g_560_66 rfl ?_
      refine ik_Wk 1 (pc_q := 69) (loc_q := [some (.ref 66), some (fI 1), some (fI 80), some (fI 3)]) (st_q := [fI 3, .ref 70, fI 131, .ref 92]) (h_q := h_560) (cl_q := 0) (sl_q := 0) rfl ?_
      refine fw_ial (z := 3) rfl g_560_70 (by decide +kernel) (Nat.le_of_ble_eq_true rfl) (by decide +kernel) ?_
      refine ik_Wk 0 (pc_q := 70) (loc_q := [some (.ref 66), some (fI 1), some (fI 80), some (fI 3)]) (st_q := [fI kb, fI 131, .ref 92]) (h_q := h_560) (cl_q := 0) (sl_q := 0) rfl ?_
      have hl9 : ((((m1.set (128 : Int).toNat ka).set (129 : Int).toNat pa).set (130 : Int).toNat fa).set (131 : Int).toNat kb).length = 160 := (List.length_set ..).trans hl7
      refine fx_ias rfl g_560_92 (by omega) (by omega) (by omega) ?_
      intro h_561 e_561 f_561 l_561
      have k_561 : cL h_561 := l_561.trans k_560
      have fr_561 := hfr_wb fr_560 f_561 l_561 rfl
      clear l_561
      have g_561_66 := (f_561 66 (Nat.ne_of_beq_eq_false rfl)).trans g_560_66
      have g_561_69 := (f_561 69 (Nat.ne_of_beq_eq_false rfl)).trans g_560_69
      have g_561_70 := (f_561 70 (Nat.ne_of_beq_eq_false rfl)).trans g_560_70
      have g_561_71 := (f_561 71 (Nat.ne_of_beq_eq_false rfl)).trans g_560_71
      have g_561_93 := (f_561 93 (Nat.ne_of_beq_eq_false rfl)).trans g_560_93
      have g_561_92 : cE h_561 92 (.inl (.int, fA ((((m1.set (128 : Int).toNat ka).set (129 : Int).toNat pa).set (130 : Int).toNat fa).set (131 : Int).toNat kb))) := e_561
      refine fw_inc (a := 3) (loc_q := [some (.ref 66), some (fI 1), some (fI 80), some (fI 4)]) rfl rfl (Nat.le_of_ble_eq_true rfl) rfl ?_
      refine ik_Wk 2 (pc_q := 49) (loc_q := [some (.ref 66), some (fI 1), some (fI 80), some (fI 4)]) (st_q := [fI 4]) (h_q := h_561) (cl_q := 0) (sl_q := 0) rfl ?_
      refine fw_bi rfl (by decide +kernel) ?_
      refine fw_ic_ge rfl rfl (by omega) (by omega) (by omega) (by omega) (fun hc10 => absurd hc10 (by omega)) (fun hc10 => ?_)
      refine ik_Wk 1 (pc_q := 55) (loc_q := [some (.ref 66), some (fI 1), some (fI 80), some (fI 4)]) (st_q := [.ref 66]) (h_q := h_561) (cl_q := 0) (sl_q := 0) rfl ?_
      refine fw_gf rfl rfl g_561_66 rfl ?_
      refine ik_Wk 1 (pc_q := 59) (loc_q := [some (.ref 66), some (fI 1), some (fI 80), some (fI 4)]) (st_q := [fI 80, .ref 92]) (h_q := h_561) (cl_q := 0) (sl_q := 0) rfl ?_
      refine fw_bi rfl (by decide +kernel) ?_
      refine fw_add rfl ?_
      refine ik_Wk 1 (pc_q := 63) (loc_q := [some (.ref 66), some (fI 1), some (fI 80), some (fI 4)]) (st_q := [fI 4, fI 128, .ref 92]) (h_q := h_561) (cl_q := 0) (sl_q := 0) rfl ?_
      refine fw_add rfl ?_
      refine ik_Wk 1 (pc_q := 65) (loc_q := [some (.ref 66), some (fI 1), some (fI 80), some (fI 4)]) (st_q := [.ref 66, fI 132, .ref 92]) (h_q := h_561) (cl_q := 0) (sl_q := 0) rfl ?_
      refine fw_gf rfl rfl g_561_66 rfl ?_
      refine ik_Wk 1 (pc_q := 69) (loc_q := [some (.ref 66), some (fI 1), some (fI 80), some (fI 4)]) (st_q := [fI 4, .ref 70, fI 132, .ref 92]) (h_q := h_561) (cl_q := 0) (sl_q := 0) rfl ?_
      refine fw_ial (z := 4) rfl g_561_70 (by decide +kernel) (Nat.le_of_ble_eq_true rfl) (by decide +kernel) ?_
      refine ik_Wk 0 (pc_q := 70) (loc_q := [some (.ref 66), some (fI 1), some (fI 80), some (fI 4)]) (st_q := [fI pb, fI 132, .ref 92]) (h_q := h_561) (cl_q := 0) (sl_q := 0) rfl ?_
      have hl11 : (((((m1.set (128 : Int).toNat ka).set (129 : Int).toNat pa).set (130 : Int).toNat fa).set (131 : Int).toNat kb).set (132 : Int).toNat pb).length = 160 := (List.length_set ..).trans hl9
      refine fx_ias rfl g_561_92 (by omega) (by omega) (by omega) ?_
      intro h_562 e_562 f_562 l_562
      have k_562 : cL h_562 := l_562.trans k_561
      have fr_562 := hfr_wb fr_561 f_562 l_562 rfl
      clear l_562
      have g_562_66 := (f_562 66 (Nat.ne_of_beq_eq_false rfl)).trans g_561_66
      have g_562_69 := (f_562 69 (Nat.ne_of_beq_eq_false rfl)).trans g_561_69
      have g_562_70 := (f_562 70 (Nat.ne_of_beq_eq_false rfl)).trans g_561_70
      have g_562_71 := (f_562 71 (Nat.ne_of_beq_eq_false rfl)).trans g_561_71
      have g_562_93 := (f_562 93 (Nat.ne_of_beq_eq_false rfl)).trans g_561_93
      have g_562_92 : cE h_562 92 (.inl (.int, fA (((((m1.set (128 : Int).toNat ka).set (129 : Int).toNat pa).set (130 : Int).toNat fa).set (131 : Int).toNat kb).set (132 : Int).toNat pb))) := e_562
      refine fw_inc (a := 4) (loc_q := [some (.ref 66), some (fI 1), some (fI 80), some (fI 5)]) rfl rfl (Nat.le_of_ble_eq_true rfl) rfl ?_
      refine ik_Wk 2 (pc_q := 49) (loc_q := [some (.ref 66), some (fI 1), some (fI 80), some (fI 5)]) (st_q := [fI 5]) (h_q := h_562) (cl_q := 0) (sl_q := 0) rfl ?_
      refine fw_bi rfl (by decide +kernel) ?_
      refine fw_ic_ge rfl rfl (by omega) (by omega) (by omega) (by omega) (fun hc12 => absurd hc12 (by omega)) (fun hc12 => ?_)
      refine ik_Wk 1 (pc_q := 55) (loc_q := [some (.ref 66), some (fI 1), some (fI 80), some (fI 5)]) (st_q := [.ref 66]) (h_q := h_562) (cl_q := 0) (sl_q := 0) rfl ?_
      refine fw_gf rfl rfl g_562_66 rfl ?_
      refine ik_Wk 1 (pc_q := 59) (loc_q := [some (.ref 66), some (fI 1), some (fI 80), some (fI 5)]) (st_q := [fI 80, .ref 92]) (h_q := h_562) (cl_q := 0) (sl_q := 0) rfl ?_
      refine fw_bi rfl (by decide +kernel) ?_
      refine fw_add rfl ?_
      refine ik_Wk 1 (pc_q := 63) (loc_q := [some (.ref 66), some (fI 1), some (fI 80), some (fI 5)]) (st_q := [fI 5, fI 128, .ref 92]) (h_q := h_562) (cl_q := 0) (sl_q := 0) rfl ?_
      refine fw_add rfl ?_
      refine ik_Wk 1 (pc_q := 65) (loc_q := [some (.ref 66), some (fI 1), some (fI 80), some (fI 5)]) (st_q := [.ref 66, fI 133, .ref 92]) (h_q := h_562) (cl_q := 0) (sl_q := 0) rfl ?_
      refine fw_gf rfl rfl g_562_66 rfl ?_
      refine ik_Wk 1 (pc_q := 69) (loc_q := [some (.ref 66), some (fI 1), some (fI 80), some (fI 5)]) (st_q := [fI 5, .ref 70, fI 133, .ref 92]) (h_q := h_562) (cl_q := 0) (sl_q := 0) rfl ?_
      refine fw_ial (z := 5) rfl g_562_70 (by decide +kernel) (Nat.le_of_ble_eq_true rfl) (by decide +kernel) ?_
      refine ik_Wk 0 (pc_q := 70) (loc_q := [some (.ref 66), some (fI 1), some (fI 80), some (fI 5)]) (st_q := [fI fb, fI 133, .ref 92]) (h_q := h_562) (cl_q := 0) (sl_q := 0) rfl ?_
      have hl13 : ((((((m1.set (128 : Int).toNat ka).set (129 : Int).toNat pa).set (130 : Int).toNat fa).set (131 : Int).toNat kb).set (132 : Int).toNat pb).set (133 : Int).toNat fb).length = 160 := (List.length_set ..).trans hl11
      refine fx_ias rfl g_562_92 (by omega) (by omega) (by omega) ?_
      intro h_563 e_563 f_563 l_563
      have k_563 : cL h_563 := l_563.trans k_562
      have fr_563 := hfr_wb fr_562 f_563 l_563 rfl
      clear l_563
      have g_563_66 := (f_563 66 (Nat.ne_of_beq_eq_false rfl)).trans g_562_66
      have g_563_69 := (f_563 69 (Nat.ne_of_beq_eq_false rfl)).trans g_562_69
      have g_563_70 := (f_563 70 (Nat.ne_of_beq_eq_false rfl)).trans g_562_70
      have g_563_71 := (f_563 71 (Nat.ne_of_beq_eq_false rfl)).trans g_562_71
      have g_563_93 := (f_563 93 (Nat.ne_of_beq_eq_false rfl)).trans g_562_93
      have g_563_92 : cE h_563 92 (.inl (.int, fA ((((((m1.set (128 : Int).toNat ka).set (129 : Int).toNat pa).set (130 : Int).toNat fa).set (131 : Int).toNat kb).set (132 : Int).toNat pb).set (133 : Int).toNat fb))) := e_563
      refine fw_inc (a := 5) (loc_q := [some (.ref 66), some (fI 1), some (fI 80), some (fI 6)]) rfl rfl (Nat.le_of_ble_eq_true rfl) rfl ?_
      refine ik_Wk 2 (pc_q := 49) (loc_q := [some (.ref 66), some (fI 1), some (fI 80), some (fI 6)]) (st_q := [fI 6]) (h_q := h_563) (cl_q := 0) (sl_q := 0) rfl ?_
      refine fw_bi rfl (by decide +kernel) ?_
      refine fw_ic_ge rfl rfl (by omega) (by omega) (by omega) (by omega) (fun hc14 => ?_) (fun hc14 => absurd hc14 (by omega))
      refine ik_Wk 1 (pc_q := 78) (loc_q := [some (.ref 66), some (fI 1), some (fI 80), some (fI 6)]) (st_q := [.ref 66]) (h_q := h_563) (cl_q := 0) (sl_q := 0) rfl ?_
      refine fw_gf rfl rfl g_563_66 rfl ?_
      refine ik_Wk 1 (pc_q := 82) (loc_q := [some (.ref 66), some (fI 1), some (fI 80), some (fI 6)]) (st_q := [fI 80, .ref 92]) (h_q := h_563) (cl_q := 0) (sl_q := 0) rfl ?_
      refine fw_bi rfl (by decide +kernel) ?_
      refine fw_add rfl ?_
      refine ik_Wk 1 (pc_q := 86) (loc_q := [some (.ref 66), some (fI 1), some (fI 80), some (fI 6)]) (st_q := [.ref 66, fI 134, .ref 92]) (h_q := h_563) (cl_q := 0) (sl_q := 0) rfl ?_
      refine fw_gf rfl rfl g_563_66 rfl ?_
      refine ik_Wk 1 (pc_q := 90) (loc_q := [some (.ref 66), some (fI 1), some (fI 80), some (fI 6)]) (st_q := [fI 0, .ref 71, fI 134, .ref 92]) (h_q := h_563) (cl_q := 0) (sl_q := 0) rfl ?_
      refine fw_ial (z := 0) rfl g_563_71 (by decide +kernel) (Nat.le_of_ble_eq_true rfl) (by decide +kernel) ?_
      refine ik_Wk 0 (pc_q := 91) (loc_q := [some (.ref 66), some (fI 1), some (fI 80), some (fI 6)]) (st_q := [fI xa, fI 134, .ref 92]) (h_q := h_563) (cl_q := 0) (sl_q := 0) rfl ?_
      have hl15 : (((((((m1.set (128 : Int).toNat ka).set (129 : Int).toNat pa).set (130 : Int).toNat fa).set (131 : Int).toNat kb).set (132 : Int).toNat pb).set (133 : Int).toNat fb).set (134 : Int).toNat xa).length = 160 := (List.length_set ..).trans hl13
      refine fx_ias rfl g_563_92 (by omega) (by omega) (by omega) ?_
      intro h_564 e_564 f_564 l_564
      have k_564 : cL h_564 := l_564.trans k_563
      have fr_564 := hfr_wb fr_563 f_564 l_564 rfl
      clear l_564
      have g_564_66 := (f_564 66 (Nat.ne_of_beq_eq_false rfl)).trans g_563_66
      have g_564_69 := (f_564 69 (Nat.ne_of_beq_eq_false rfl)).trans g_563_69
      have g_564_70 := (f_564 70 (Nat.ne_of_beq_eq_false rfl)).trans g_563_70
      have g_564_71 := (f_564 71 (Nat.ne_of_beq_eq_false rfl)).trans g_563_71
      have g_564_93 := (f_564 93 (Nat.ne_of_beq_eq_false rfl)).trans g_563_93
      have g_564_92 : cE h_564 92 (.inl (.int, fA (((((((m1.set (128 : Int).toNat ka).set (129 : Int).toNat pa).set (130 : Int).toNat fa).set (131 : Int).toNat kb).set (132 : Int).toNat pb).set (133 : Int).toNat fb).set (134 : Int).toNat xa))) := e_564
      refine ik_Wk 1 (pc_q := 93) (loc_q := [some (.ref 66), some (fI 1), some (fI 80), some (fI 6)]) (st_q := [.ref 66]) (h_q := h_564) (cl_q := 0) (sl_q := 0) rfl ?_
      refine fw_gf rfl rfl g_564_66 rfl ?_
      refine ik_Wk 1 (pc_q := 97) (loc_q := [some (.ref 66), some (fI 1), some (fI 80), some (fI 6)]) (st_q := [fI 80, .ref 92]) (h_q := h_564) (cl_q := 0) (sl_q := 0) rfl ?_
      refine fw_bi rfl (by decide +kernel) ?_
      refine fw_add rfl ?_
      refine ik_Wk 1 (pc_q := 101) (loc_q := [some (.ref 66), some (fI 1), some (fI 80), some (fI 6)]) (st_q := [.ref 66, fI 135, .ref 92]) (h_q := h_564) (cl_q := 0) (sl_q := 0) rfl ?_
      refine fw_gf rfl rfl g_564_66 rfl ?_
      refine ik_Wk 1 (pc_q := 105) (loc_q := [some (.ref 66), some (fI 1), some (fI 80), some (fI 6)]) (st_q := [fI 1, .ref 71, fI 135, .ref 92]) (h_q := h_564) (cl_q := 0) (sl_q := 0) rfl ?_
      refine fw_ial (z := 1) rfl g_564_71 (by decide +kernel) (Nat.le_of_ble_eq_true rfl) (by decide +kernel) ?_
      refine ik_Wk 0 (pc_q := 106) (loc_q := [some (.ref 66), some (fI 1), some (fI 80), some (fI 6)]) (st_q := [fI xb, fI 135, .ref 92]) (h_q := h_564) (cl_q := 0) (sl_q := 0) rfl ?_
      have hl16 : ((((((((m1.set (128 : Int).toNat ka).set (129 : Int).toNat pa).set (130 : Int).toNat fa).set (131 : Int).toNat kb).set (132 : Int).toNat pb).set (133 : Int).toNat fb).set (134 : Int).toNat xa).set (135 : Int).toNat xb).length = 160 := (List.length_set ..).trans hl15
      refine fx_ias rfl g_564_92 (by omega) (by omega) (by omega) ?_
      intro h_565 e_565 f_565 l_565
      have k_565 : cL h_565 := l_565.trans k_564
      have fr_565 := hfr_wb fr_564 f_565 l_565 rfl
      clear l_565
      have g_565_66 := (f_565 66 (Nat.ne_of_beq_eq_false rfl)).trans g_564_66
      have g_565_69 := (f_565 69 (Nat.ne_of_beq_eq_false rfl)).trans g_564_69
      have g_565_70 := (f_565 70 (Nat.ne_of_beq_eq_false rfl)).trans g_564_70
      have g_565_71 := (f_565 71 (Nat.ne_of_beq_eq_false rfl)).trans g_564_71
      have g_565_93 := (f_565 93 (Nat.ne_of_beq_eq_false rfl)).trans g_564_93
      have g_565_92 : cE h_565 92 (.inl (.int, fA ((((((((m1.set (128 : Int).toNat ka).set (129 : Int).toNat pa).set (130 : Int).toNat fa).set (131 : Int).toNat kb).set (132 : Int).toNat pb).set (133 : Int).toNat fb).set (134 : Int).toNat xa).set (135 : Int).toNat xb))) := e_565
      refine ik_Wk 1 (pc_q := 108) (loc_q := [some (.ref 66), some (fI 1), some (fI 80), some (fI 6)]) (st_q := [.ref 66]) (h_q := h_565) (cl_q := 0) (sl_q := 0) rfl ?_
      refine fw_gf rfl rfl g_565_66 rfl ?_
      refine ik_Wk 1 (pc_q := 112) (loc_q := [some (.ref 66), some (fI 1), some (fI 80), some (fI 6)]) (st_q := [fI 80, .ref 92]) (h_q := h_565) (cl_q := 0) (sl_q := 0) rfl ?_
      refine fw_bi rfl (by decide +kernel) ?_
      refine fw_add rfl ?_
      refine ik_Wk 1 (pc_q := 116) (loc_q := [some (.ref 66), some (fI 1), some (fI 80), some (fI 6)]) (st_q := [.ref 66, fI 136, .ref 92]) (h_q := h_565) (cl_q := 0) (sl_q := 0) rfl ?_
      refine fw_gf rfl rfl g_565_66 rfl ?_
      have hl17 : (((((((((m1.set (128 : Int).toNat ka).set (129 : Int).toNat pa).set (130 : Int).toNat fa).set (131 : Int).toNat kb).set (132 : Int).toNat pb).set (133 : Int).toNat fb).set (134 : Int).toNat xa).set (135 : Int).toNat xb).set (136 : Int).toNat mi).length = 160 := (List.length_set ..).trans hl16
      refine fx_ias rfl g_565_92 (by omega) (by omega) (by omega) ?_
      intro h_566 e_566 f_566 l_566
      have k_566 : cL h_566 := l_566.trans k_565
      have fr_566 := hfr_wb fr_565 f_566 l_566 rfl
      clear l_566
      have g_566_66 := (f_566 66 (Nat.ne_of_beq_eq_false rfl)).trans g_565_66
      have g_566_69 := (f_566 69 (Nat.ne_of_beq_eq_false rfl)).trans g_565_69
      have g_566_70 := (f_566 70 (Nat.ne_of_beq_eq_false rfl)).trans g_565_70
      have g_566_71 := (f_566 71 (Nat.ne_of_beq_eq_false rfl)).trans g_565_71
      have g_566_93 := (f_566 93 (Nat.ne_of_beq_eq_false rfl)).trans g_565_93
      have g_566_92 : cE h_566 92 (.inl (.int, fA (((((((((m1.set (128 : Int).toNat ka).set (129 : Int).toNat pa).set (130 : Int).toNat fa).set (131 : Int).toNat kb).set (132 : Int).toNat pb).set (133 : Int).toNat fb).set (134 : Int).toNat xa).set (135 : Int).toNat xb).set (136 : Int).toNat mi))) := e_566
      refine ik_Wk 1 (pc_q := 121) (loc_q := [some (.ref 66), some (fI 1), some (fI 80), some (fI 6)]) (st_q := [.ref 66]) (h_q := h_566) (cl_q := 0) (sl_q := 0) rfl ?_
      refine fw_gf rfl rfl g_566_66 rfl ?_
      refine ik_Wk 1 (pc_q := 125) (loc_q := [some (.ref 66), some (fI 1), some (fI 80), some (fI 6)]) (st_q := [fI 80, .ref 92]) (h_q := h_566) (cl_q := 0) (sl_q := 0) rfl ?_
      refine fw_bi rfl (by decide +kernel) ?_
      refine fw_add rfl ?_
      refine ik_Wk 1 (pc_q := 129) (loc_q := [some (.ref 66), some (fI 1), some (fI 80), some (fI 6)]) (st_q := [.ref 66, fI 137, .ref 92]) (h_q := h_566) (cl_q := 0) (sl_q := 0) rfl ?_
      refine fw_gf rfl rfl g_566_66 rfl ?_
      have hl18 : ((((((((((m1.set (128 : Int).toNat ka).set (129 : Int).toNat pa).set (130 : Int).toNat fa).set (131 : Int).toNat kb).set (132 : Int).toNat pb).set (133 : Int).toNat fb).set (134 : Int).toNat xa).set (135 : Int).toNat xb).set (136 : Int).toNat mi).set (137 : Int).toNat ((s : Nat) : Int)).length = 160 := (List.length_set ..).trans hl17
      refine fx_ias rfl g_566_92 (by omega) (by omega) (by omega) ?_
      intro h_567 e_567 f_567 l_567
      have k_567 : cL h_567 := l_567.trans k_566
      have fr_567 := hfr_wb fr_566 f_567 l_567 rfl
      clear l_567
      have g_567_66 := (f_567 66 (Nat.ne_of_beq_eq_false rfl)).trans g_566_66
      have g_567_69 := (f_567 69 (Nat.ne_of_beq_eq_false rfl)).trans g_566_69
      have g_567_70 := (f_567 70 (Nat.ne_of_beq_eq_false rfl)).trans g_566_70
      have g_567_71 := (f_567 71 (Nat.ne_of_beq_eq_false rfl)).trans g_566_71
      have g_567_93 := (f_567 93 (Nat.ne_of_beq_eq_false rfl)).trans g_566_93
      have g_567_92 : cE h_567 92 (.inl (.int, fA ((((((((((m1.set (128 : Int).toNat ka).set (129 : Int).toNat pa).set (130 : Int).toNat fa).set (131 : Int).toNat kb).set (132 : Int).toNat pb).set (133 : Int).toNat fb).set (134 : Int).toNat xa).set (135 : Int).toNat xb).set (136 : Int).toNat mi).set (137 : Int).toNat ((s : Nat) : Int)))) := e_567
      refine ik_Wk 1 (pc_q := 134) (loc_q := [some (.ref 66), some (fI 1), some (fI 80), some (fI 6)]) (st_q := [.ref 66]) (h_q := h_567) (cl_q := 0) (sl_q := 0) rfl ?_
      refine fw_gf rfl rfl g_567_66 rfl ?_
      refine ik_Wk 1 (pc_q := 138) (loc_q := [some (.ref 66), some (fI 1), some (fI 80), some (fI 6)]) (st_q := [fI 80, .ref 92]) (h_q := h_567) (cl_q := 0) (sl_q := 0) rfl ?_
      refine fw_bi rfl (by decide +kernel) ?_
      refine fw_add rfl ?_
      refine ik_Wk 1 (pc_q := 142) (loc_q := [some (.ref 66), some (fI 1), some (fI 80), some (fI 6)]) (st_q := [.ref 66, fI 138, .ref 92]) (h_q := h_567) (cl_q := 0) (sl_q := 0) rfl ?_
      refine fw_gf rfl rfl g_567_66 rfl ?_
      have hl19 : (((((((((((m1.set (128 : Int).toNat ka).set (129 : Int).toNat pa).set (130 : Int).toNat fa).set (131 : Int).toNat kb).set (132 : Int).toNat pb).set (133 : Int).toNat fb).set (134 : Int).toNat xa).set (135 : Int).toNat xb).set (136 : Int).toNat mi).set (137 : Int).toNat ((s : Nat) : Int)).set (138 : Int).toNat sd).length = 160 := (List.length_set ..).trans hl18
      refine fx_ias rfl g_567_92 (by omega) (by omega) (by omega) ?_
      intro h_568 e_568 f_568 l_568
      have k_568 : cL h_568 := l_568.trans k_567
      have fr_568 := hfr_wb fr_567 f_568 l_568 rfl
      clear l_568
      have g_568_66 := (f_568 66 (Nat.ne_of_beq_eq_false rfl)).trans g_567_66
      have g_568_69 := (f_568 69 (Nat.ne_of_beq_eq_false rfl)).trans g_567_69
      have g_568_70 := (f_568 70 (Nat.ne_of_beq_eq_false rfl)).trans g_567_70
      have g_568_71 := (f_568 71 (Nat.ne_of_beq_eq_false rfl)).trans g_567_71
      have g_568_93 := (f_568 93 (Nat.ne_of_beq_eq_false rfl)).trans g_567_93
      have g_568_92 : cE h_568 92 (.inl (.int, fA (((((((((((m1.set (128 : Int).toNat ka).set (129 : Int).toNat pa).set (130 : Int).toNat fa).set (131 : Int).toNat kb).set (132 : Int).toNat pb).set (133 : Int).toNat fb).set (134 : Int).toNat xa).set (135 : Int).toNat xb).set (136 : Int).toNat mi).set (137 : Int).toNat ((s : Nat) : Int)).set (138 : Int).toNat sd))) := e_568
      refine ik_Wk 1 (pc_q := 147) (loc_q := [some (.ref 66), some (fI 1), some (fI 80), some (fI 6)]) (st_q := [.ref 66]) (h_q := h_568) (cl_q := 0) (sl_q := 0) rfl ?_
      refine fw_gf rfl rfl g_568_66 rfl ?_
      refine ik_Wk 2 (pc_q := 152) (loc_q := [some (.ref 66), some (fI 1), some (fI 80), some (fI 6)]) (st_q := [fI 1, fI 1, .ref 93]) (h_q := h_568) (cl_q := 0) (sl_q := 0) rfl ?_
      refine fx_bsb (z := 1) (v := 1) rfl g_568_93 (by decide +kernel) (Nat.le_of_ble_eq_true rfl) (by decide +kernel) (by decide +kernel) ?_
      intro h_569 e_569 f_569 l_569
      have k_569 : cL h_569 := l_569.trans k_568
      have fr_569 := hfr_wb fr_568 f_569 l_569 rfl
      clear l_569
      have g_569_66 := (f_569 66 (Nat.ne_of_beq_eq_false rfl)).trans g_568_66
      have g_569_69 := (f_569 69 (Nat.ne_of_beq_eq_false rfl)).trans g_568_69
      have g_569_70 := (f_569 70 (Nat.ne_of_beq_eq_false rfl)).trans g_568_70
      have g_569_71 := (f_569 71 (Nat.ne_of_beq_eq_false rfl)).trans g_568_71
      have g_569_92 := (f_569 92 (Nat.ne_of_beq_eq_false rfl)).trans g_568_92
      have g_569_93 : cE h_569 93 (.inl (.boolean, fA [t0, 1])) := e_569
      refine ik_Wk 1 (pc_q := 154) (loc_q := [some (.ref 66), some (fI 1), some (fI 80), some (fI 6)]) (st_q := [fI 1]) (h_q := h_569) (cl_q := 0) (sl_q := 0) rfl ?_
      have ew : ((((((((((m1.set (128 : Int).toNat ka).set (129 : Int).toNat pa).set (130 : Int).toNat fa).set (131 : Int).toNat kb).set (132 : Int).toNat pb).set (133 : Int).toNat fb).set (134 : Int).toNat xa).set (135 : Int).toNat xb).set (136 : Int).toNat mi).set (137 : Int).toNat ((s : Nat) : Int)).set (138 : Int).toNat sd = mi_w m1 128 [ka, pa, fa, kb, pb, fb, xa, xb, mi, ((s : Nat) : Int), sd] := rfl
      have gw := mi_w_get [ka, pa, fa, kb, pb, fb, xa, xb, mi, ((s : Nat) : Int), sd] m1 128
      exact ik_Wret rfl rfl ⟨_, _, rfl, rfl, rfl, rfl, ⟨(((((((((((m1.set (128 : Int).toNat ka).set (129 : Int).toNat pa).set (130 : Int).toNat fa).set (131 : Int).toNat kb).set (132 : Int).toNat pb).set (133 : Int).toNat fb).set (134 : Int).toNat xa).set (135 : Int).toNat xb).set (136 : Int).toNat mi).set (137 : Int).toNat ((s : Nat) : Int)).set (138 : Int).toNat sd), rfl, g_569_92, hl19, g_569_93, (by rw [ew]; exact ⟨fun j hj => by rw [gw _ (by simp only [List.length_cons, List.length_nil]; omega), if_neg (by omega)]; exact hc j (by omega), fun j hj => by rw [gw _ (by simp only [List.length_cons, List.length_nil]; omega), if_pos (by simp only [List.length_cons, List.length_nil]; omega), show 80 + 48 + j - 128 = j by omega]⟩), (by rw [ew]; intro j hj; rw [gw _ (by simp only [List.length_cons, List.length_nil]; omega), if_neg (by simp only [List.length_cons, List.length_nil]; omega)]; exact ho j hj), fr_569⟩⟩
    · refine ik_Wk 1 (pc_q := 27) (loc_q := [some (.ref 66), some (fI 1), some (fI 80), some (fI i)]) (st_q := [.ref 66]) (h_q := u) (cl_q := 0) (sl_q := 0) rfl ?_
      refine fw_gf rfl rfl u66 rfl ?_
      refine ik_Wk 2 (pc_q := 32) (loc_q := [some (.ref 66), some (fI 1), some (fI 80), some (fI i)]) (st_q := [fI i, fI 80, .ref 92]) (h_q := u) (cl_q := 0) (sl_q := 0) rfl ?_
      refine fw_add rfl ?_
      refine ik_Wk 1 (pc_q := 34) (loc_q := [some (.ref 66), some (fI 1), some (fI 80), some (fI i)]) (st_q := [.ref 66, fI (80 + i), .ref 92]) (h_q := u) (cl_q := 0) (sl_q := 0) rfl ?_
      refine fw_gf rfl rfl u66 rfl ?_
      refine ik_Wk 1 (pc_q := 38) (loc_q := [some (.ref 66), some (fI 1), some (fI 80), some (fI i)]) (st_q := [fI i, .ref 69, fI (80 + i), .ref 92]) (h_q := u) (cl_q := 0) (sl_q := 0) rfl ?_
      refine fw_ial rfl u69 (by omega) (by omega) (by omega) ?_
      have hl20 : (m1.set (80 + i).toNat (ch.getD i.toNat 0)).length = 160 := (List.length_set ..).trans n92
      refine fx_ias rfl u92 (by omega) (by omega) (by omega) ?_
      intro h_570 e_570 f_570 l_570
      have k_570 : cL h_570 := l_570.trans ul
      have fr_570 := hfr_wb F f_570 l_570 rfl
      clear l_570
      have g_570_66 := (f_570 66 (Nat.ne_of_beq_eq_false rfl)).trans u66
      have g_570_69 := (f_570 69 (Nat.ne_of_beq_eq_false rfl)).trans u69
      have g_570_70 := (f_570 70 (Nat.ne_of_beq_eq_false rfl)).trans u70
      have g_570_71 := (f_570 71 (Nat.ne_of_beq_eq_false rfl)).trans u71
      have g_570_93 := (f_570 93 (Nat.ne_of_beq_eq_false rfl)).trans u93
      have g_570_92 : cE h_570 92 (.inl (.int, fA (m1.set (80 + i).toNat (ch.getD i.toNat 0)))) := e_570
      refine fw_inc (a := i) (loc_q := [some (.ref 66), some (fI 1), some (fI 80), some (fI (i + 1))]) rfl rfl (Nat.le_of_ble_eq_true rfl) rfl ?_
      refine ik_Wk 1 (pc_q := 20) (loc_q := [some (.ref 66), some (fI 1), some (fI 80), some (fI (i + 1))]) (st_q := []) (h_q := h_570) (cl_q := 0) (sl_q := 0) rfl ?_
      have hc2 : ∀ j : Nat, (j : Int) < i + 1 → (m1.set (80 + i).toNat (ch.getD i.toNat 0)).getD (80 + j) 0 = ch.getD j 0 := by
        intro j hj
        rw [fz_getD_set]
        by_cases z : j = i.toNat
        · rw [if_pos ⟨by omega, by omega⟩, z]
        · rw [if_neg (fun y => z (by omega))]; exact hc j (by omega)
      exact ih  (i + 1) (m1.set (80 + i).toNat (ch.getD i.toNat 0)) h_570 g_570_66 g_570_69 n69 g_570_70 g_570_71 g_570_92 hl20 g_570_93 k_570 fr_570 (by omega) hc2 (mx_out_s ho (by omega) (by omega)) (by omega)

theorem rp_keep1 {h : List ik_E} {f : Nat → Int} {s : Nat} {t0 : Int} {t1 : Int} {ka : Int} {pa : Int} {fa : Int} {kb : Int} {pb : Int} {fb : Int} {xa : Int} {xb : Int} {mi : Int} {sd : Int} {ch : List Int} {im : List Int}  (h66 : cE h 66 (.inr (10, (fI (f 0) :: .ref 67 :: .ref 68 :: .ref 69 :: fI ((s : Nat) : Int) :: .ref 70 :: .ref 71 :: fI mi :: fI sd :: .ref 72 :: fI (f 10) :: fI (f 11) :: fI (f 12) :: fJ (f 13) :: fI (f 14) :: fI (f 15) :: fI (f 16) :: fI (f 17) :: .ref 73 :: .ref 74 :: .ref 75 :: .ref 76 :: .ref 77 :: .ref 78 :: fI (f 24) :: .ref 79 :: .ref 80 :: .ref 81 :: .ref 82 :: .ref 83 :: .ref 84 :: .ref 85 :: fJ (f 32) :: fJ (f 33) :: .ref 86 :: .ref 87 :: fI (f 36) :: .ref 88 :: .ref 89 :: .ref 90 :: .ref 91 :: .ref 92 :: .ref 93 :: [])))) (h69 : cE h 69 (.inl (.int, fA ch))) (n69 : ch.length = (48 : Nat)) (h70 : cE h 70 (.inl (.int, fA [ka, pa, fa, kb, pb, fb]))) (h71 : cE h 71 (.inl (.int, fA [xa, xb]))) (h92 : cE h 92 (.inl (.int, fA im))) (n92 : im.length = (160 : Nat)) (h93 : cE h 93 (.inl (.boolean, fA [t0, t1]))) (hl : h.length = (94 : Nat)) : ik_F 209 [.ref 66, fI 1] h (fun rv h_q => ∃ (im' : List Int), rv = [fI 1] ∧ cE h_q 92 (.inl (.int, fA im')) ∧ im'.length = (160 : Nat) ∧ cE h_q 93 (.inl (.boolean, fA [t0, 1])) ∧ (mi_ok im' 80 ch ka pa fa kb pb fb xa xb mi s sd) ∧ (mx_out 80 160 im im') ∧ hfr [92, 93] h h_q) := by
  refine ik_Wk 1 (pc_q := 1) (loc_q := [some (.ref 66), some (fI 1), none, none]) (st_q := [fI 1]) (h_q := h) (cl_q := 0) (sl_q := 0) rfl ?_
  refine fw_i2l rfl (by omega) (by omega) ?_
  refine fw_lc (z := 0) rfl (by decide +kernel) ?_
  refine fw_lc (z := 1) rfl (by decide +kernel) ?_
  refine fw_call 127 3 3 [fJ 1, fJ 0, fJ 1] [] rfl rfl rfl (Nat.le_of_ble_eq_true rfl) rfl rfl (fw_sta hl rfl (by decide +kernel)) (cr_in (v := 1) (a := 0) (b := 1) (by omega) (by omega) (by omega)  hl) ?_
  rintro _ h_571 (⟨rfl, p_571_0, F_571⟩ | ⟨rfl, p_571_0, F_571⟩)
  · have k_571 : cL h_571 := F_571.1.trans hl
    have fr_571 := hfr_cb (hfr_refl [92, 93] h) F_571 rfl
    have g_571_66 := (hfr_g F_571 66 rfl).trans h66
    have g_571_69 := (hfr_g F_571 69 rfl).trans h69
    have g_571_70 := (hfr_g F_571 70 rfl).trans h70
    have g_571_71 := (hfr_g F_571 71 rfl).trans h71
    have g_571_92 := (hfr_g F_571 92 rfl).trans h92
    have g_571_93 := (hfr_g F_571 93 rfl).trans h93
    refine ik_Wk 0 (pc_q := 7) (loc_q := [some (.ref 66), some (fI 1), none, none]) (st_q := [fI 1]) (h_q := h_571) (cl_q := 0) (sl_q := 0) rfl ?_
    refine fw_if_ne rfl rfl (by decide +kernel) (by decide +kernel) (fun hc1 => absurd hc1 (by decide +kernel)) (fun hc1 => ?_)
    refine fw_bi rfl (by decide +kernel) ?_
    refine ik_Wk 1 (pc_q := 16) (loc_q := [some (.ref 66), some (fI 1), none, none]) (st_q := [fI 1, fI 80]) (h_q := h_571) (cl_q := 0) (sl_q := 0) rfl ?_
    refine fw_mul rfl ?_
    refine ik_Wk 3 (pc_q := 20) (loc_q := [some (.ref 66), some (fI 1), some (fI 80), some (fI 0)]) (st_q := []) (h_q := h_571) (cl_q := 0) (sl_q := 0) rfl ?_
    exact rp_keep1L (f := f) (s := s) (t0 := t0) (t1 := t1) (ka := ka) (pa := pa) (fa := fa) (kb := kb) (pb := pb) (fb := fb) (xa := xa) (xb := xb) (mi := mi) (sd := sd) (ch := ch) (im := im)   49 0 im h_571 g_571_66 g_571_69 n69 g_571_70 g_571_71 g_571_92 n92 g_571_93 k_571 fr_571 (by omega) (fun j hj => absurd hj (by omega)) (mx_out_r _ _ _) (by omega)
  · have k_571 : cL h_571 := F_571.1.trans hl
    have fr_571 := hfr_cb (hfr_refl [92, 93] h) F_571 rfl
    have g_571_66 := (hfr_g F_571 66 rfl).trans h66
    have g_571_69 := (hfr_g F_571 69 rfl).trans h69
    have g_571_70 := (hfr_g F_571 70 rfl).trans h70
    have g_571_71 := (hfr_g F_571 71 rfl).trans h71
    have g_571_92 := (hfr_g F_571 92 rfl).trans h92
    have g_571_93 := (hfr_g F_571 93 rfl).trans h93
    omega

theorem rp_goBack1L {h : List ik_E} {f : Nat → Int} {s : Nat} {s2 : Nat} {t0 : Int} {t1 : Int} {e0 : Int} {e1 : Int} {e2 : Int} {e3 : Int} {e4 : Int} {e5 : Int} {y0 : Int} {y1 : Int} {m2 : Int} {d2 : Int} {ka : Int} {pa : Int} {fa : Int} {kb : Int} {pb : Int} {fb : Int} {xa : Int} {xb : Int} {mi : Int} {sd : Int} {ch : List Int} {im : List Int} {ci : List Int} (q0 : mi_ok im 80 ci e0 e1 e2 e3 e4 e5 y0 y1 m2 s2 d2) (q1 : ci.length = (48 : Nat))  : ∀ (k : Nat) (i : Int) (c1 : List Int) (u : List ik_E) (u66 : cE u 66 (.inr (10, (fI (f 0) :: .ref 67 :: .ref 68 :: .ref 69 :: fI ((s : Nat) : Int) :: .ref 70 :: .ref 71 :: fI mi :: fI sd :: .ref 72 :: fI (f 10) :: fI (f 11) :: fI (f 12) :: fJ (f 13) :: fI (f 14) :: fI (f 15) :: fI (f 16) :: fI (f 17) :: .ref 73 :: .ref 74 :: .ref 75 :: .ref 76 :: .ref 77 :: .ref 78 :: fI (f 24) :: .ref 79 :: .ref 80 :: .ref 81 :: .ref 82 :: .ref 83 :: .ref 84 :: .ref 85 :: fJ (f 32) :: fJ (f 33) :: .ref 86 :: .ref 87 :: fI (f 36) :: .ref 88 :: .ref 89 :: .ref 90 :: .ref 91 :: .ref 92 :: .ref 93 :: [])))) (u69 : cE u 69 (.inl (.int, fA c1))) (n69 : c1.length = (48 : Nat)) (u70 : cE u 70 (.inl (.int, fA [ka, pa, fa, kb, pb, fb]))) (u71 : cE u 71 (.inl (.int, fA [xa, xb]))) (u92 : cE u 92 (.inl (.int, fA im))) (n92 : im.length = (160 : Nat)) (u93 : cE u 93 (.inl (.boolean, fA [t0, 1]))) (ul : u.length = (94 : Nat)) (F : hfr [66, 69, 70, 71] h u) (hi : (0 : Int) ≤ i ∧ i ≤ (48 : Int)) (hc : ∀ j : Nat, (j : Int) < i → c1.getD j 0 = ci.getD j 0) (hk : 48 - i < (k : Int)), ik_G 210 32 [some (.ref 66), some (fI 1), some (fI 80), some (fI i)] [] u (fun rv h_q => rv = [fI 1] ∧ cE h_q 66 (.inr (10, (fI (f 0) :: .ref 67 :: .ref 68 :: .ref 69 :: fI ((s2 : Nat) : Int) :: .ref 70 :: .ref 71 :: fI m2 :: fI d2 :: .ref 72 :: fI (f 10) :: fI (f 11) :: fI (f 12) :: fJ (f 13) :: fI (f 14) :: fI (f 15) :: fI (f 16) :: fI (f 17) :: .ref 73 :: .ref 74 :: .ref 75 :: .ref 76 :: .ref 77 :: .ref 78 :: fI (f 24) :: .ref 79 :: .ref 80 :: .ref 81 :: .ref 82 :: .ref 83 :: .ref 84 :: .ref 85 :: fJ (f 32) :: fJ (f 33) :: .ref 86 :: .ref 87 :: fI (f 36) :: .ref 88 :: .ref 89 :: .ref 90 :: .ref 91 :: .ref 92 :: .ref 93 :: []))) ∧ cE h_q 69 (.inl (.int, fA ci)) ∧ ci.length = (48 : Nat) ∧ cE h_q 70 (.inl (.int, fA [e0, e1, e2, e3, e4, e5])) ∧ cE h_q 71 (.inl (.int, fA [y0, y1])) ∧ hfr [66, 69, 70, 71] h h_q) := by
  intro k
  induction k with
  | zero => intro i c1 u u66 u69 n69 u70 u71 u92 n92 u93 ul F hi hc hk; omega
  | succ k ih =>
    intro i c1 u u66 u69 n69 u70 u71 u92 n92 u93 ul F hi hc hk
    refine ik_Wk 1 (pc_q := 33) (loc_q := [some (.ref 66), some (fI 1), some (fI 80), some (fI i)]) (st_q := [fI i]) (h_q := u) (cl_q := 0) (sl_q := 0) rfl ?_
    refine fw_bi rfl (by decide +kernel) ?_
    refine fw_ic_ge rfl rfl (by omega) (by omega) (by omega) (by omega) (fun hc1 => ?_) (fun hc1 => ?_)
    · refine ik_Wk 3 (pc_q := 61) (loc_q := [some (.ref 66), some (fI 1), some (fI 80), some (fI 0)]) (st_q := [fI 0]) (h_q := u) (cl_q := 0) (sl_q := 0) rfl ?_
      refine fw_bi rfl (by decide +kernel) ?_
      refine fw_ic_ge rfl rfl (by omega) (by omega) (by omega) (by omega) (fun hc2 => absurd hc2 (by omega)) (fun hc2 => ?_)
      refine ik_Wk 1 (pc_q := 67) (loc_q := [some (.ref 66), some (fI 1), some (fI 80), some (fI 0)]) (st_q := [.ref 66]) (h_q := u) (cl_q := 0) (sl_q := 0) rfl ?_
      refine fw_gf rfl rfl u66 rfl ?_
      refine ik_Wk 2 (pc_q := 72) (loc_q := [some (.ref 66), some (fI 1), some (fI 80), some (fI 0)]) (st_q := [.ref 66, fI 0, .ref 70]) (h_q := u) (cl_q := 0) (sl_q := 0) rfl ?_
      refine fw_gf rfl rfl u66 rfl ?_
      refine ik_Wk 1 (pc_q := 76) (loc_q := [some (.ref 66), some (fI 1), some (fI 80), some (fI 0)]) (st_q := [fI 80, .ref 92, fI 0, .ref 70]) (h_q := u) (cl_q := 0) (sl_q := 0) rfl ?_
      refine fw_bi rfl (by decide +kernel) ?_
      refine fw_add rfl ?_
      refine ik_Wk 1 (pc_q := 80) (loc_q := [some (.ref 66), some (fI 1), some (fI 80), some (fI 0)]) (st_q := [fI 0, fI 128, .ref 92, fI 0, .ref 70]) (h_q := u) (cl_q := 0) (sl_q := 0) rfl ?_
      refine fw_add rfl ?_
      refine fw_ial rfl u92 (by omega) (by omega) (by omega) ?_
      refine ik_Wk 0 (pc_q := 82) (loc_q := [some (.ref 66), some (fI 1), some (fI 80), some (fI 0)]) (st_q := [fI (im.getD (128 : Int).toNat 0), fI 0, .ref 70]) (h_q := u) (cl_q := 0) (sl_q := 0) rfl ?_
      rw [show im.getD (128 : Int).toNat 0 = e0 from q0.2 0 (by decide +kernel)]
      refine fx_ias (z := 0) rfl u70 (by decide +kernel) (Nat.le_of_ble_eq_true rfl) (by decide +kernel) ?_
      intro h_572 e_572 f_572 l_572
      have k_572 : cL h_572 := l_572.trans ul
      have fr_572 := hfr_wb F f_572 l_572 rfl
      clear l_572
      have g_572_66 := (f_572 66 (Nat.ne_of_beq_eq_false rfl)).trans u66
      have g_572_69 := (f_572 69 (Nat.ne_of_beq_eq_false rfl)).trans u69
      have g_572_71 := (f_572 71 (Nat.ne_of_beq_eq_false rfl)).trans u71
      have g_572_92 := (f_572 92 (Nat.ne_of_beq_eq_false rfl)).trans u92
      have g_572_93 := (f_572 93 (Nat.ne_of_beq_eq_false rfl)).trans u93
      have g_572_70 : cE h_572 70 (.inl (.int, fA [e0, pa, fa, kb, pb, fb])) := e_572
      refine fw_inc (a := 0) (loc_q := [some (.ref 66), some (fI 1), some (fI 80), some (fI 1)]) rfl rfl (Nat.le_of_ble_eq_true rfl) rfl ?_
      refine ik_Wk 2 (pc_q := 61) (loc_q := [some (.ref 66), some (fI 1), some (fI 80), some (fI 1)]) (st_q := [fI 1]) (h_q := h_572) (cl_q := 0) (sl_q := 0) rfl ?_
      refine fw_bi rfl (by decide +kernel) ?_
      refine fw_ic_ge rfl rfl (by omega) (by omega) (by omega) (by omega) (fun hc3 => absurd hc3 (by omega)) (fun hc3 => ?_)
      refine ik_Wk 1 (pc_q := 67) (loc_q := [some (.ref 66), some (fI 1), some (fI 80), some (fI 1)]) (st_q := [.ref 66]) (h_q := h_572) (cl_q := 0) (sl_q := 0) rfl ?_
      refine fw_gf rfl rfl g_572_66 rfl ?_
      refine ik_Wk 2 (pc_q := 72) (loc_q := [some (.ref 66), some (fI 1), some (fI 80), some (fI 1)]) (st_q := [.ref 66, fI 1, .ref 70]) (h_q := h_572) (cl_q := 0) (sl_q := 0) rfl ?_
      refine fw_gf rfl rfl g_572_66 rfl ?_
      refine ik_Wk 1 (pc_q := 76) (loc_q := [some (.ref 66), some (fI 1), some (fI 80), some (fI 1)]) (st_q := [fI 80, .ref 92, fI 1, .ref 70]) (h_q := h_572) (cl_q := 0) (sl_q := 0) rfl ?_
      refine fw_bi rfl (by decide +kernel) ?_
      refine fw_add rfl ?_
      refine ik_Wk 1 (pc_q := 80) (loc_q := [some (.ref 66), some (fI 1), some (fI 80), some (fI 1)]) (st_q := [fI 1, fI 128, .ref 92, fI 1, .ref 70]) (h_q := h_572) (cl_q := 0) (sl_q := 0) rfl ?_
      refine fw_add rfl ?_
      refine fw_ial rfl g_572_92 (by omega) (by omega) (by omega) ?_
      refine ik_Wk 0 (pc_q := 82) (loc_q := [some (.ref 66), some (fI 1), some (fI 80), some (fI 1)]) (st_q := [fI (im.getD (129 : Int).toNat 0), fI 1, .ref 70]) (h_q := h_572) (cl_q := 0) (sl_q := 0) rfl ?_
      rw [show im.getD (129 : Int).toNat 0 = e1 from q0.2 1 (by decide +kernel)]
      refine fx_ias (z := 1) rfl g_572_70 (by decide +kernel) (Nat.le_of_ble_eq_true rfl) (by decide +kernel) ?_
      intro h_573 e_573 f_573 l_573
      have k_573 : cL h_573 := l_573.trans k_572
      have fr_573 := hfr_wb fr_572 f_573 l_573 rfl
      clear l_573
      have g_573_66 := (f_573 66 (Nat.ne_of_beq_eq_false rfl)).trans g_572_66
      have g_573_69 := (f_573 69 (Nat.ne_of_beq_eq_false rfl)).trans g_572_69
      have g_573_71 := (f_573 71 (Nat.ne_of_beq_eq_false rfl)).trans g_572_71
      have g_573_92 := (f_573 92 (Nat.ne_of_beq_eq_false rfl)).trans g_572_92
      have g_573_93 := (f_573 93 (Nat.ne_of_beq_eq_false rfl)).trans g_572_93
      have g_573_70 : cE h_573 70 (.inl (.int, fA [e0, e1, fa, kb, pb, fb])) := e_573
      refine fw_inc (a := 1) (loc_q := [some (.ref 66), some (fI 1), some (fI 80), some (fI 2)]) rfl rfl (Nat.le_of_ble_eq_true rfl) rfl ?_
      refine ik_Wk 2 (pc_q := 61) (loc_q := [some (.ref 66), some (fI 1), some (fI 80), some (fI 2)]) (st_q := [fI 2]) (h_q := h_573) (cl_q := 0) (sl_q := 0) rfl ?_
      refine fw_bi rfl (by decide +kernel) ?_
      refine fw_ic_ge rfl rfl (by omega) (by omega) (by omega) (by omega) (fun hc4 => absurd hc4 (by omega)) (fun hc4 => ?_)
      refine ik_Wk 1 (pc_q := 67) (loc_q := [some (.ref 66), some (fI 1), some (fI 80), some (fI 2)]) (st_q := [.ref 66]) (h_q := h_573) (cl_q := 0) (sl_q := 0) rfl ?_
      refine fw_gf rfl rfl g_573_66 rfl ?_
      refine ik_Wk 2 (pc_q := 72) (loc_q := [some (.ref 66), some (fI 1), some (fI 80), some (fI 2)]) (st_q := [.ref 66, fI 2, .ref 70]) (h_q := h_573) (cl_q := 0) (sl_q := 0) rfl ?_
      refine fw_gf rfl rfl g_573_66 rfl ?_
      refine ik_Wk 1 (pc_q := 76) (loc_q := [some (.ref 66), some (fI 1), some (fI 80), some (fI 2)]) (st_q := [fI 80, .ref 92, fI 2, .ref 70]) (h_q := h_573) (cl_q := 0) (sl_q := 0) rfl ?_
      refine fw_bi rfl (by decide +kernel) ?_
      refine fw_add rfl ?_
      refine ik_Wk 1 (pc_q := 80) (loc_q := [some (.ref 66), some (fI 1), some (fI 80), some (fI 2)]) (st_q := [fI 2, fI 128, .ref 92, fI 2, .ref 70]) (h_q := h_573) (cl_q := 0) (sl_q := 0) rfl ?_
      refine fw_add rfl ?_
      refine fw_ial rfl g_573_92 (by omega) (by omega) (by omega) ?_
      refine ik_Wk 0 (pc_q := 82) (loc_q := [some (.ref 66), some (fI 1), some (fI 80), some (fI 2)]) (st_q := [fI (im.getD (130 : Int).toNat 0), fI 2, .ref 70]) (h_q := h_573) (cl_q := 0) (sl_q := 0) rfl ?_
      rw [show im.getD (130 : Int).toNat 0 = e2 from q0.2 2 (by decide +kernel)]
      refine fx_ias (z := 2) rfl g_573_70 (by decide +kernel) (Nat.le_of_ble_eq_true rfl) (by decide +kernel) ?_
      intro h_574 e_574 f_574 l_574
      have k_574 : cL h_574 := l_574.trans k_573
      have fr_574 := hfr_wb fr_573 f_574 l_574 rfl
      clear l_574
      have g_574_66 := (f_574 66 (Nat.ne_of_beq_eq_false rfl)).trans g_573_66
      have g_574_69 := (f_574 69 (Nat.ne_of_beq_eq_false rfl)).trans g_573_69
      have g_574_71 := (f_574 71 (Nat.ne_of_beq_eq_false rfl)).trans g_573_71
      have g_574_92 := (f_574 92 (Nat.ne_of_beq_eq_false rfl)).trans g_573_92
      have g_574_93 := (f_574 93 (Nat.ne_of_beq_eq_false rfl)).trans g_573_93
      have g_574_70 : cE h_574 70 (.inl (.int, fA [e0, e1, e2, kb, pb, fb])) := e_574
      refine fw_inc (a := 2) (loc_q := [some (.ref 66), some (fI 1), some (fI 80), some (fI 3)]) rfl rfl (Nat.le_of_ble_eq_true rfl) rfl ?_
      refine ik_Wk 2 (pc_q := 61) (loc_q := [some (.ref 66), some (fI 1), some (fI 80), some (fI 3)]) (st_q := [fI 3]) (h_q := h_574) (cl_q := 0) (sl_q := 0) rfl ?_
      refine fw_bi rfl (by decide +kernel) ?_
      refine fw_ic_ge rfl rfl (by omega) (by omega) (by omega) (by omega) (fun hc5 => absurd hc5 (by omega)) (fun hc5 => ?_)
      refine ik_Wk 1 (pc_q := 67) (loc_q := [some (.ref 66), some (fI 1), some (fI 80), some (fI 3)]) (st_q := [.ref 66]) (h_q := h_574) (cl_q := 0) (sl_q := 0) rfl ?_
      refine fw_gf rfl rfl g_574_66 rfl ?_
      refine ik_Wk 2 (pc_q := 72) (loc_q := [some (.ref 66), some (fI 1), some (fI 80), some (fI 3)]) (st_q := [.ref 66, fI 3, .ref 70]) (h_q := h_574) (cl_q := 0) (sl_q := 0) rfl ?_
      refine fw_gf rfl rfl g_574_66 rfl ?_
      refine ik_Wk 1 (pc_q := 76) (loc_q := [some (.ref 66), some (fI 1), some (fI 80), some (fI 3)]) (st_q := [fI 80, .ref 92, fI 3, .ref 70]) (h_q := h_574) (cl_q := 0) (sl_q := 0) rfl ?_
      refine fw_bi rfl (by decide +kernel) ?_
      refine fw_add rfl ?_
      refine ik_Wk 1 (pc_q := 80) (loc_q := [some (.ref 66), some (fI 1), some (fI 80), some (fI 3)]) (st_q := [fI 3, fI 128, .ref 92, fI 3, .ref 70]) (h_q := h_574) (cl_q := 0) (sl_q := 0) rfl ?_
      refine fw_add rfl ?_
      refine fw_ial rfl g_574_92 (by omega) (by omega) (by omega) ?_
      refine ik_Wk 0 (pc_q := 82) (loc_q := [some (.ref 66), some (fI 1), some (fI 80), some (fI 3)]) (st_q := [fI (im.getD (131 : Int).toNat 0), fI 3, .ref 70]) (h_q := h_574) (cl_q := 0) (sl_q := 0) rfl ?_
      rw [show im.getD (131 : Int).toNat 0 = e3 from q0.2 3 (by decide +kernel)]
      refine fx_ias (z := 3) rfl g_574_70 (by decide +kernel) (Nat.le_of_ble_eq_true rfl) (by decide +kernel) ?_
      intro h_575 e_575 f_575 l_575
      have k_575 : cL h_575 := l_575.trans k_574
      have fr_575 := hfr_wb fr_574 f_575 l_575 rfl
      clear l_575
      have g_575_66 := (f_575 66 (Nat.ne_of_beq_eq_false rfl)).trans g_574_66
      have g_575_69 := (f_575 69 (Nat.ne_of_beq_eq_false rfl)).trans g_574_69
      have g_575_71 := (f_575 71 (Nat.ne_of_beq_eq_false rfl)).trans g_574_71
      have g_575_92 := (f_575 92 (Nat.ne_of_beq_eq_false rfl)).trans g_574_92
      have g_575_93 := (f_575 93 (Nat.ne_of_beq_eq_false rfl)).trans g_574_93
      have g_575_70 : cE h_575 70 (.inl (.int, fA [e0, e1, e2, e3, pb, fb])) := e_575
      refine fw_inc (a := 3) (loc_q := [some (.ref 66), some (fI 1), some (fI 80), some (fI 4)]) rfl rfl (Nat.le_of_ble_eq_true rfl) rfl ?_
      refine ik_Wk 2 (pc_q := 61) (loc_q := [some (.ref 66), some (fI 1), some (fI 80), some (fI 4)]) (st_q := [fI 4]) (h_q := h_575) (cl_q := 0) (sl_q := 0) rfl ?_
      refine fw_bi rfl (by decide +kernel) ?_
      refine fw_ic_ge rfl rfl (by omega) (by omega) (by omega) (by omega) (fun hc6 => absurd hc6 (by omega)) (fun hc6 => ?_)
      refine ik_Wk 1 (pc_q := 67) (loc_q := [some (.ref 66), some (fI 1), some (fI 80), some (fI 4)]) (st_q := [.ref 66]) (h_q := h_575) (cl_q := 0) (sl_q := 0) rfl ?_
      refine fw_gf rfl rfl g_575_66 rfl ?_
      refine ik_Wk 2 (pc_q := 72) (loc_q := [some (.ref 66), some (fI 1), some (fI 80), some (fI 4)]) (st_q := [.ref 66, fI 4, .ref 70]) (h_q := h_575) (cl_q := 0) (sl_q := 0) rfl ?_
      refine fw_gf rfl rfl g_575_66 rfl ?_
      refine ik_Wk 1 (pc_q := 76) (loc_q := [some (.ref 66), some (fI 1), some (fI 80), some (fI 4)]) (st_q := [fI 80, .ref 92, fI 4, .ref 70]) (h_q := h_575) (cl_q := 0) (sl_q := 0) rfl ?_
      refine fw_bi rfl (by decide +kernel) ?_
      refine fw_add rfl ?_
      refine ik_Wk 1 (pc_q := 80) (loc_q := [some (.ref 66), some (fI 1), some (fI 80), some (fI 4)]) (st_q := [fI 4, fI 128, .ref 92, fI 4, .ref 70]) (h_q := h_575) (cl_q := 0) (sl_q := 0) rfl ?_
      refine fw_add rfl ?_
      refine fw_ial rfl g_575_92 (by omega) (by omega) (by omega) ?_
      refine ik_Wk 0 (pc_q := 82) (loc_q := [some (.ref 66), some (fI 1), some (fI 80), some (fI 4)]) (st_q := [fI (im.getD (132 : Int).toNat 0), fI 4, .ref 70]) (h_q := h_575) (cl_q := 0) (sl_q := 0) rfl ?_
      rw [show im.getD (132 : Int).toNat 0 = e4 from q0.2 4 (by decide +kernel)]
      refine fx_ias (z := 4) rfl g_575_70 (by decide +kernel) (Nat.le_of_ble_eq_true rfl) (by decide +kernel) ?_
      intro h_576 e_576 f_576 l_576
      have k_576 : cL h_576 := l_576.trans k_575
      have fr_576 := hfr_wb fr_575 f_576 l_576 rfl
      clear l_576
      have g_576_66 := (f_576 66 (Nat.ne_of_beq_eq_false rfl)).trans g_575_66
      have g_576_69 := (f_576 69 (Nat.ne_of_beq_eq_false rfl)).trans g_575_69
      have g_576_71 := (f_576 71 (Nat.ne_of_beq_eq_false rfl)).trans g_575_71
      have g_576_92 := (f_576 92 (Nat.ne_of_beq_eq_false rfl)).trans g_575_92
      have g_576_93 := (f_576 93 (Nat.ne_of_beq_eq_false rfl)).trans g_575_93
      have g_576_70 : cE h_576 70 (.inl (.int, fA [e0, e1, e2, e3, e4, fb])) := e_576
      refine fw_inc (a := 4) (loc_q := [some (.ref 66), some (fI 1), some (fI 80), some (fI 5)]) rfl rfl (Nat.le_of_ble_eq_true rfl) rfl ?_
      refine ik_Wk 2 (pc_q := 61) (loc_q := [some (.ref 66), some (fI 1), some (fI 80), some (fI 5)]) (st_q := [fI 5]) (h_q := h_576) (cl_q := 0) (sl_q := 0) rfl ?_
      refine fw_bi rfl (by decide +kernel) ?_
      refine fw_ic_ge rfl rfl (by omega) (by omega) (by omega) (by omega) (fun hc7 => absurd hc7 (by omega)) (fun hc7 => ?_)
      refine ik_Wk 1 (pc_q := 67) (loc_q := [some (.ref 66), some (fI 1), some (fI 80), some (fI 5)]) (st_q := [.ref 66]) (h_q := h_576) (cl_q := 0) (sl_q := 0) rfl ?_
      refine fw_gf rfl rfl g_576_66 rfl ?_
      refine ik_Wk 2 (pc_q := 72) (loc_q := [some (.ref 66), some (fI 1), some (fI 80), some (fI 5)]) (st_q := [.ref 66, fI 5, .ref 70]) (h_q := h_576) (cl_q := 0) (sl_q := 0) rfl ?_
      refine fw_gf rfl rfl g_576_66 rfl ?_
      refine ik_Wk 1 (pc_q := 76) (loc_q := [some (.ref 66), some (fI 1), some (fI 80), some (fI 5)]) (st_q := [fI 80, .ref 92, fI 5, .ref 70]) (h_q := h_576) (cl_q := 0) (sl_q := 0) rfl ?_
      refine fw_bi rfl (by decide +kernel) ?_
      refine fw_add rfl ?_
      refine ik_Wk 1 (pc_q := 80) (loc_q := [some (.ref 66), some (fI 1), some (fI 80), some (fI 5)]) (st_q := [fI 5, fI 128, .ref 92, fI 5, .ref 70]) (h_q := h_576) (cl_q := 0) (sl_q := 0) rfl ?_
      refine fw_add rfl ?_
      refine fw_ial rfl g_576_92 (by omega) (by omega) (by omega) ?_
      refine ik_Wk 0 (pc_q := 82) (loc_q := [some (.ref 66), some (fI 1), some (fI 80), some (fI 5)]) (st_q := [fI (im.getD (133 : Int).toNat 0), fI 5, .ref 70]) (h_q := h_576) (cl_q := 0) (sl_q := 0) rfl ?_
      rw [show im.getD (133 : Int).toNat 0 = e5 from q0.2 5 (by decide +kernel)]
      refine fx_ias (z := 5) rfl g_576_70 (by decide +kernel) (Nat.le_of_ble_eq_true rfl) (by decide +kernel) ?_
      intro h_577 e_577 f_577 l_577
      have k_577 : cL h_577 := l_577.trans k_576
      have fr_577 := hfr_wb fr_576 f_577 l_577 rfl
      clear l_577
      have g_577_66 := (f_577 66 (Nat.ne_of_beq_eq_false rfl)).trans g_576_66
      have g_577_69 := (f_577 69 (Nat.ne_of_beq_eq_false rfl)).trans g_576_69
      have g_577_71 := (f_577 71 (Nat.ne_of_beq_eq_false rfl)).trans g_576_71
      have g_577_92 := (f_577 92 (Nat.ne_of_beq_eq_false rfl)).trans g_576_92
      have g_577_93 := (f_577 93 (Nat.ne_of_beq_eq_false rfl)).trans g_576_93
      have g_577_70 : cE h_577 70 (.inl (.int, fA [e0, e1, e2, e3, e4, e5])) := e_577
      refine fw_inc (a := 5) (loc_q := [some (.ref 66), some (fI 1), some (fI 80), some (fI 6)]) rfl rfl (Nat.le_of_ble_eq_true rfl) rfl ?_
      refine ik_Wk 2 (pc_q := 61) (loc_q := [some (.ref 66), some (fI 1), some (fI 80), some (fI 6)]) (st_q := [fI 6]) (h_q := h_577) (cl_q := 0) (sl_q := 0) rfl ?_
      refine fw_bi rfl (by decide +kernel) ?_
      refine fw_ic_ge rfl rfl (by omega) (by omega) (by omega) (by omega) (fun hc8 => ?_) (fun hc8 => absurd hc8 (by omega))
      refine ik_Wk 1 (pc_q := 90) (loc_q := [some (.ref 66), some (fI 1), some (fI 80), some (fI 6)]) (st_q := [.ref 66]) (h_q := h_577) (cl_q := 0) (sl_q := 0) rfl ?_
      refine fw_gf rfl rfl g_577_66 rfl ?_
      refine ik_Wk 2 (pc_q := 95) (loc_q := [some (.ref 66), some (fI 1), some (fI 80), some (fI 6)]) (st_q := [.ref 66, fI 0, .ref 71]) (h_q := h_577) (cl_q := 0) (sl_q := 0) rfl ?_
      refine fw_gf rfl rfl g_577_66 rfl ?_
      refine ik_Wk 1 (pc_q := 99) (loc_q := [some (.ref 66), some (fI 1), some (fI 80), some (fI 6)]) (st_q := [fI 80, .ref 92, fI 0, .ref 71]) (h_q := h_577) (cl_q := 0) (sl_q := 0) rfl ?_
      refine fw_bi rfl (by decide +kernel) ?_
      refine fw_add rfl ?_
      refine fw_ial rfl g_577_92 (by omega) (by omega) (by omega) ?_
      refine ik_Wk 0 (pc_q := 103) (loc_q := [some (.ref 66), some (fI 1), some (fI 80), some (fI 6)]) (st_q := [fI (im.getD (134 : Int).toNat 0), fI 0, .ref 71]) (h_q := h_577) (cl_q := 0) (sl_q := 0) rfl ?_
      rw [show im.getD (134 : Int).toNat 0 = y0 from q0.2 6 (by decide +kernel)]
      refine fx_ias (z := 0) rfl g_577_71 (by decide +kernel) (Nat.le_of_ble_eq_true rfl) (by decide +kernel) ?_
      intro h_578 e_578 f_578 l_578
      have k_578 : cL h_578 := l_578.trans k_577
      have fr_578 := hfr_wb fr_577 f_578 l_578 rfl
      clear l_578
      have g_578_66 := (f_578 66 (Nat.ne_of_beq_eq_false rfl)).trans g_577_66
      have g_578_69 := (f_578 69 (Nat.ne_of_beq_eq_false rfl)).trans g_577_69
      have g_578_70 := (f_578 70 (Nat.ne_of_beq_eq_false rfl)).trans g_577_70
      have g_578_92 := (f_578 92 (Nat.ne_of_beq_eq_false rfl)).trans g_577_92
      have g_578_93 := (f_578 93 (Nat.ne_of_beq_eq_false rfl)).trans g_577_93
      have g_578_71 : cE h_578 71 (.inl (.int, fA [y0, xb])) := e_578
      refine ik_Wk 1 (pc_q := 105) (loc_q := [some (.ref 66), some (fI 1), some (fI 80), some (fI 6)]) (st_q := [.ref 66]) (h_q := h_578) (cl_q := 0) (sl_q := 0) rfl ?_
      refine fw_gf rfl rfl g_578_66 rfl ?_
      refine ik_Wk 2 (pc_q := 110) (loc_q := [some (.ref 66), some (fI 1), some (fI 80), some (fI 6)]) (st_q := [.ref 66, fI 1, .ref 71]) (h_q := h_578) (cl_q := 0) (sl_q := 0) rfl ?_
      refine fw_gf rfl rfl g_578_66 rfl ?_
      refine ik_Wk 1 (pc_q := 114) (loc_q := [some (.ref 66), some (fI 1), some (fI 80), some (fI 6)]) (st_q := [fI 80, .ref 92, fI 1, .ref 71]) (h_q := h_578) (cl_q := 0) (sl_q := 0) rfl ?_
      refine fw_bi rfl (by decide +kernel) ?_
      refine fw_add rfl ?_
      refine fw_ial rfl g_578_92 (by omega) (by omega) (by omega) ?_
      refine ik_Wk 0 (pc_q := 118) (loc_q := [some (.ref 66), some (fI 1), some (fI 80), some (fI 6)]) (st_q := [fI (im.getD (135 : Int).toNat 0), fI 1, .ref 71]) (h_q := h_578) (cl_q := 0) (sl_q := 0) rfl ?_
      rw [show im.getD (135 : Int).toNat 0 = y1 from q0.2 7 (by decide +kernel)]
      refine fx_ias (z := 1) rfl g_578_71 (by decide +kernel) (Nat.le_of_ble_eq_true rfl) (by decide +kernel) ?_
      intro h_579 e_579 f_579 l_579
      have k_579 : cL h_579 := l_579.trans k_578
      have fr_579 := hfr_wb fr_578 f_579 l_579 rfl
      clear l_579
      have g_579_66 := (f_579 66 (Nat.ne_of_beq_eq_false rfl)).trans g_578_66
      have g_579_69 := (f_579 69 (Nat.ne_of_beq_eq_false rfl)).trans g_578_69
      have g_579_70 := (f_579 70 (Nat.ne_of_beq_eq_false rfl)).trans g_578_70
      have g_579_92 := (f_579 92 (Nat.ne_of_beq_eq_false rfl)).trans g_578_92
      have g_579_93 := (f_579 93 (Nat.ne_of_beq_eq_false rfl)).trans g_578_93
      have g_579_71 : cE h_579 71 (.inl (.int, fA [y0, y1])) := e_579
      refine ik_Wk 2 (pc_q := 121) (loc_q := [some (.ref 66), some (fI 1), some (fI 80), some (fI 6)]) (st_q := [.ref 66, .ref 66]) (h_q := h_579) (cl_q := 0) (sl_q := 0) rfl ?_
      refine fw_gf rfl rfl g_579_66 rfl ?_
      refine ik_Wk 1 (pc_q := 125) (loc_q := [some (.ref 66), some (fI 1), some (fI 80), some (fI 6)]) (st_q := [fI 80, .ref 92, .ref 66]) (h_q := h_579) (cl_q := 0) (sl_q := 0) rfl ?_
      refine fw_bi rfl (by decide +kernel) ?_
      refine fw_add rfl ?_
      refine fw_ial rfl g_579_92 (by omega) (by omega) (by omega) ?_
      refine ik_Wk 0 (pc_q := 129) (loc_q := [some (.ref 66), some (fI 1), some (fI 80), some (fI 6)]) (st_q := [fI (im.getD (136 : Int).toNat 0), .ref 66]) (h_q := h_579) (cl_q := 0) (sl_q := 0) rfl ?_
      rw [show im.getD (136 : Int).toNat 0 = m2 from q0.2 8 (by decide +kernel)]
      refine fx_pf rfl rfl g_579_66 (Nat.le_of_ble_eq_true rfl) rfl rfl ?_
      intro h_580 e_580 f_580 l_580
      have k_580 : cL h_580 := l_580.trans k_579
      have fr_580 := hfr_wb fr_579 f_580 l_580 rfl
      clear l_580
      have g_580_69 := (f_580 69 (Nat.ne_of_beq_eq_false rfl)).trans g_579_69
      have g_580_70 := (f_580 70 (Nat.ne_of_beq_eq_false rfl)).trans g_579_70
      have g_580_71 := (f_580 71 (Nat.ne_of_beq_eq_false rfl)).trans g_579_71
      have g_580_92 := (f_580 92 (Nat.ne_of_beq_eq_false rfl)).trans g_579_92
      have g_580_93 := (f_580 93 (Nat.ne_of_beq_eq_false rfl)).trans g_579_93
      have g_580_66 : cE h_580 66 (.inr (10, (fI (f 0) :: .ref 67 :: .ref 68 :: .ref 69 :: fI ((s : Nat) : Int) :: .ref 70 :: .ref 71 :: fI m2 :: fI sd :: .ref 72 :: fI (f 10) :: fI (f 11) :: fI (f 12) :: fJ (f 13) :: fI (f 14) :: fI (f 15) :: fI (f 16) :: fI (f 17) :: .ref 73 :: .ref 74 :: .ref 75 :: .ref 76 :: .ref 77 :: .ref 78 :: fI (f 24) :: .ref 79 :: .ref 80 :: .ref 81 :: .ref 82 :: .ref 83 :: .ref 84 :: .ref 85 :: fJ (f 32) :: fJ (f 33) :: .ref 86 :: .ref 87 :: fI (f 36) :: .ref 88 :: .ref 89 :: .ref 90 :: .ref 91 :: .ref 92 :: .ref 93 :: []))) := e_580
      refine ik_Wk 2 (pc_q := 134) (loc_q := [some (.ref 66), some (fI 1), some (fI 80), some (fI 6)]) (st_q := [.ref 66, .ref 66]) (h_q := h_580) (cl_q := 0) (sl_q := 0) rfl ?_
      refine fw_gf rfl rfl g_580_66 rfl ?_
      refine ik_Wk 1 (pc_q := 138) (loc_q := [some (.ref 66), some (fI 1), some (fI 80), some (fI 6)]) (st_q := [fI 80, .ref 92, .ref 66]) (h_q := h_580) (cl_q := 0) (sl_q := 0) rfl ?_
      refine fw_bi rfl (by decide +kernel) ?_
      refine fw_add rfl ?_
      refine fw_ial rfl g_580_92 (by omega) (by omega) (by omega) ?_
      refine ik_Wk 0 (pc_q := 142) (loc_q := [some (.ref 66), some (fI 1), some (fI 80), some (fI 6)]) (st_q := [fI (im.getD (137 : Int).toNat 0), .ref 66]) (h_q := h_580) (cl_q := 0) (sl_q := 0) rfl ?_
      rw [show im.getD (137 : Int).toNat 0 = ((s2 : Nat) : Int) from q0.2 9 (by decide +kernel)]
      refine fx_pf rfl rfl g_580_66 (Nat.le_of_ble_eq_true rfl) rfl rfl ?_
      intro h_581 e_581 f_581 l_581
      have k_581 : cL h_581 := l_581.trans k_580
      have fr_581 := hfr_wb fr_580 f_581 l_581 rfl
      clear l_581
      have g_581_69 := (f_581 69 (Nat.ne_of_beq_eq_false rfl)).trans g_580_69
      have g_581_70 := (f_581 70 (Nat.ne_of_beq_eq_false rfl)).trans g_580_70
      have g_581_71 := (f_581 71 (Nat.ne_of_beq_eq_false rfl)).trans g_580_71
      have g_581_92 := (f_581 92 (Nat.ne_of_beq_eq_false rfl)).trans g_580_92
      have g_581_93 := (f_581 93 (Nat.ne_of_beq_eq_false rfl)).trans g_580_93
      have g_581_66 : cE h_581 66 (.inr (10, (fI (f 0) :: .ref 67 :: .ref 68 :: .ref 69 :: fI ((s2 : Nat) : Int) :: .ref 70 :: .ref 71 :: fI m2 :: fI sd :: .ref 72 :: fI (f 10) :: fI (f 11) :: fI (f 12) :: fJ (f 13) :: fI (f 14) :: fI (f 15) :: fI (f 16) :: fI (f 17) :: .ref 73 :: .ref 74 :: .ref 75 :: .ref 76 :: .ref 77 :: .ref 78 :: fI (f 24) :: .ref 79 :: .ref 80 :: .ref 81 :: .ref 82 :: .ref 83 :: .ref 84 :: .ref 85 :: fJ (f 32) :: fJ (f 33) :: .ref 86 :: .ref 87 :: fI (f 36) :: .ref 88 :: .ref 89 :: .ref 90 :: .ref 91 :: .ref 92 :: .ref 93 :: []))) := e_581
      refine ik_Wk 2 (pc_q := 147) (loc_q := [some (.ref 66), some (fI 1), some (fI 80), some (fI 6)]) (st_q := [.ref 66, .ref 66]) (h_q := h_581) (cl_q := 0) (sl_q := 0) rfl ?_
      refine fw_gf rfl rfl g_581_66 rfl ?_
      refine ik_Wk 1 (pc_q := 151) (loc_q := [some (.ref 66), some (fI 1), some (fI 80), some (fI 6)]) (st_q := [fI 80, .ref 92, .ref 66]) (h_q := h_581) (cl_q := 0) (sl_q := 0) rfl ?_
      refine fw_bi rfl (by decide +kernel) ?_
      refine fw_add rfl ?_
      refine fw_ial rfl g_581_92 (by omega) (by omega) (by omega) ?_
      refine ik_Wk 0 (pc_q := 155) (loc_q := [some (.ref 66), some (fI 1), some (fI 80), some (fI 6)]) (st_q := [fI (im.getD (138 : Int).toNat 0), .ref 66]) (h_q := h_581) (cl_q := 0) (sl_q := 0) rfl ?_
      rw [show im.getD (138 : Int).toNat 0 = d2 from q0.2 10 (by decide +kernel)]
      refine fx_pf rfl rfl g_581_66 (Nat.le_of_ble_eq_true rfl) rfl rfl ?_
      intro h_582 e_582 f_582 l_582
      have k_582 : cL h_582 := l_582.trans k_581
      have fr_582 := hfr_wb fr_581 f_582 l_582 rfl
      clear l_582
      have g_582_69 := (f_582 69 (Nat.ne_of_beq_eq_false rfl)).trans g_581_69
      have g_582_70 := (f_582 70 (Nat.ne_of_beq_eq_false rfl)).trans g_581_70
      have g_582_71 := (f_582 71 (Nat.ne_of_beq_eq_false rfl)).trans g_581_71
      have g_582_92 := (f_582 92 (Nat.ne_of_beq_eq_false rfl)).trans g_581_92
      have g_582_93 := (f_582 93 (Nat.ne_of_beq_eq_false rfl)).trans g_581_93
      have g_582_66 : cE h_582 66 (.inr (10, (fI (f 0) :: .ref 67 :: .ref 68 :: .ref 69 :: fI ((s2 : Nat) : Int) :: .ref 70 :: .ref 71 :: fI m2 :: fI d2 :: .ref 72 :: fI (f 10) :: fI (f 11) :: fI (f 12) :: fJ (f 13) :: fI (f 14) :: fI (f 15) :: fI (f 16) :: fI (f 17) :: .ref 73 :: .ref 74 :: .ref 75 :: .ref 76 :: .ref 77 :: .ref 78 :: fI (f 24) :: .ref 79 :: .ref 80 :: .ref 81 :: .ref 82 :: .ref 83 :: .ref 84 :: .ref 85 :: fJ (f 32) :: fJ (f 33) :: .ref 86 :: .ref 87 :: fI (f 36) :: .ref 88 :: .ref 89 :: .ref 90 :: .ref 91 :: .ref 92 :: .ref 93 :: []))) := e_582
      refine ik_Wk 1 (pc_q := 159) (loc_q := [some (.ref 66), some (fI 1), some (fI 80), some (fI 6)]) (st_q := [fI 1]) (h_q := h_582) (cl_q := 0) (sl_q := 0) rfl ?_
      have ec : c1 = ci := mx_ext (by rw [n69, q1]) (fun j => by
        rcases Nat.lt_or_ge j 48 with z | z
        · exact hc j (by omega)
        · rw [mi_out (by omega), mi_out (by omega)])
      rw [ec] at g_582_69
      exact ik_Wret rfl rfl ⟨_, _, rfl, rfl, rfl, rfl, ⟨rfl, g_582_66, g_582_69, q1, g_582_70, g_582_71, fr_582⟩⟩
    · refine ik_Wk 1 (pc_q := 39) (loc_q := [some (.ref 66), some (fI 1), some (fI 80), some (fI i)]) (st_q := [.ref 66]) (h_q := u) (cl_q := 0) (sl_q := 0) rfl ?_
      refine fw_gf rfl rfl u66 rfl ?_
      refine ik_Wk 2 (pc_q := 44) (loc_q := [some (.ref 66), some (fI 1), some (fI 80), some (fI i)]) (st_q := [.ref 66, fI i, .ref 69]) (h_q := u) (cl_q := 0) (sl_q := 0) rfl ?_
      refine fw_gf rfl rfl u66 rfl ?_
      refine ik_Wk 2 (pc_q := 49) (loc_q := [some (.ref 66), some (fI 1), some (fI 80), some (fI i)]) (st_q := [fI i, fI 80, .ref 92, fI i, .ref 69]) (h_q := u) (cl_q := 0) (sl_q := 0) rfl ?_
      refine fw_add rfl ?_
      refine fw_ial rfl u92 (by omega) (by omega) (by omega) ?_
      have hl9 : (c1.set i.toNat (im.getD (80 + i).toNat 0)).length = 48 := (List.length_set ..).trans n69
      refine fx_ias rfl u69 (by omega) (by omega) (by omega) ?_
      intro h_583 e_583 f_583 l_583
      have k_583 : cL h_583 := l_583.trans ul
      have fr_583 := hfr_wb F f_583 l_583 rfl
      clear l_583
      have g_583_66 := (f_583 66 (Nat.ne_of_beq_eq_false rfl)).trans u66
      have g_583_70 := (f_583 70 (Nat.ne_of_beq_eq_false rfl)).trans u70
      have g_583_71 := (f_583 71 (Nat.ne_of_beq_eq_false rfl)).trans u71
      have g_583_92 := (f_583 92 (Nat.ne_of_beq_eq_false rfl)).trans u92
      have g_583_93 := (f_583 93 (Nat.ne_of_beq_eq_false rfl)).trans u93
      have g_583_69 : cE h_583 69 (.inl (.int, fA (c1.set i.toNat (im.getD (80 + i).toNat 0)))) := e_583
      refine fw_inc (a := i) (loc_q := [some (.ref 66), some (fI 1), some (fI 80), some (fI (i + 1))]) rfl rfl (Nat.le_of_ble_eq_true rfl) rfl ?_
      refine ik_Wk 1 (pc_q := 32) (loc_q := [some (.ref 66), some (fI 1), some (fI 80), some (fI (i + 1))]) (st_q := []) (h_q := h_583) (cl_q := 0) (sl_q := 0) rfl ?_
      have hq := q0.1 i.toNat (by omega)
      rw [show 80 + i.toNat = (80 + i).toNat by omega] at hq
      have hc2 : ∀ j : Nat, (j : Int) < i + 1 → (c1.set i.toNat (im.getD (80 + i).toNat 0)).getD j 0 = ci.getD j 0 := by
        intro j hj
        rw [fz_getD_set]
        by_cases z : j = i.toNat
        · rw [if_pos ⟨z, by omega⟩, z]; exact hq
        · rw [if_neg (fun y => z y.1)]; exact hc j (by omega)
      exact ih  (i + 1) (c1.set i.toNat (im.getD (80 + i).toNat 0)) h_583 g_583_66 g_583_69 hl9 g_583_70 g_583_71 g_583_92 n92 g_583_93 k_583 fr_583 (by omega) hc2 (by omega)

theorem rp_goBack1T {h : List ik_E} {f : Nat → Int} {s : Nat} {s2 : Nat} {t0 : Int} {t1 : Int} {e0 : Int} {e1 : Int} {e2 : Int} {e3 : Int} {e4 : Int} {e5 : Int} {y0 : Int} {y1 : Int} {m2 : Int} {d2 : Int} {ka : Int} {pa : Int} {fa : Int} {kb : Int} {pb : Int} {fb : Int} {xa : Int} {xb : Int} {mi : Int} {sd : Int} {ch : List Int} {im : List Int} {ci : List Int} (q0 : mi_ok im 80 ci e0 e1 e2 e3 e4 e5 y0 y1 m2 s2 d2) (q1 : ci.length = 48) (h66 : cE h 66 (.inr (10, (fI (f 0) :: .ref 67 :: .ref 68 :: .ref 69 :: fI ((s : Nat) : Int) :: .ref 70 :: .ref 71 :: fI mi :: fI sd :: .ref 72 :: fI (f 10) :: fI (f 11) :: fI (f 12) :: fJ (f 13) :: fI (f 14) :: fI (f 15) :: fI (f 16) :: fI (f 17) :: .ref 73 :: .ref 74 :: .ref 75 :: .ref 76 :: .ref 77 :: .ref 78 :: fI (f 24) :: .ref 79 :: .ref 80 :: .ref 81 :: .ref 82 :: .ref 83 :: .ref 84 :: .ref 85 :: fJ (f 32) :: fJ (f 33) :: .ref 86 :: .ref 87 :: fI (f 36) :: .ref 88 :: .ref 89 :: .ref 90 :: .ref 91 :: .ref 92 :: .ref 93 :: [])))) (h69 : cE h 69 (.inl (.int, fA ch))) (n69 : ch.length = 48) (h70 : cE h 70 (.inl (.int, fA [ka, pa, fa, kb, pb, fb]))) (h71 : cE h 71 (.inl (.int, fA [xa, xb]))) (h92 : cE h 92 (.inl (.int, fA im))) (n92 : im.length = 160) (h93 : cE h 93 (.inl (.boolean, fA [t0, 1]))) (hl : h.length = 94) : ik_F 210 [.ref 66, fI 1] h (fun rv h_q => rv = [fI 1] ∧ cE h_q 66 (.inr (10, (fI (f 0) :: .ref 67 :: .ref 68 :: .ref 69 :: fI ((s2 : Nat) : Int) :: .ref 70 :: .ref 71 :: fI m2 :: fI d2 :: .ref 72 :: fI (f 10) :: fI (f 11) :: fI (f 12) :: fJ (f 13) :: fI (f 14) :: fI (f 15) :: fI (f 16) :: fI (f 17) :: .ref 73 :: .ref 74 :: .ref 75 :: .ref 76 :: .ref 77 :: .ref 78 :: fI (f 24) :: .ref 79 :: .ref 80 :: .ref 81 :: .ref 82 :: .ref 83 :: .ref 84 :: .ref 85 :: fJ (f 32) :: fJ (f 33) :: .ref 86 :: .ref 87 :: fI (f 36) :: .ref 88 :: .ref 89 :: .ref 90 :: .ref 91 :: .ref 92 :: .ref 93 :: []))) ∧ cE h_q 69 (.inl (.int, fA ci)) ∧ ci.length = 48 ∧ cE h_q 70 (.inl (.int, fA [e0, e1, e2, e3, e4, e5])) ∧ cE h_q 71 (.inl (.int, fA [y0, y1])) ∧ hfr [66, 69, 70, 71] h h_q) := by
  refine ik_Wk 1 (pc_q := 1) (loc_q := [some (.ref 66), some (fI 1), none, none]) (st_q := [fI 1]) (h_q := h) (cl_q := 0) (sl_q := 0) rfl ?_
  refine fw_i2l rfl (by omega) (by omega) ?_
  refine fw_lc (z := 0) rfl (by decide +kernel) ?_
  refine fw_lc (z := 1) rfl (by decide +kernel) ?_
  refine fw_call 127 3 3 [fJ 1, fJ 0, fJ 1] [] rfl rfl rfl (Nat.le_of_ble_eq_true rfl) rfl rfl (fw_sta hl rfl (by decide +kernel)) (cr_in (v := 1) (a := 0) (b := 1) (by omega) (by omega) (by omega)  hl) ?_
  rintro _ h_584 (⟨rfl, p_584_0, F_584⟩ | ⟨rfl, p_584_0, F_584⟩)
  · have k_584 : cL h_584 := F_584.1.trans hl
    have fr_584 := hfr_cb (hfr_refl [66, 69, 70, 71] h) F_584 rfl
    have g_584_66 := (hfr_g F_584 66 rfl).trans h66
    have g_584_69 := (hfr_g F_584 69 rfl).trans h69
    have g_584_70 := (hfr_g F_584 70 rfl).trans h70
    have g_584_71 := (hfr_g F_584 71 rfl).trans h71
    have g_584_92 := (hfr_g F_584 92 rfl).trans h92
    have g_584_93 := (hfr_g F_584 93 rfl).trans h93
    refine ik_Wk 0 (pc_q := 7) (loc_q := [some (.ref 66), some (fI 1), none, none]) (st_q := [fI 1]) (h_q := h_584) (cl_q := 0) (sl_q := 0) rfl ?_
    refine fw_if_ne rfl rfl (by decide +kernel) (by decide +kernel) (fun hc1 => absurd hc1 (by decide +kernel)) (fun hc1 => ?_)
    refine ik_Wk 1 (pc_q := 14) (loc_q := [some (.ref 66), some (fI 1), none, none]) (st_q := [.ref 66]) (h_q := h_584) (cl_q := 0) (sl_q := 0) rfl ?_
    refine fw_gf rfl rfl g_584_66 rfl ?_
    refine ik_Wk 1 (pc_q := 18) (loc_q := [some (.ref 66), some (fI 1), none, none]) (st_q := [fI 1, .ref 93]) (h_q := h_584) (cl_q := 0) (sl_q := 0) rfl ?_
    refine fx_bbl (z := 1) rfl g_584_93 (by decide +kernel) (Nat.le_of_ble_eq_true rfl) (by decide +kernel) ?_
    refine ik_Wk 0 (pc_q := 19) (loc_q := [some (.ref 66), some (fI 1), none, none]) (st_q := [fI 1]) (h_q := h_584) (cl_q := 0) (sl_q := 0) rfl ?_
    refine fw_if_ne rfl rfl (by decide +kernel) (by decide +kernel) (fun hc2 => absurd hc2 (by decide +kernel)) (fun hc2 => ?_)
    refine fw_bi rfl (by decide +kernel) ?_
    refine ik_Wk 1 (pc_q := 28) (loc_q := [some (.ref 66), some (fI 1), none, none]) (st_q := [fI 1, fI 80]) (h_q := h_584) (cl_q := 0) (sl_q := 0) rfl ?_
    refine fw_mul rfl ?_
    refine ik_Wk 3 (pc_q := 32) (loc_q := [some (.ref 66), some (fI 1), some (fI 80), some (fI 0)]) (st_q := []) (h_q := h_584) (cl_q := 0) (sl_q := 0) rfl ?_
    exact rp_goBack1L (f := f) (s := s) (s2 := s2) (t0 := t0) (t1 := t1) (e0 := e0) (e1 := e1) (e2 := e2) (e3 := e3) (e4 := e4) (e5 := e5) (y0 := y0) (y1 := y1) (m2 := m2) (d2 := d2) (ka := ka) (pa := pa) (fa := fa) (kb := kb) (pb := pb) (fb := fb) (xa := xa) (xb := xb) (mi := mi) (sd := sd) (ch := ch) (im := im) (ci := ci) q0 q1  49 0 ch h_584 g_584_66 g_584_69 n69 g_584_70 g_584_71 g_584_92 n92 g_584_93 k_584 fr_584 (by omega) (fun j hj => absurd hj (by omega)) (by omega)
  · have k_584 : cL h_584 := F_584.1.trans hl
    have fr_584 := hfr_cb (hfr_refl [66, 69, 70, 71] h) F_584 rfl
    have g_584_66 := (hfr_g F_584 66 rfl).trans h66
    have g_584_69 := (hfr_g F_584 69 rfl).trans h69
    have g_584_70 := (hfr_g F_584 70 rfl).trans h70
    have g_584_71 := (hfr_g F_584 71 rfl).trans h71
    have g_584_92 := (hfr_g F_584 92 rfl).trans h92
    have g_584_93 := (hfr_g F_584 93 rfl).trans h93
    omega

theorem rp_goBack1N {h : List ik_E} {f : Nat → Int} {t0 : Int} {t1 : Int}  (h66 : cE h 66 (.inr (10, (fI (f 0) :: .ref 67 :: .ref 68 :: .ref 69 :: fI (f 4) :: .ref 70 :: .ref 71 :: fI (f 7) :: fI (f 8) :: .ref 72 :: fI (f 10) :: fI (f 11) :: fI (f 12) :: fJ (f 13) :: fI (f 14) :: fI (f 15) :: fI (f 16) :: fI (f 17) :: .ref 73 :: .ref 74 :: .ref 75 :: .ref 76 :: .ref 77 :: .ref 78 :: fI (f 24) :: .ref 79 :: .ref 80 :: .ref 81 :: .ref 82 :: .ref 83 :: .ref 84 :: .ref 85 :: fJ (f 32) :: fJ (f 33) :: .ref 86 :: .ref 87 :: fI (f 36) :: .ref 88 :: .ref 89 :: .ref 90 :: .ref 91 :: .ref 92 :: .ref 93 :: [])))) (h93 : cE h 93 (.inl (.boolean, fA [t0, 0]))) (hl : h.length = 94) : ik_F 210 [.ref 66, fI 1] h (fun rv h_q => rv = [fI (-1000000003)] ∧ hfr [] h h_q) := by
  refine ik_Wk 1 (pc_q := 1) (loc_q := [some (.ref 66), some (fI 1), none, none]) (st_q := [fI 1]) (h_q := h) (cl_q := 0) (sl_q := 0) rfl ?_
  refine fw_i2l rfl (by omega) (by omega) ?_
  refine fw_lc (z := 0) rfl (by decide +kernel) ?_
  refine fw_lc (z := 1) rfl (by decide +kernel) ?_
  refine fw_call 127 3 3 [fJ 1, fJ 0, fJ 1] [] rfl rfl rfl (Nat.le_of_ble_eq_true rfl) rfl rfl (fw_sta hl rfl (by decide +kernel)) (cr_in (v := 1) (a := 0) (b := 1) (by omega) (by omega) (by omega)  hl) ?_
  rintro _ h_585 (⟨rfl, p_585_0, F_585⟩ | ⟨rfl, p_585_0, F_585⟩)
  · have k_585 : cL h_585 := F_585.1.trans hl
    have fr_585 := hfr_cb (hfr_refl [] h) F_585 rfl
    have g_585_66 := (hfr_g F_585 66 rfl).trans h66
    have g_585_93 := (hfr_g F_585 93 rfl).trans h93
    refine ik_Wk 0 (pc_q := 7) (loc_q := [some (.ref 66), some (fI 1), none, none]) (st_q := [fI 1]) (h_q := h_585) (cl_q := 0) (sl_q := 0) rfl ?_
    refine fw_if_ne rfl rfl (by decide +kernel) (by decide +kernel) (fun hc1 => absurd hc1 (by decide +kernel)) (fun hc1 => ?_)
    refine ik_Wk 1 (pc_q := 14) (loc_q := [some (.ref 66), some (fI 1), none, none]) (st_q := [.ref 66]) (h_q := h_585) (cl_q := 0) (sl_q := 0) rfl ?_
    refine fw_gf rfl rfl g_585_66 rfl ?_
    refine ik_Wk 1 (pc_q := 18) (loc_q := [some (.ref 66), some (fI 1), none, none]) (st_q := [fI 1, .ref 93]) (h_q := h_585) (cl_q := 0) (sl_q := 0) rfl ?_
    refine fx_bbl (z := 1) rfl g_585_93 (by decide +kernel) (Nat.le_of_ble_eq_true rfl) (by decide +kernel) ?_
    refine ik_Wk 0 (pc_q := 19) (loc_q := [some (.ref 66), some (fI 1), none, none]) (st_q := [fI 0]) (h_q := h_585) (cl_q := 0) (sl_q := 0) rfl ?_
    refine fw_if_ne rfl rfl (by decide +kernel) (by decide +kernel) (fun hc2 => ?_) (fun hc2 => absurd hc2 (by decide +kernel))
    refine fw_ld (-1000000003) rfl rfl (by decide +kernel) ?_
    exact ik_Wret rfl rfl ⟨_, _, rfl, rfl, rfl, rfl, ⟨rfl, fr_585⟩⟩
  · have k_585 : cL h_585 := F_585.1.trans hl
    have fr_585 := hfr_cb (hfr_refl [] h) F_585 rfl
    have g_585_66 := (hfr_g F_585 66 rfl).trans h66
    have g_585_93 := (hfr_g F_585 93 rfl).trans h93
    omega

theorem cp_keepE {h : List ik_E} {i : Int} (q0 : -2147483648 ≤ i ∧ i < 2147483648) (q1 : i < 0 ∨ 1 < i) (h0 : cE h 0 (.inr (9, [.ref 1, .ref 7, .ref 14, .ref 17, .ref 45, .ref 51, .ref 54, .ref 57]))) (h57 : cE h 57 (.inl (.object "SlowerCork$Image", [.ref 58, .ref 62]))) (hl : h.length = 94) : ik_F 119 [.ref 0, fI i] h (fun rv h_q => rv = [fI (-1000000001)] ∧ hfr [] h h_q) := by
  refine ik_Wk 2 (pc_q := 2) (loc_q := [some (.ref 0), some (fI i)]) (st_q := [fI i, .ref 0]) (h_q := h) (cl_q := 0) (sl_q := 0) rfl ?_
  refine ik_Wc 124 2 0 [.ref 0, fI i] [] rfl rfl rfl (by decide +kernel) rfl rfl (fw_rec hl rfl h0 rfl (Nat.le_of_ble_eq_true rfl)) ?_
  refine ik_Wk 0 (pc_q := 0) (loc_q := [some (.ref 0), some (fI i)]) (st_q := []) (h_q := h) (cl_q := 0) (sl_q := 0) rfl ?_
  refine ik_Wk 1 (pc_q := 1) (loc_q := [some (.ref 0), some (fI i)]) (st_q := [fI i]) (h_q := h) (cl_q := 0) (sl_q := 0) rfl ?_
  refine fw_if_lt rfl rfl (by omega) (by omega) (fun hc1 => ?_) (fun hc1 => ?_)
  · refine ik_Wk 1 (pc_q := 18) (loc_q := [some (.ref 0), some (fI i)]) (st_q := [fI 0]) (h_q := h) (cl_q := 0) (sl_q := 0) rfl ?_
    refine ik_Wret rfl rfl ⟨_, _, rfl, rfl, ?_⟩
    refine ik_Wk 0 (pc_q := 5) (loc_q := [some (.ref 0), some (fI i)]) (st_q := [fI 0]) (h_q := h) (cl_q := 0) (sl_q := 0) rfl ?_
    refine fw_if_ne rfl rfl (by decide +kernel) (by decide +kernel) (fun hc2 => ?_) (fun hc2 => absurd hc2 (by decide +kernel))
    refine fw_ld (-1000000001) rfl rfl (by decide +kernel) ?_
    exact ik_Wret rfl rfl ⟨_, _, rfl, rfl, rfl, rfl, ⟨rfl, (hfr_refl [] h)⟩⟩
  · refine ik_Wk 2 (pc_q := 6) (loc_q := [some (.ref 0), some (fI i)]) (st_q := [.ref 0, fI i]) (h_q := h) (cl_q := 0) (sl_q := 0) rfl ?_
    refine fw_gf rfl rfl h0 rfl ?_
    refine fx_aln (L := 2) rfl h57 (rfl : [(.ref 58 : Value), (.ref 62 : Value)].length = 2) (by decide +kernel) ?_
    refine fw_ic_ge rfl rfl (by omega) (by omega) (by omega) (by omega) (fun hc3 => ?_) (fun hc3 => absurd hc3 (by omega))
    refine ik_Wk 1 (pc_q := 18) (loc_q := [some (.ref 0), some (fI i)]) (st_q := [fI 0]) (h_q := h) (cl_q := 0) (sl_q := 0) rfl ?_
    refine ik_Wret rfl rfl ⟨_, _, rfl, rfl, ?_⟩
    refine ik_Wk 0 (pc_q := 5) (loc_q := [some (.ref 0), some (fI i)]) (st_q := [fI 0]) (h_q := h) (cl_q := 0) (sl_q := 0) rfl ?_
    refine fw_if_ne rfl rfl (by decide +kernel) (by decide +kernel) (fun hc4 => ?_) (fun hc4 => absurd hc4 (by decide +kernel))
    refine fw_ld (-1000000001) rfl rfl (by decide +kernel) ?_
    exact ik_Wret rfl rfl ⟨_, _, rfl, rfl, rfl, rfl, ⟨rfl, (hfr_refl [] h)⟩⟩

theorem rp_keepE {h : List ik_E} {f : Nat → Int} {i : Int} (q0 : -2147483648 ≤ i ∧ i < 2147483648) (q1 : i < 0 ∨ 1 < i) (h66 : cE h 66 (.inr (10, (fI (f 0) :: .ref 67 :: .ref 68 :: .ref 69 :: fI (f 4) :: .ref 70 :: .ref 71 :: fI (f 7) :: fI (f 8) :: .ref 72 :: fI (f 10) :: fI (f 11) :: fI (f 12) :: fJ (f 13) :: fI (f 14) :: fI (f 15) :: fI (f 16) :: fI (f 17) :: .ref 73 :: .ref 74 :: .ref 75 :: .ref 76 :: .ref 77 :: .ref 78 :: fI (f 24) :: .ref 79 :: .ref 80 :: .ref 81 :: .ref 82 :: .ref 83 :: .ref 84 :: .ref 85 :: fJ (f 32) :: fJ (f 33) :: .ref 86 :: .ref 87 :: fI (f 36) :: .ref 88 :: .ref 89 :: .ref 90 :: .ref 91 :: .ref 92 :: .ref 93 :: [])))) (hl : h.length = 94) : ik_F 209 [.ref 66, fI i] h (fun rv h_q => rv = [fI (-1000000001)] ∧ hfr [] h h_q) := by
  refine ik_Wk 1 (pc_q := 1) (loc_q := [some (.ref 66), some (fI i), none, none]) (st_q := [fI i]) (h_q := h) (cl_q := 0) (sl_q := 0) rfl ?_
  refine fw_i2l rfl (by omega) (by omega) ?_
  refine fw_lc (z := 0) rfl (by decide +kernel) ?_
  refine fw_lc (z := 1) rfl (by decide +kernel) ?_
  refine fw_call 127 3 3 [fJ i, fJ 0, fJ 1] [] rfl rfl rfl (Nat.le_of_ble_eq_true rfl) rfl rfl (fw_sta hl rfl (by decide +kernel)) (cr_in (v := i) (a := 0) (b := 1) (by omega) (by omega) (by omega)  hl) ?_
  rintro _ h_586 (⟨rfl, p_586_0, F_586⟩ | ⟨rfl, p_586_0, F_586⟩)
  · have k_586 : cL h_586 := F_586.1.trans hl
    have fr_586 := hfr_cb (hfr_refl [] h) F_586 rfl
    have g_586_66 := (hfr_g F_586 66 rfl).trans h66
    omega
  · have k_586 : cL h_586 := F_586.1.trans hl
    have fr_586 := hfr_cb (hfr_refl [] h) F_586 rfl
    have g_586_66 := (hfr_g F_586 66 rfl).trans h66
    refine ik_Wk 0 (pc_q := 7) (loc_q := [some (.ref 66), some (fI i), none, none]) (st_q := [fI 0]) (h_q := h_586) (cl_q := 0) (sl_q := 0) rfl ?_
    refine fw_if_ne rfl rfl (by decide +kernel) (by decide +kernel) (fun hc1 => ?_) (fun hc1 => absurd hc1 (by decide +kernel))
    refine fw_ld (-1000000001) rfl rfl (by decide +kernel) ?_
    exact ik_Wret rfl rfl ⟨_, _, rfl, rfl, rfl, rfl, ⟨rfl, fr_586⟩⟩

theorem cp_goBackE {h : List ik_E} {i : Int} (q0 : -2147483648 ≤ i ∧ i < 2147483648) (q1 : i < 0 ∨ 1 < i) (h0 : cE h 0 (.inr (9, [.ref 1, .ref 7, .ref 14, .ref 17, .ref 45, .ref 51, .ref 54, .ref 57]))) (h57 : cE h 57 (.inl (.object "SlowerCork$Image", [.ref 58, .ref 62]))) (hl : h.length = 94) : ik_F 120 [.ref 0, fI i] h (fun rv h_q => rv = [fI (-1000000001)] ∧ hfr [] h h_q) := by
  refine ik_Wk 2 (pc_q := 2) (loc_q := [some (.ref 0), some (fI i)]) (st_q := [fI i, .ref 0]) (h_q := h) (cl_q := 0) (sl_q := 0) rfl ?_
  refine ik_Wc 124 2 0 [.ref 0, fI i] [] rfl rfl rfl (by decide +kernel) rfl rfl (fw_rec hl rfl h0 rfl (Nat.le_of_ble_eq_true rfl)) ?_
  refine ik_Wk 0 (pc_q := 0) (loc_q := [some (.ref 0), some (fI i)]) (st_q := []) (h_q := h) (cl_q := 0) (sl_q := 0) rfl ?_
  refine ik_Wk 1 (pc_q := 1) (loc_q := [some (.ref 0), some (fI i)]) (st_q := [fI i]) (h_q := h) (cl_q := 0) (sl_q := 0) rfl ?_
  refine fw_if_lt rfl rfl (by omega) (by omega) (fun hc1 => ?_) (fun hc1 => ?_)
  · refine ik_Wk 1 (pc_q := 18) (loc_q := [some (.ref 0), some (fI i)]) (st_q := [fI 0]) (h_q := h) (cl_q := 0) (sl_q := 0) rfl ?_
    refine ik_Wret rfl rfl ⟨_, _, rfl, rfl, ?_⟩
    refine ik_Wk 0 (pc_q := 5) (loc_q := [some (.ref 0), some (fI i)]) (st_q := [fI 0]) (h_q := h) (cl_q := 0) (sl_q := 0) rfl ?_
    refine fw_if_ne rfl rfl (by decide +kernel) (by decide +kernel) (fun hc2 => ?_) (fun hc2 => absurd hc2 (by decide +kernel))
    refine fw_ld (-1000000001) rfl rfl (by decide +kernel) ?_
    exact ik_Wret rfl rfl ⟨_, _, rfl, rfl, rfl, rfl, ⟨rfl, (hfr_refl [] h)⟩⟩
  · refine ik_Wk 2 (pc_q := 6) (loc_q := [some (.ref 0), some (fI i)]) (st_q := [.ref 0, fI i]) (h_q := h) (cl_q := 0) (sl_q := 0) rfl ?_
    refine fw_gf rfl rfl h0 rfl ?_
    refine fx_aln (L := 2) rfl h57 (rfl : [(.ref 58 : Value), (.ref 62 : Value)].length = 2) (by decide +kernel) ?_
    refine fw_ic_ge rfl rfl (by omega) (by omega) (by omega) (by omega) (fun hc3 => ?_) (fun hc3 => absurd hc3 (by omega))
    refine ik_Wk 1 (pc_q := 18) (loc_q := [some (.ref 0), some (fI i)]) (st_q := [fI 0]) (h_q := h) (cl_q := 0) (sl_q := 0) rfl ?_
    refine ik_Wret rfl rfl ⟨_, _, rfl, rfl, ?_⟩
    refine ik_Wk 0 (pc_q := 5) (loc_q := [some (.ref 0), some (fI i)]) (st_q := [fI 0]) (h_q := h) (cl_q := 0) (sl_q := 0) rfl ?_
    refine fw_if_ne rfl rfl (by decide +kernel) (by decide +kernel) (fun hc4 => ?_) (fun hc4 => absurd hc4 (by decide +kernel))
    refine fw_ld (-1000000001) rfl rfl (by decide +kernel) ?_
    exact ik_Wret rfl rfl ⟨_, _, rfl, rfl, rfl, rfl, ⟨rfl, (hfr_refl [] h)⟩⟩

theorem rp_goBackE {h : List ik_E} {f : Nat → Int} {i : Int} (q0 : -2147483648 ≤ i ∧ i < 2147483648) (q1 : i < 0 ∨ 1 < i) (h66 : cE h 66 (.inr (10, (fI (f 0) :: .ref 67 :: .ref 68 :: .ref 69 :: fI (f 4) :: .ref 70 :: .ref 71 :: fI (f 7) :: fI (f 8) :: .ref 72 :: fI (f 10) :: fI (f 11) :: fI (f 12) :: fJ (f 13) :: fI (f 14) :: fI (f 15) :: fI (f 16) :: fI (f 17) :: .ref 73 :: .ref 74 :: .ref 75 :: .ref 76 :: .ref 77 :: .ref 78 :: fI (f 24) :: .ref 79 :: .ref 80 :: .ref 81 :: .ref 82 :: .ref 83 :: .ref 84 :: .ref 85 :: fJ (f 32) :: fJ (f 33) :: .ref 86 :: .ref 87 :: fI (f 36) :: .ref 88 :: .ref 89 :: .ref 90 :: .ref 91 :: .ref 92 :: .ref 93 :: [])))) (hl : h.length = 94) : ik_F 210 [.ref 66, fI i] h (fun rv h_q => rv = [fI (-1000000001)] ∧ hfr [] h h_q) := by
  refine ik_Wk 1 (pc_q := 1) (loc_q := [some (.ref 66), some (fI i), none, none]) (st_q := [fI i]) (h_q := h) (cl_q := 0) (sl_q := 0) rfl ?_
  refine fw_i2l rfl (by omega) (by omega) ?_
  refine fw_lc (z := 0) rfl (by decide +kernel) ?_
  refine fw_lc (z := 1) rfl (by decide +kernel) ?_
  refine fw_call 127 3 3 [fJ i, fJ 0, fJ 1] [] rfl rfl rfl (Nat.le_of_ble_eq_true rfl) rfl rfl (fw_sta hl rfl (by decide +kernel)) (cr_in (v := i) (a := 0) (b := 1) (by omega) (by omega) (by omega)  hl) ?_
  rintro _ h_587 (⟨rfl, p_587_0, F_587⟩ | ⟨rfl, p_587_0, F_587⟩)
  · have k_587 : cL h_587 := F_587.1.trans hl
    have fr_587 := hfr_cb (hfr_refl [] h) F_587 rfl
    have g_587_66 := (hfr_g F_587 66 rfl).trans h66
    omega
  · have k_587 : cL h_587 := F_587.1.trans hl
    have fr_587 := hfr_cb (hfr_refl [] h) F_587 rfl
    have g_587_66 := (hfr_g F_587 66 rfl).trans h66
    refine ik_Wk 0 (pc_q := 7) (loc_q := [some (.ref 66), some (fI i), none, none]) (st_q := [fI 0]) (h_q := h_587) (cl_q := 0) (sl_q := 0) rfl ?_
    refine fw_if_ne rfl rfl (by decide +kernel) (by decide +kernel) (fun hc1 => ?_) (fun hc1 => absurd hc1 (by decide +kernel))
    refine fw_ld (-1000000001) rfl rfl (by decide +kernel) ?_
    exact ik_Wret rfl rfl ⟨_, _, rfl, rfl, rfl, rfl, ⟨rfl, fr_587⟩⟩

end

/-! 38zw.text -/
noncomputable section
/-! the text: fed, read; by contracts (written by wip/fx/u22.py) -/
theorem cz_room {c0 : ik_E} {tl : List ik_E} {T : List Int} {n cur fl fb pl : Int} {C G P B : List Int} (htl : tl.length = 87) (hT : T.length = 500) (hn : 0 ≤ n) (hn2 : n ≤ 500) {m : Int} (hm : 1 ≤ m) (hm2 : m ≤ 8) : ik_F 54 [.ref 1, fI m] (c0 :: cz_t T n cur fl fb pl C G P B tl) (fun rv h_q => ((n + m ≤ 500 ∧ rv = [fI 1]) ∨ (500 < n + m ∧ rv = [fI 0])) ∧ h_q = (c0 :: cz_t T n cur fl fb pl C G P B tl)) := by
  refine ik_Wk 1 (pc_q := 1) (loc_q := [some (.ref 1), some (fI m)]) (st_q := [.ref 1]) (h_q := (c0 :: cz_t T n cur fl fb pl C G P B tl)) (cl_q := 0) (sl_q := 0) rfl ?_
  refine fw_gf rfl rfl rfl rfl ?_
  refine ik_Wk 1 (pc_q := 5) (loc_q := [some (.ref 1), some (fI m)]) (st_q := [fI m, fI n]) (h_q := (c0 :: cz_t T n cur fl fb pl C G P B tl)) (cl_q := 0) (sl_q := 0) rfl ?_
  refine fw_add rfl ?_
  refine fw_si rfl (by decide +kernel) ?_
  refine fw_ic_gt rfl rfl (by omega) (by omega) (by omega) (by omega) (fun hc1 => ?_) (fun hc1 => ?_)
  · refine ik_Wk 1 (pc_q := 17) (loc_q := [some (.ref 1), some (fI m)]) (st_q := [fI 0]) (h_q := (c0 :: cz_t T n cur fl fb pl C G P B tl)) (cl_q := 0) (sl_q := 0) rfl ?_
    exact ik_Wret rfl rfl ⟨_, _, rfl, rfl, rfl, rfl, ⟨Or.inr ⟨by omega, rfl⟩, rfl⟩⟩
  · refine ik_Wk 2 (pc_q := 17) (loc_q := [some (.ref 1), some (fI m)]) (st_q := [fI 1]) (h_q := (c0 :: cz_t T n cur fl fb pl C G P B tl)) (cl_q := 0) (sl_q := 0) rfl ?_
    exact ik_Wret rfl rfl ⟨_, _, rfl, rfl, rfl, rfl, ⟨Or.inl ⟨by omega, rfl⟩, rfl⟩⟩

theorem cz_append {c0 : ik_E} {tl : List ik_E} {T : List Int} {n cur fl fb pl : Int} {C G P B : List Int} (htl : tl.length = 87) (hT : T.length = 500) (hn : 0 ≤ n) (hn2 : n ≤ 500) {k : Nat} {b : Int64} (hk : (k : Int) ≤ 8) (hr : n + (k : Int) ≤ 500) : ik_F 55 [.ref 1, fI (k : Int), .long b] (c0 :: cz_t T n cur fl fb pl C G P B tl) (fun rv h_q => rv = [fI (n + (k : Int))] ∧ h_q = (c0 :: cz_t (fd_w (fd_c b) k n T) (n + (k : Int)) cur fl fb pl C G P B tl)) := by
  refine ik_Wk 2 (pc_q := 2) (loc_q := [some (.ref 1), some (fI (k : Int)), some (.long b), none, none]) (st_q := [fI 1, fI (k : Int)]) (h_q := (c0 :: cz_t T n cur fl fb pl C G P B tl)) (cl_q := 0) (sl_q := 0) rfl ?_
  refine fw_sub rfl ?_
  refine ik_Wk 1 (pc_q := 5) (loc_q := [some (.ref 1), some (fI (k : Int)), some (.long b), none, some (fI ((k : Int) - 1))]) (st_q := []) (h_q := (c0 :: cz_t T n cur fl fb pl C G P B tl)) (cl_q := 0) (sl_q := 0) rfl ?_
  exact cz_app k n T hT hn hr hk

theorem cz_feed {cs : List Value} {tl : List ik_E} {T : List Int} {n cur fl fb pl : Int} {C G P B : List Int} (htl : tl.length = 87) (hT : T.length = 500) (hn : 0 ≤ n) (hn2 : n ≤ 500) {m : Int} {b : Int64} (hm : -2147483648 ≤ m) (hm2 : m < 2147483648) : ik_F 90 [.ref 0, fI m, .long b] ((.inr (9, .ref 1 :: cs)) :: cz_t T n cur fl fb pl C G P B tl) (fun rv h_q => ((m < 1 ∨ 8 < m) ∧ rv = [fI (-1000000002)] ∧ h_q = ((.inr (9, .ref 1 :: cs)) :: cz_t T n cur fl fb pl C G P B tl)) ∨ (1 ≤ m ∧ m ≤ 8 ∧ 500 < n + m ∧ rv = [fI (-1000000004)] ∧ h_q = ((.inr (9, .ref 1 :: cs)) :: cz_t T n cur fl fb pl C G P B tl)) ∨ (1 ≤ m ∧ m ≤ 8 ∧ n + m ≤ 500 ∧ rv = [fI (n + m)] ∧ h_q = ((.inr (9, .ref 1 :: cs)) :: cz_t (fd_w (fd_c b) m.toNat n T) (n + m) cur fl fb pl C G P B tl))) := by
  refine ik_Wk 2 (pc_q := 2) (loc_q := [some (.ref 0), some (fI m), some (.long b), none]) (st_q := [fI 1, fI m]) (h_q := ((.inr (9, .ref 1 :: cs)) :: cz_t T n cur fl fb pl C G P B tl)) (cl_q := 0) (sl_q := 0) rfl ?_
  refine fw_ic_lt rfl rfl (by omega) (by omega) (by omega) (by omega) (fun hc1 => ?_) (fun hc1 => ?_)
  · refine fw_ld (-1000000002) rfl rfl (by decide +kernel) ?_
    exact ik_Wret rfl rfl ⟨_, _, rfl, rfl, rfl, rfl, (Or.inl ⟨by omega, rfl, rfl⟩)⟩
  · refine ik_Wk 1 (pc_q := 6) (loc_q := [some (.ref 0), some (fI m), some (.long b), none]) (st_q := [fI m]) (h_q := ((.inr (9, .ref 1 :: cs)) :: cz_t T n cur fl fb pl C G P B tl)) (cl_q := 0) (sl_q := 0) rfl ?_
    refine fw_bi rfl (by decide +kernel) ?_
    refine fw_ic_le rfl rfl (by omega) (by omega) (by omega) (by omega) (fun hc2 => ?_) (fun hc2 => ?_)
    · refine ik_Wk 1 (pc_q := 15) (loc_q := [some (.ref 0), some (fI m), some (.long b), none]) (st_q := [.ref 0]) (h_q := ((.inr (9, .ref 1 :: cs)) :: cz_t T n cur fl fb pl C G P B tl)) (cl_q := 0) (sl_q := 0) rfl ?_
      refine fw_gf rfl rfl rfl rfl ?_
      refine ik_Wk 1 (pc_q := 19) (loc_q := [some (.ref 0), some (fI m), some (.long b), none]) (st_q := [fI m, .ref 1]) (h_q := ((.inr (9, .ref 1 :: cs)) :: cz_t T n cur fl fb pl C G P B tl)) (cl_q := 0) (sl_q := 0) rfl ?_
      refine fw_call 54 2 0 [.ref 1, fI m] [] rfl rfl rfl (Nat.le_of_ble_eq_true rfl) rfl rfl (fw_rec (cz_len htl) rfl rfl rfl (by decide +kernel)) (cz_room htl hT hn hn2 (by omega) (by omega)) ?_
      rintro rv h_q ⟨⟨hrm, rfl⟩ | ⟨hrm, rfl⟩, rfl⟩
      · refine ik_Wk 0 (pc_q := 22) (loc_q := [some (.ref 0), some (fI m), some (.long b), none]) (st_q := [fI 1]) (h_q := ((.inr (9, .ref 1 :: cs)) :: cz_t T n cur fl fb pl C G P B tl)) (cl_q := 0) (sl_q := 0) rfl ?_
        refine fw_if_ne rfl rfl (by decide +kernel) (by decide +kernel) (fun hc3 => absurd hc3 (by decide +kernel)) (fun hc3 => ?_)
        refine ik_Wk 1 (pc_q := 29) (loc_q := [some (.ref 0), some (fI m), some (.long b), none]) (st_q := [.ref 0]) (h_q := ((.inr (9, .ref 1 :: cs)) :: cz_t T n cur fl fb pl C G P B tl)) (cl_q := 0) (sl_q := 0) rfl ?_
        refine fw_gf rfl rfl rfl rfl ?_
        refine ik_Wk 2 (pc_q := 34) (loc_q := [some (.ref 0), some (fI m), some (.long b), none]) (st_q := [.long b, fI m, .ref 1]) (h_q := ((.inr (9, .ref 1 :: cs)) :: cz_t T n cur fl fb pl C G P B tl)) (cl_q := 0) (sl_q := 0) rfl ?_
        obtain ⟨k, rfl⟩ : ∃ k : Nat, m = (k : Int) := ⟨m.toNat, by omega⟩
        refine fw_call 55 3 0 [.ref 1, fI (k : Int), .long b] [] rfl rfl rfl (Nat.le_of_ble_eq_true rfl) rfl rfl (fw_rec (cz_len htl) rfl rfl rfl (by decide +kernel)) (cz_append htl hT hn hn2 (by omega) hrm) ?_
        rintro rv h_q ⟨rfl, rfl⟩
        refine ik_Wk 0 (pc_q := 37) (loc_q := [some (.ref 0), some (fI (k : Int)), some (.long b), none]) (st_q := [fI (n + (k : Int))]) (h_q := ((.inr (9, .ref 1 :: cs)) :: cz_t (fd_w (fd_c b) k n T) (n + (k : Int)) cur fl fb pl C G P B tl)) (cl_q := 0) (sl_q := 0) rfl ?_
        exact ik_Wret rfl rfl ⟨_, _, rfl, rfl, rfl, rfl, (Or.inr (Or.inr ⟨by omega, by omega, by omega, rfl, by rw [Int.toNat_natCast]⟩))⟩
      · refine ik_Wk 0 (pc_q := 22) (loc_q := [some (.ref 0), some (fI m), some (.long b), none]) (st_q := [fI 0]) (h_q := ((.inr (9, .ref 1 :: cs)) :: cz_t T n cur fl fb pl C G P B tl)) (cl_q := 0) (sl_q := 0) rfl ?_
        refine fw_if_ne rfl rfl (by decide +kernel) (by decide +kernel) (fun hc4 => ?_) (fun hc4 => absurd hc4 (by decide +kernel))
        refine fw_ld (-1000000004) rfl rfl (by decide +kernel) ?_
        exact ik_Wret rfl rfl ⟨_, _, rfl, rfl, rfl, rfl, (Or.inr (Or.inl ⟨by omega, by omega, by omega, rfl, rfl⟩))⟩
    · refine fw_ld (-1000000002) rfl rfl (by decide +kernel) ?_
      exact ik_Wret rfl rfl ⟨_, _, rfl, rfl, rfl, rfl, (Or.inl ⟨by omega, rfl, rfl⟩)⟩

theorem rz_feed {pre tl : List ik_E} {w : Nat → Value} {wt : List Value} {c : Nat → ik_E} {T : List Int} {n fp a0 sd we nu na rp : Int} {M R O A : List Int} (hpre : pre.length = 66) (htl : tl.length = 17) (hT : T.length = 500) (hn : 0 ≤ n) (hn2 : n ≤ 500) {m : Int} {b : Int64} (hm : -2147483648 ≤ m) (hm2 : m < 2147483648) : ik_F 135 [.ref 66, fI m, .long b] (pre ++ rz_t w wt c tl T n fp a0 sd we nu na rp M R O A) (fun rv h_q => ((m < 1 ∨ 8 < m) ∧ rv = [fI (-1000000002)] ∧ h_q = (pre ++ rz_t w wt c tl T n fp a0 sd we nu na rp M R O A)) ∨ (1 ≤ m ∧ m ≤ 8 ∧ 500 < n + m ∧ rv = [fI (-1000000004)] ∧ h_q = (pre ++ rz_t w wt c tl T n fp a0 sd we nu na rp M R O A)) ∨ (1 ≤ m ∧ m ≤ 8 ∧ n + m ≤ 500 ∧ rv = [fI (n + m)] ∧ h_q = (pre ++ rz_t w wt c tl (fd_w (fd_r b) m.toNat n T) (n + m) fp a0 sd we nu na rp M R O A))) := by
  refine ik_Wk 1 (pc_q := 1) (loc_q := [some (.ref 66), some (fI m), some (.long b), none, none]) (st_q := [fI m]) (h_q := (pre ++ rz_t w wt c tl T n fp a0 sd we nu na rp M R O A)) (cl_q := 0) (sl_q := 0) rfl ?_
  refine fw_i2l rfl (by omega) (by omega) ?_
  refine fw_lc (z := 1) rfl (by decide +kernel) ?_
  refine fw_l2 8 rfl rfl (by decide +kernel) ?_
  refine fw_call 127 3 3 [fJ m, fJ 1, fJ 8] [] rfl rfl rfl (Nat.le_of_ble_eq_true rfl) rfl rfl (fw_sta (rz_len hpre htl) rfl (by decide +kernel)) (rz_in (by omega) (by omega) (by omega) (by omega) (by omega) (by omega)) ?_
  rintro rv h_q ⟨⟨hi1, hi2, rfl⟩ | ⟨hi1, rfl⟩, rfl⟩
  · refine ik_Wk 0 (pc_q := 9) (loc_q := [some (.ref 66), some (fI m), some (.long b), none, none]) (st_q := [fI 1]) (h_q := (pre ++ rz_t w wt c tl T n fp a0 sd we nu na rp M R O A)) (cl_q := 0) (sl_q := 0) rfl ?_
    refine fw_if_ne rfl rfl (by decide +kernel) (by decide +kernel) (fun hc3 => absurd hc3 (by decide +kernel)) (fun hc3 => ?_)
    refine ik_Wk 1 (pc_q := 16) (loc_q := [some (.ref 66), some (fI m), some (.long b), none, none]) (st_q := [.ref 66]) (h_q := (pre ++ rz_t w wt c tl T n fp a0 sd we nu na rp M R O A)) (cl_q := 0) (sl_q := 0) rfl ?_
    refine fw_gf rfl rfl (rz_g 0 hpre rfl) rfl ?_
    refine ik_Wk 1 (pc_q := 20) (loc_q := [some (.ref 66), some (fI m), some (.long b), none, none]) (st_q := [fI m, fI n]) (h_q := (pre ++ rz_t w wt c tl T n fp a0 sd we nu na rp M R O A)) (cl_q := 0) (sl_q := 0) rfl ?_
    refine fw_add rfl ?_
    refine fw_si rfl (by decide +kernel) ?_
    refine fw_ic_le rfl rfl (by omega) (by omega) (by omega) (by omega) (fun hc4 => ?_) (fun hc4 => ?_)
    · refine ik_Wk 2 (pc_q := 32) (loc_q := [some (.ref 66), some (fI m), some (.long b), none, none]) (st_q := [fI 1, fI m]) (h_q := (pre ++ rz_t w wt c tl T n fp a0 sd we nu na rp M R O A)) (cl_q := 0) (sl_q := 0) rfl ?_
      refine fw_sub rfl ?_
      refine ik_Wk 1 (pc_q := 35) (loc_q := [some (.ref 66), some (fI m), some (.long b), none, some (fI (m - 1))]) (st_q := []) (h_q := (pre ++ rz_t w wt c tl T n fp a0 sd we nu na rp M R O A)) (cl_q := 0) (sl_q := 0) rfl ?_
      obtain ⟨k, rfl⟩ : ∃ k : Nat, m = (k : Int) := ⟨m.toNat, by omega⟩
      refine ik_Wmono (rz_app hpre k n T hT hn (by omega) (by omega)) ?_
      rintro z ⟨ir, rv, z1, z2, z3, z4, z5⟩
      refine ⟨ir, rv, z1, z2, z3, z4, ?_⟩
      revert z5
      generalize z.2.2.2.1 = hx
      rintro ⟨rfl, rfl⟩
      exact Or.inr (Or.inr ⟨by omega, by omega, by omega, rfl, by rw [Int.toNat_natCast]⟩)
    · refine fw_ld (-1000000004) rfl rfl (by decide +kernel) ?_
      exact ik_Wret rfl rfl ⟨_, _, rfl, rfl, rfl, rfl, (Or.inr (Or.inl ⟨by omega, by omega, by omega, rfl, rfl⟩))⟩
  · refine ik_Wk 0 (pc_q := 9) (loc_q := [some (.ref 66), some (fI m), some (.long b), none, none]) (st_q := [fI 0]) (h_q := (pre ++ rz_t w wt c tl T n fp a0 sd we nu na rp M R O A)) (cl_q := 0) (sl_q := 0) rfl ?_
    refine fw_if_ne rfl rfl (by decide +kernel) (by decide +kernel) (fun hc5 => ?_) (fun hc5 => absurd hc5 (by decide +kernel))
    refine fw_ld (-1000000002) rfl rfl (by decide +kernel) ?_
    exact ik_Wret rfl rfl ⟨_, _, rfl, rfl, rfl, rfl, (Or.inl ⟨by omega, rfl, rfl⟩)⟩

def zret (r : (Int × Int) ⊕ (Int × List (List zM))) : Int := match r with
  | .inl e => -10 - e.1
  | .inr q => q.1
def zfb (r : (Int × Int) ⊕ (Int × List (List zM))) : Int := match r with
  | .inl e => e.2
  | .inr _ => -1
/-! the faults are 1 .. 6, their bytes in the text -/
theorem zf_of {f a : Int} (h1 : 1 ≤ f) (h2 : f ≤ 5) (h3 : 0 ≤ a) (h4 : a ≤ 500) : 1 ≤ (f, a).1 ∧ (f, a).1 ≤ 5 ∧ 0 ≤ (f, a).2 ∧ (f, a).2 ≤ 500 := ⟨h1, h2, h3, h4⟩
theorem zmv_f {y : Int → Int} {n : Int} (hn : n ≤ 500) : ∀ (k : Nat) (r : List zM) (sum cur : Int), (0 : Int) ≤ cur → cur ≤ n → ∀ e, zmv y n k r sum cur = .inl e → 1 ≤ e.1 ∧ e.1 ≤ 5 ∧ 0 ≤ e.2 ∧ e.2 ≤ 500 := by
  intro k
  induction k with
  | zero => intro r sum cur _ _ e h; cases h; exact zf_of (by decide +kernel) (by decide +kernel) (by decide +kernel) (by decide +kernel)
  | succ k ih =>
    intro r sum cur h0 h1 e h
    rw [zmv] at h
    have a1 := zS_ge (y := y) (n := n) cur
    have a2 := zS_le (y := y) (n := n) h1
    split at h
    · rename_i hto
      have ht : zS y n cur + 2 ≤ n := by
        unfold zto at hto
        have q := of_decide_eq_true hto
        have := zE_le (y := y) (n := n) (i := zS y n cur) a2
        omega
      have b1 := zS_ge (y := y) (n := n) (zS y n cur + 2)
      have b2 := zS_le (y := y) (n := n) ht
      have c1 := zD_ge (y := y) (n := n) (zS y n (zS y n cur + 2))
      have c2 := zD_le (y := y) (n := n) b2
      have d1 := zS_ge (y := y) (n := n) (zD y n (zS y n (zS y n cur + 2)))
      have d2 := zS_le (y := y) (n := n) c2
      have f1 := zD_ge (y := y) (n := n) (zS y n (zD y n (zS y n (zS y n cur + 2))))
      have f2 := zD_le (y := y) (n := n) d2
      have g1 := znumR (y := y) (n := n) (lo := 0) (hi := 11) (s := zS y n (zS y n cur + 2))
      have g2 := znumR (y := y) (n := n) (lo := 1) (hi := 100) (s := zS y n (zD y n (zS y n (zS y n cur + 2))))
      split at h
      · cases h; exact zf_of (by decide +kernel) (by decide +kernel) (by omega) (by omega)
      · split at h
        · split at h
          · cases h; exact zf_of (by decide +kernel) (by decide +kernel) (by omega) (by omega)
          · split at h
            · split at h
              · cases h; exact zf_of (by decide +kernel) (by decide +kernel) (by omega) (by omega)
              · exact ih _ _ _ (by omega) (by omega) e h
            · rename_i q; cases h; exact ⟨by omega, by omega, by omega, by omega⟩
        · rename_i q; cases h; exact ⟨by omega, by omega, by omega, by omega⟩
    · split at h
      · split at h
        · cases h
        · cases h; exact zf_of (by decide +kernel) (by decide +kernel) (by omega) (by omega)
      · cases h; exact zf_of (by decide +kernel) (by decide +kernel) (by omega) (by omega)
theorem zmv_c {y : Int → Int} {n : Int} : ∀ (k : Nat) (r : List zM) (sum cur : Int), (0 : Int) ≤ cur → cur ≤ n → ∀ q, zmv y n k r sum cur = .inr q → 0 ≤ q.2 ∧ q.2 ≤ n := by
  intro k
  induction k with
  | zero => intro r sum cur _ _ e h; cases h
  | succ k ih =>
    intro r sum cur h0 h1 q h
    rw [zmv] at h
    have a1 := zS_ge (y := y) (n := n) cur
    have a2 := zS_le (y := y) (n := n) h1
    split at h
    · rename_i hto
      have ht : zS y n cur + 2 ≤ n := by
        unfold zto at hto
        have q := of_decide_eq_true hto
        have := zE_le (y := y) (n := n) (i := zS y n cur) a2
        omega
      have b1 := zS_ge (y := y) (n := n) (zS y n cur + 2)
      have b2 := zS_le (y := y) (n := n) ht
      have c1 := zD_ge (y := y) (n := n) (zS y n (zS y n cur + 2))
      have c2 := zD_le (y := y) (n := n) b2
      have d1 := zS_ge (y := y) (n := n) (zD y n (zS y n (zS y n cur + 2)))
      have d2 := zS_le (y := y) (n := n) c2
      have f1 := zD_ge (y := y) (n := n) (zS y n (zD y n (zS y n (zS y n cur + 2))))
      have f2 := zD_le (y := y) (n := n) d2
      split at h
      · cases h
      · split at h
        · split at h
          · cases h
          · split at h
            · split at h
              · cases h
              · exact ih _ _ _ (by omega) (by omega) q h
            · cases h
        · cases h
    · split at h
      · rename_i hq
        split at h
        · cases h; exact ⟨by show 0 ≤ zS y n cur + 1; omega, by show zS y n cur + 1 ≤ n; omega⟩
        · cases h
      · cases h
theorem zps_f {y : Int → Int} {n : Int} (hn : n ≤ 500) : ∀ (k : Nat) (rs : List (List zM)) (cur : Int), (0 : Int) ≤ cur → cur ≤ n → ∀ e, zps y n k rs cur = .inl e → 1 ≤ e.1 ∧ e.1 ≤ 5 ∧ 0 ≤ e.2 ∧ e.2 ≤ 500 := by
  intro k
  induction k with
  | zero => intro rs cur _ _ e h; cases h; exact zf_of (by decide +kernel) (by decide +kernel) (by decide +kernel) (by decide +kernel)
  | succ k ih =>
    intro rs cur h0 h1 e h
    rw [zps] at h
    have a1 := zS_ge (y := y) (n := n) cur
    have a2 := zS_le (y := y) (n := n) h1
    split at h
    · rename_i hb
      have ht : zS y n cur + 6 ≤ n := by
        unfold zbr at hb
        have q := of_decide_eq_true hb
        have := zE_le (y := y) (n := n) (i := zS y n cur) a2
        omega
      have b1 := zS_ge (y := y) (n := n) (zS y n cur + 6)
      have b2 := zS_le (y := y) (n := n) ht
      split at h
      · cases h
      · rename_i hz
        cases h
        unfold zend at hz ⊢
        split at hz
        · rename_i hs
          have c1 := zS_ge (y := y) (n := n) (zS y n (zS y n cur + 6) + 1)
          have c2 := zS_le (y := y) (n := n) (i := zS y n (zS y n cur + 6) + 1) (by omega)
          split at hz
          · rename_i hu
            rw [if_pos hs, if_pos hu]
            exact zf_of (by decide +kernel) (by decide +kernel) (by omega) (by omega)
          · exact absurd rfl hz
        · rename_i hs
          rw [if_neg hs]
          exact zf_of (by decide +kernel) (by decide +kernel) (by omega) (by omega)
    · split at h
      · rename_i hp
        have ht : zS y n cur + 5 ≤ n := by
          unfold zpl at hp
          have q := of_decide_eq_true hp
          have := zE_le (y := y) (n := n) (i := zS y n cur) a2
          omega
        split at h
        · cases h; exact zf_of (by decide +kernel) (by decide +kernel) (by omega) (by omega)
        · cases hm : zmv y n 5 [] 0 (zS y n cur + 5) with
          | inl e' =>
            rw [hm] at h
            cases h
            exact zmv_f hn 5 [] 0 _ (by omega) ht _ hm
          | inr q =>
            rw [hm] at h
            have := zmv_c 5 [] 0 _ (by omega) ht q hm
            exact ih _ _ this.1 this.2 e h
      · cases h; exact zf_of (by decide +kernel) (by decide +kernel) (by omega) (by omega)
theorem zall_f {y : Int → Int} {n : Int} (h0 : 0 ≤ n) (hn : n ≤ 500) {e : Int × Int} (h : zall y n = .inl e) : 1 ≤ e.1 ∧ e.1 ≤ 6 := by
  rw [zall_e] at h
  split at h
  · rename_i hs
    have a1 := zS_ge (y := y) (n := n) 0
    cases hp : zps y n 12 [] (zS y n 0) with
    | inl e' =>
      rw [hp] at h
      cases h
      have := zps_f hn 12 [] _ (by omega) (by omega) _ hp
      omega
    | inr rs =>
      rw [hp] at h
      unfold zfin at h
      dsimp only at h
      split at h
      · cases h; exact ⟨(by decide : (1 : Int) ≤ 6), (by decide : (6 : Int) ≤ 6)⟩
      · cases h
  · cases h
theorem zmv_r {y : Int → Int} {n : Int} (hn : n ≤ 500) : ∀ (k : Nat) (r : List zM) (sum cur : Int), (0 : Int) ≤ cur → cur ≤ n → zrow r → ∀ q, zmv y n k r sum cur = .inr q → zrow q.1 := by
  intro k
  induction k with
  | zero => intro r sum cur _ _ _ e h; cases h
  | succ k ih =>
    intro r sum cur h0 h1 hr q h
    rw [zmv] at h
    have a1 := zS_ge (y := y) (n := n) cur
    have a2 := zS_le (y := y) (n := n) h1
    split at h
    · rename_i hto
      have ht : zS y n cur + 2 ≤ n := by
        unfold zto at hto
        have q := of_decide_eq_true hto
        have := zE_le (y := y) (n := n) (i := zS y n cur) a2
        omega
      have b1 := zS_ge (y := y) (n := n) (zS y n cur + 2)
      have b2 := zS_le (y := y) (n := n) ht
      have c1 := zD_ge (y := y) (n := n) (zS y n (zS y n cur + 2))
      have c2 := zD_le (y := y) (n := n) b2
      have d1 := zS_ge (y := y) (n := n) (zD y n (zS y n (zS y n cur + 2)))
      have d2 := zS_le (y := y) (n := n) c2
      have f1 := zD_ge (y := y) (n := n) (zS y n (zD y n (zS y n (zS y n cur + 2))))
      have f2 := zD_le (y := y) (n := n) d2
      split at h
      · cases h
      · split at h
        · rename_i z1
          have w1 := znum0 z1
          split at h
          · cases h
          · split at h
            · rename_i z2
              have w2 := znum0 z2
              split at h
              · cases h
              · exact ih _ _ _ (by omega) (by omega) (zrow_snoc hr ⟨w1.2.1, w1.2.2, w2.2.1, w2.2.2, by omega, by omega⟩) q h
            · cases h
        · cases h
    · split at h
      · split at h
        · cases h; exact hr
        · cases h
      · cases h
theorem zps_r {y : Int → Int} {n : Int} (hn : n ≤ 500) : ∀ (k : Nat) (rs : List (List zM)) (cur : Int), (0 : Int) ≤ cur → cur ≤ n → (∀ r ∈ rs, zrow r) → ∀ q, zps y n k rs cur = .inr q → ∀ r ∈ q, zrow r := by
  intro k
  induction k with
  | zero => intro rs cur _ _ _ q h; cases h
  | succ k ih =>
    intro rs cur h0 h1 hr q h
    rw [zps] at h
    have a1 := zS_ge (y := y) (n := n) cur
    have a2 := zS_le (y := y) (n := n) h1
    split at h
    · split at h
      · cases h; exact hr
      · cases h
    · split at h
      · rename_i hp
        have ht : zS y n cur + 5 ≤ n := by
          unfold zpl at hp
          have q := of_decide_eq_true hp
          have := zE_le (y := y) (n := n) (i := zS y n cur) a2
          omega
        split at h
        · cases h
        · cases hm : zmv y n 5 [] 0 (zS y n cur + 5) with
          | inl e' => rw [hm] at h; cases h
          | inr q' =>
            rw [hm] at h
            have h3 := zmv_c 5 [] 0 _ (by omega) ht q' hm
            have h4 := zmv_r hn 5 [] 0 _ (by omega) ht (fun m hm' => by cases hm') q' hm
            refine ih _ _ h3.1 h3.2 (fun r hr' => ?_) q h
            rcases List.mem_append.mp hr' with w | w
            · exact hr r w
            · rw [List.mem_singleton.mp w]; exact h4
      · cases h
theorem zall_b {y : Int → Int} {n : Int} (h0 : 0 ≤ n) (hn : n ≤ 500) {e : Int × Int} (h : zall y n = .inl e) : 0 ≤ e.2 ∧ e.2 ≤ 500 := by
  rw [zall_e] at h
  split at h
  · rename_i hs
    have a1 := zS_ge (y := y) (n := n) 0
    cases hp : zps y n 12 [] (zS y n 0) with
    | inl e' =>
      rw [hp] at h
      cases h
      have := zps_f hn 12 [] _ (by omega) (by omega) _ hp
      omega
    | inr rs =>
      rw [hp] at h
      unfold zfin at h
      dsimp only at h
      split at h
      · rename_i m hm
        cases h
        have hrs := zps_r hn 12 [] _ (by omega) (by omega) (fun r hr => by cases hr) rs hp
        obtain ⟨r, hr, hmr⟩ := List.mem_flatten.mp (List.mem_of_find?_eq_some hm)
        have := hrs r hr m hmr
        exact ⟨this.2.2.2.2.1, this.2.2.2.2.2⟩
      · cases h
  · cases h
/-! the views -/
theorem cz_form {h : List ik_E} {c1 c2 c3 c4 c5 c6 : ik_E} (h1 : h[1]? = some c1) (h2 : h[2]? = some c2) (h3 : h[3]? = some c3) (h4 : h[4]? = some c4) (h5 : h[5]? = some c5) (h6 : h[6]? = some c6) (hl : h.length = (94 : Nat)) : ∃ c0 tl, h = c0 :: c1 :: c2 :: c3 :: c4 :: c5 :: c6 :: tl ∧ tl.length = (87 : Nat) := by
  refine ⟨h[0]'(by omega), h.drop 7, List.ext_getElem? fun i => ?_, by rw [List.length_drop]; omega⟩
  match i with
  | 0 => exact List.getElem?_eq_getElem (by omega)
  | 1 => exact h1
  | 2 => exact h2
  | 3 => exact h3
  | 4 => exact h4
  | 5 => exact h5
  | 6 => exact h6
  | i + 7 => show h[i + 7]? = (h.drop 7)[i]?; rw [List.getElem?_drop, Nat.add_comm]
theorem cz_hfr {c0 a1 a2 a3 a4 a5 a6 b1 b2 b3 b4 b5 b6 : ik_E} {tl : List ik_E} : hfr [1, 2, 3, 4, 5, 6] (c0 :: a1 :: a2 :: a3 :: a4 :: a5 :: a6 :: tl) (c0 :: b1 :: b2 :: b3 :: b4 :: b5 :: b6 :: tl) := by
  refine ⟨rfl, fun b hb => ?_⟩
  match b with
  | 0 => rfl
  | 1 => exact absurd (by decide +kernel) hb
  | 2 => exact absurd (by decide +kernel) hb
  | 3 => exact absurd (by decide +kernel) hb
  | 4 => exact absurd (by decide +kernel) hb
  | 5 => exact absurd (by decide +kernel) hb
  | 6 => exact absurd (by decide +kernel) hb
  | b + 7 => rfl
theorem rz_form {h : List ik_E} {c0 c1 c2 c3 c4 c5 d0 d1 d2 d3 d4 : ik_E} (h0 : h[66]? = some c0) (h1 : h[67]? = some c1) (h2 : h[68]? = some c2) (h3 : h[69]? = some c3) (h4 : h[70]? = some c4) (h5 : h[71]? = some c5) (k0 : h[72]? = some d0) (k1 : h[73]? = some d1) (k2 : h[74]? = some d2) (k3 : h[75]? = some d3) (k4 : h[76]? = some d4) (hl : h.length = (94 : Nat)) : ∃ pre tl, h = pre ++ (c0 :: c1 :: c2 :: c3 :: c4 :: c5 :: d0 :: d1 :: d2 :: d3 :: d4 :: tl) ∧ pre.length = (66 : Nat) ∧ tl.length = (17 : Nat) := by
  refine ⟨h.take 66, h.drop 77, ?_, by rw [List.length_take]; omega, by rw [List.length_drop]; omega⟩
  have e : h.drop 66 = c0 :: c1 :: c2 :: c3 :: c4 :: c5 :: d0 :: d1 :: d2 :: d3 :: d4 :: h.drop 77 := by
    refine List.ext_getElem? fun i => ?_
    rw [List.getElem?_drop]
    match i with
    | 0 => exact h0
    | 1 => exact h1
    | 2 => exact h2
    | 3 => exact h3
    | 4 => exact h4
    | 5 => exact h5
    | 6 => exact k0
    | 7 => exact k1
    | 8 => exact k2
    | 9 => exact k3
    | 10 => exact k4
    | i + 11 => show h[66 + (i + 11)]? = (h.drop 77)[i]?; rw [List.getElem?_drop, show 66 + (i + 11) = 77 + i by omega]
  rw [← e, List.take_append_drop]
theorem rz_at {pre t : List ik_E} (hp : pre.length = 66) (k : Nat) : (pre ++ t)[66 + k]? = t[k]? := by
  rw [List.getElem?_append_right (by omega), show 66 + k - pre.length = k by omega]
theorem rz_hfr {pre tl : List ik_E} {a0 b0 c1 c2 c3 c4 c5 a1 a2 a3 a4 a5 b1 b2 b3 b4 b5 : ik_E} (hp : pre.length = 66) : hfr [66, 72, 73, 74, 75, 76] (pre ++ (a0 :: c1 :: c2 :: c3 :: c4 :: c5 :: a1 :: a2 :: a3 :: a4 :: a5 :: tl)) (pre ++ (b0 :: c1 :: c2 :: c3 :: c4 :: c5 :: b1 :: b2 :: b3 :: b4 :: b5 :: tl)) := by
  refine ⟨by rw [List.length_append, List.length_append]; rfl, fun b hb => ?_⟩
  rcases Nat.lt_or_ge b 66 with q | q
  · rw [List.getElem?_append_left (by omega), List.getElem?_append_left (by omega)]
  · obtain ⟨i, rfl⟩ : ∃ i, b = 66 + i := ⟨b - 66, by omega⟩
    rw [rz_at hp, rz_at hp]
    match i with
    | 0 => exact absurd (by decide +kernel) hb
    | 1 => rfl
    | 2 => rfl
    | 3 => rfl
    | 4 => rfl
    | 5 => rfl
    | 6 => exact absurd (by decide +kernel) hb
    | 7 => exact absurd (by decide +kernel) hb
    | 8 => exact absurd (by decide +kernel) hb
    | 9 => exact absurd (by decide +kernel) hb
    | 10 => exact absurd (by decide +kernel) hb
    | i + 11 => rfl
theorem cs_readText {h : List ik_E} {tn : Int} {cu : Int} {fl : Int} {fp : Int} {rpl : Int} {T : List Int} {C : List Int} {G : List Int} {P : List Int} {B : List Int} {y : Int → Int} (q0 : ∀ i : Int, (0 : Int) ≤ i → i < tn → -128 ≤ T.getD i.toNat 0 ∧ T.getD i.toNat 0 ≤ 127) (q1 : (0 : Int) ≤ tn ∧ tn ≤ (500 : Int)) (q2 : ∀ i : Int, (0 : Int) ≤ i → i < tn → y i = T.getD i.toNat 0 % 256) (h1 : cE h 1 (.inr (6, [.ref 2, fI tn, fI cu, fI fl, fI fp, fI rpl, .ref 3, .ref 4, .ref 5, .ref 6]))) (h2 : cE h 2 (.inl (.byte, fA T))) (n2 : T.length = (500 : Nat)) (h3 : cE h 3 (.inl (.int, fA C))) (n3 : C.length = (12 : Nat)) (h4 : cE h 4 (.inl (.int, fA G))) (n4 : G.length = (48 : Nat)) (h5 : cE h 5 (.inl (.int, fA P))) (n5 : P.length = (48 : Nat)) (h6 : cE h 6 (.inl (.int, fA B))) (n6 : B.length = (48 : Nat)) (hl : h.length = (94 : Nat)) : ik_F 56 [.ref 1] h (fun rv h_q => (∃ (e : Int × Int) (cu' : Int) (rpl' : Int) (C' : List Int) (G' : List Int) (P' : List Int) (B' : List Int), rv = [fI e.1] ∧ cE h_q 1 (.inr (6, [.ref 2, fI 0, fI cu', fI e.1, fI e.2, fI rpl', .ref 3, .ref 4, .ref 5, .ref 6])) ∧ cE h_q 2 (.inl (.byte, fA T)) ∧ T.length = (500 : Nat) ∧ cE h_q 3 (.inl (.int, fA C')) ∧ C'.length = (12 : Nat) ∧ cE h_q 4 (.inl (.int, fA G')) ∧ G'.length = (48 : Nat) ∧ cE h_q 5 (.inl (.int, fA P')) ∧ P'.length = (48 : Nat) ∧ cE h_q 6 (.inl (.int, fA B')) ∧ B'.length = (48 : Nat) ∧ (zall y tn = .inl e) ∧ hfr [1, 2, 3, 4, 5, 6] h h_q) ∨ (∃ (q : Int × List (List zM)) (cu' : Int) (C' : List Int) (G' : List Int) (P' : List Int) (B' : List Int), rv = [fI 0] ∧ cE h_q 1 (.inr (6, [.ref 2, fI 0, fI cu', fI 0, fI (-1), fI q.1, .ref 3, .ref 4, .ref 5, .ref 6])) ∧ cE h_q 2 (.inl (.byte, fA T)) ∧ T.length = (500 : Nat) ∧ cE h_q 3 (.inl (.int, fA C')) ∧ C'.length = (12 : Nat) ∧ cE h_q 4 (.inl (.int, fA G')) ∧ G'.length = (48 : Nat) ∧ cE h_q 5 (.inl (.int, fA P')) ∧ P'.length = (48 : Nat) ∧ cE h_q 6 (.inl (.int, fA B')) ∧ B'.length = (48 : Nat) ∧ (zall y tn = .inr q) ∧ (zH C' G' P' B' q.2) ∧ (zrows q.2) ∧ (q.1 = 0 ∧ q.2 = [] ∨ q.1 = (q.2.length : Int) + 1 ∧ C'.getD q.2.length 0 = 0) ∧ hfr [1, 2, 3, 4, 5, 6] h h_q)) := by
  obtain ⟨c0, tl, e, htl⟩ := cz_form h1 h2 h3 h4 h5 h6 hl
  subst e
  have ok : cz_ok y T tn tl := ⟨htl, n2, q0, q1.1, q1.2, q2⟩
  refine ik_F_mono (cz_text (c0 := c0) (fl := fl) (fb := fp) (pl := rpl) (cur := cu) ok n3 n4 n5 n6) (fun rv h_q r => ?_)
  cases hz : zall y tn with
  | inl e =>
    rw [hz] at r
    obtain ⟨r1, cur', pl', C', G', P', B', l1, l2, l3, l4, eh⟩ := r
    subst eh
    exact Or.inl ⟨e, cur', pl', C', G', P', B', r1, rfl, rfl, n2, rfl, l1, rfl, l2, rfl, l3, rfl, l4, rfl, cz_hfr⟩
  | inr q =>
    rw [hz] at r
    obtain ⟨r1, cur', C', G', P', B', l1, l2, l3, l4, eh, z1, z2, z3⟩ := r
    subst eh
    exact Or.inr ⟨q, cur', C', G', P', B', r1, rfl, rfl, n2, rfl, l1, rfl, l2, rfl, l3, rfl, l4, rfl, z1, z2, z3, cz_hfr⟩

theorem cp_feed {h : List ik_E} {tn : Int} {cu : Int} {fl : Int} {fp : Int} {rpl : Int} {T : List Int} {C : List Int} {G : List Int} {P : List Int} {B : List Int} {n : Int} {b : Int} (q0 : 0 ≤ tn ∧ tn ≤ 500) (q1 : -2147483648 ≤ n ∧ n < 2147483648) (h0 : cE h 0 (.inr (9, [.ref 1, .ref 7, .ref 14, .ref 17, .ref 45, .ref 51, .ref 54, .ref 57]))) (h1 : cE h 1 (.inr (6, [.ref 2, fI tn, fI cu, fI fl, fI fp, fI rpl, .ref 3, .ref 4, .ref 5, .ref 6]))) (h2 : cE h 2 (.inl (.byte, fA T))) (n2 : T.length = 500) (h3 : cE h 3 (.inl (.int, fA C))) (n3 : C.length = 12) (h4 : cE h 4 (.inl (.int, fA G))) (n4 : G.length = 48) (h5 : cE h 5 (.inl (.int, fA P))) (n5 : P.length = 48) (h6 : cE h 6 (.inl (.int, fA B))) (n6 : B.length = 48) (hl : h.length = 94) : ik_F 90 [.ref 0, fI n, fJ b] h (fun rv h_q => (rv = [fI (tn + n)] ∧ cE h_q 1 (.inr (6, [.ref 2, fI (tn + n), fI cu, fI fl, fI fp, fI rpl, .ref 3, .ref 4, .ref 5, .ref 6])) ∧ cE h_q 2 (.inl (.byte, fA (fd_w (fd_c (Int64.ofInt b)) n.toNat tn T))) ∧ (fd_w (fd_c (Int64.ofInt b)) n.toNat tn T).length = 500 ∧ cE h_q 3 (.inl (.int, fA C)) ∧ C.length = 12 ∧ cE h_q 4 (.inl (.int, fA G)) ∧ G.length = 48 ∧ cE h_q 5 (.inl (.int, fA P)) ∧ P.length = 48 ∧ cE h_q 6 (.inl (.int, fA B)) ∧ B.length = 48 ∧ (1 ≤ n ∧ n ≤ 8 ∧ tn + n ≤ 500) ∧ hfr [1, 2, 3, 4, 5, 6] h h_q) ∨ (rv = [fI (if 1 ≤ n ∧ n ≤ 8 then -1000000004 else -1000000002)] ∧ cE h_q 1 (.inr (6, [.ref 2, fI tn, fI cu, fI fl, fI fp, fI rpl, .ref 3, .ref 4, .ref 5, .ref 6])) ∧ cE h_q 2 (.inl (.byte, fA T)) ∧ T.length = 500 ∧ cE h_q 3 (.inl (.int, fA C)) ∧ C.length = 12 ∧ cE h_q 4 (.inl (.int, fA G)) ∧ G.length = 48 ∧ cE h_q 5 (.inl (.int, fA P)) ∧ P.length = 48 ∧ cE h_q 6 (.inl (.int, fA B)) ∧ B.length = 48 ∧ (¬ (1 ≤ n ∧ n ≤ 8 ∧ tn + n ≤ 500)) ∧ hfr [1, 2, 3, 4, 5, 6] h h_q)) := by
  obtain ⟨c0, tl, e, htl⟩ := cz_form h1 h2 h3 h4 h5 h6 hl
  subst e
  obtain rfl : c0 = .inr (9, [.ref 1, .ref 7, .ref 14, .ref 17, .ref 45, .ref 51, .ref 54, .ref 57]) := Option.some.inj h0
  refine ik_F_mono (cz_feed (cs := [.ref 7, .ref 14, .ref 17, .ref 45, .ref 51, .ref 54, .ref 57]) (m := n) (b := Int64.ofInt b) (cur := cu) (fl := fl) (fb := fp) (pl := rpl) (C := C) (G := G) (P := P) (B := B) htl n2 q0.1 q0.2 q1.1 q1.2) (fun rv h_q r => ?_)
  rcases r with ⟨a, r1, eh⟩ | ⟨a1, a2, a3, r1, eh⟩ | ⟨a1, a2, a3, r1, eh⟩
  · subst eh
    exact Or.inr ⟨by rw [r1, if_neg (by omega)], rfl, rfl, n2, rfl, n3, rfl, n4, rfl, n5, rfl, n6, by omega, cz_hfr⟩
  · subst eh
    exact Or.inr ⟨by rw [r1, if_pos (by omega)], rfl, rfl, n2, rfl, n3, rfl, n4, rfl, n5, rfl, n6, by omega, cz_hfr⟩
  · subst eh
    exact Or.inl ⟨r1, rfl, rfl, (fd_wl _ _ _ _).trans n2, rfl, n3, rfl, n4, rfl, n5, rfl, n6, ⟨a1, a2, a3⟩, cz_hfr⟩

theorem cr_takeAll {h : List ik_E} {f : Nat → Int} {tn : Int} {fp : Int} {sd : Int} {we : Int} {nu : Int} {na : Int} {ka : Int} {pa : Int} {fa : Int} {kb : Int} {pb : Int} {fb : Int} {xa : Int} {xb : Int} {cn : List Int} {go : List Int} {ch : List Int} {T : List Int} {M : List Int} {R : List Int} {O : List Int} {A : List Int} {y : Int → Int} (q0 : ∀ i : Int, (0 : Int) ≤ i → i < tn → 0 ≤ T.getD i.toNat 0 ∧ T.getD i.toNat 0 ≤ 255) (q1 : (0 : Int) ≤ tn ∧ tn ≤ (500 : Int)) (q2 : ∀ i : Int, (0 : Int) ≤ i → i < tn → y i = T.getD i.toNat 0) (h66 : cE h 66 (.inr (10, (fI (f 0) :: .ref 67 :: .ref 68 :: .ref 69 :: fI (f 4) :: .ref 70 :: .ref 71 :: fI (f 7) :: fI (f 8) :: .ref 72 :: fI tn :: fI fp :: fI 0 :: fJ sd :: fI we :: fI nu :: fI na :: fI 0 :: .ref 73 :: .ref 74 :: .ref 75 :: .ref 76 :: .ref 77 :: .ref 78 :: fI (f 24) :: .ref 79 :: .ref 80 :: .ref 81 :: .ref 82 :: .ref 83 :: .ref 84 :: .ref 85 :: fJ (f 32) :: fJ (f 33) :: .ref 86 :: .ref 87 :: fI (f 36) :: .ref 88 :: .ref 89 :: .ref 90 :: .ref 91 :: .ref 92 :: .ref 93 :: [])))) (h67 : cE h 67 (.inl (.int, fA cn))) (n67 : cn.length = (12 : Nat)) (h68 : cE h 68 (.inl (.int, fA go))) (n68 : go.length = (48 : Nat)) (h69 : cE h 69 (.inl (.int, fA ch))) (n69 : ch.length = (48 : Nat)) (h70 : cE h 70 (.inl (.int, fA [ka, pa, fa, kb, pb, fb]))) (h71 : cE h 71 (.inl (.int, fA [xa, xb]))) (h72 : cE h 72 (.inl (.int, fA T))) (n72 : T.length = (500 : Nat)) (h73 : cE h 73 (.inl (.int, fA M))) (n73 : M.length = (12 : Nat)) (h74 : cE h 74 (.inl (.int, fA R))) (n74 : R.length = (48 : Nat)) (h75 : cE h 75 (.inl (.int, fA O))) (n75 : O.length = (48 : Nat)) (h76 : cE h 76 (.inl (.int, fA A))) (n76 : A.length = (48 : Nat)) (hl : h.length = (94 : Nat)) : ik_F 145 [.ref 66] h (fun rv h_q => (∃ (e : Int × Int) (a0' : Int) (sd' : Int) (we' : Int) (nu' : Int) (na' : Int) (rp' : Int) (M' : List Int) (R' : List Int) (O' : List Int) (A' : List Int), rv = [fI e.1] ∧ cE h_q 66 (.inr (10, (fI (f 0) :: .ref 67 :: .ref 68 :: .ref 69 :: fI (f 4) :: .ref 70 :: .ref 71 :: fI (f 7) :: fI (f 8) :: .ref 72 :: fI tn :: fI e.2 :: fI a0' :: fJ sd' :: fI we' :: fI nu' :: fI na' :: fI rp' :: .ref 73 :: .ref 74 :: .ref 75 :: .ref 76 :: .ref 77 :: .ref 78 :: fI (f 24) :: .ref 79 :: .ref 80 :: .ref 81 :: .ref 82 :: .ref 83 :: .ref 84 :: .ref 85 :: fJ (f 32) :: fJ (f 33) :: .ref 86 :: .ref 87 :: fI (f 36) :: .ref 88 :: .ref 89 :: .ref 90 :: .ref 91 :: .ref 92 :: .ref 93 :: []))) ∧ cE h_q 72 (.inl (.int, fA T)) ∧ T.length = (500 : Nat) ∧ cE h_q 73 (.inl (.int, fA M')) ∧ M'.length = (12 : Nat) ∧ cE h_q 74 (.inl (.int, fA R')) ∧ R'.length = (48 : Nat) ∧ cE h_q 75 (.inl (.int, fA O')) ∧ O'.length = (48 : Nat) ∧ cE h_q 76 (.inl (.int, fA A')) ∧ A'.length = (48 : Nat) ∧ (zall y tn = .inl e) ∧ hfr [66, 72, 73, 74, 75, 76] h h_q) ∨ (∃ (q : Int × List (List zM)) (a0' : Int) (sd' : Int) (we' : Int) (nu' : Int) (na' : Int) (M' : List Int) (R' : List Int) (O' : List Int) (A' : List Int), rv = [fI 0] ∧ cE h_q 66 (.inr (10, (fI (f 0) :: .ref 67 :: .ref 68 :: .ref 69 :: fI (f 4) :: .ref 70 :: .ref 71 :: fI (f 7) :: fI (f 8) :: .ref 72 :: fI tn :: fI fp :: fI a0' :: fJ sd' :: fI we' :: fI nu' :: fI na' :: fI q.1 :: .ref 73 :: .ref 74 :: .ref 75 :: .ref 76 :: .ref 77 :: .ref 78 :: fI (f 24) :: .ref 79 :: .ref 80 :: .ref 81 :: .ref 82 :: .ref 83 :: .ref 84 :: .ref 85 :: fJ (f 32) :: fJ (f 33) :: .ref 86 :: .ref 87 :: fI (f 36) :: .ref 88 :: .ref 89 :: .ref 90 :: .ref 91 :: .ref 92 :: .ref 93 :: []))) ∧ cE h_q 72 (.inl (.int, fA T)) ∧ T.length = (500 : Nat) ∧ cE h_q 73 (.inl (.int, fA M')) ∧ M'.length = (12 : Nat) ∧ cE h_q 74 (.inl (.int, fA R')) ∧ R'.length = (48 : Nat) ∧ cE h_q 75 (.inl (.int, fA O')) ∧ O'.length = (48 : Nat) ∧ cE h_q 76 (.inl (.int, fA A')) ∧ A'.length = (48 : Nat) ∧ (zall y tn = .inr q) ∧ (zH M' R' O' A' q.2) ∧ (zrows q.2) ∧ (q.1 = 0 ∧ q.2 = [] ∨ q.1 = (q.2.length : Int) + 1) ∧ hfr [66, 72, 73, 74, 75, 76] h h_q)) := by
  obtain ⟨pre, tl, e, hp, htl⟩ := rz_form h66 h67 h68 h69 h70 h71 h72 h73 h74 h75 h76 hl
  subst e
  have ok : rz_ok y T tn pre tl := ⟨hp, htl, n72, q0, q1.1, q1.2, q2⟩
  refine ik_F_mono (rz_al (w := fun k => ([fI (f 0), .ref 67, .ref 68, .ref 69, fI (f 4), .ref 70, .ref 71, fI (f 7), fI (f 8)] : List Value).getD k (.ref 0)) (wt := [.ref 77, .ref 78, fI (f 24), .ref 79, .ref 80, .ref 81, .ref 82, .ref 83, .ref 84, .ref 85, fJ (f 32), fJ (f 33), .ref 86, .ref 87, fI (f 36), .ref 88, .ref 89, .ref 90, .ref 91, .ref 92, .ref 93]) (c := fun k => ([.inl (.int, fA cn), .inl (.int, fA go), .inl (.int, fA ch), .inl (.int, fA [ka, pa, fa, kb, pb, fb]), .inl (.int, fA [xa, xb])] : List ik_E).getD k (.inr (0, []))) (fp := fp) (sd := sd) (we := we) (nu := nu) (na := na) ok n73 n74 n75 n76) (fun rv h_q r => ?_)
  cases hz : zall y tn with
  | inl e =>
    rw [hz] at r
    obtain ⟨r1, _, _, a', sd', we', nu', na', rp', M', R', O', A', l1, l2, l3, l4, eh⟩ := r
    subst eh
    exact Or.inl ⟨e, a', sd', we', nu', na', rp', M', R', O', A', r1, rz_at hp 0, rz_at hp 6, n72, rz_at hp 7, l1, rz_at hp 8, l2, rz_at hp 9, l3, rz_at hp 10, l4, rfl, rz_hfr hp⟩
  | inr q =>
    rw [hz] at r
    obtain ⟨r1, a', sd', we', nu', na', M', R', O', A', l1, l2, l3, l4, eh, z1, z2, z3⟩ := r
    subst eh
    exact Or.inr ⟨q, a', sd', we', nu', na', M', R', O', A', r1, rz_at hp 0, rz_at hp 6, n72, rz_at hp 7, l1, rz_at hp 8, l2, rz_at hp 9, l3, rz_at hp 10, l4, rfl, z1, z2, z3, rz_hfr hp⟩

theorem rp_feed {h : List ik_E} {f : Nat → Int} {tn : Int} {fp : Int} {a0 : Int} {sd : Int} {we : Int} {nu : Int} {na : Int} {rp : Int} {ka : Int} {pa : Int} {fa : Int} {kb : Int} {pb : Int} {fb : Int} {xa : Int} {xb : Int} {cn : List Int} {go : List Int} {ch : List Int} {T : List Int} {M : List Int} {R : List Int} {O : List Int} {A : List Int} {n : Int} {b : Int} (q0 : 0 ≤ tn ∧ tn ≤ 500) (q1 : -2147483648 ≤ n ∧ n < 2147483648) (h66 : cE h 66 (.inr (10, (fI (f 0) :: .ref 67 :: .ref 68 :: .ref 69 :: fI (f 4) :: .ref 70 :: .ref 71 :: fI (f 7) :: fI (f 8) :: .ref 72 :: fI tn :: fI fp :: fI a0 :: fJ sd :: fI we :: fI nu :: fI na :: fI rp :: .ref 73 :: .ref 74 :: .ref 75 :: .ref 76 :: .ref 77 :: .ref 78 :: fI (f 24) :: .ref 79 :: .ref 80 :: .ref 81 :: .ref 82 :: .ref 83 :: .ref 84 :: .ref 85 :: fJ (f 32) :: fJ (f 33) :: .ref 86 :: .ref 87 :: fI (f 36) :: .ref 88 :: .ref 89 :: .ref 90 :: .ref 91 :: .ref 92 :: .ref 93 :: [])))) (h67 : cE h 67 (.inl (.int, fA cn))) (n67 : cn.length = 12) (h68 : cE h 68 (.inl (.int, fA go))) (n68 : go.length = 48) (h69 : cE h 69 (.inl (.int, fA ch))) (n69 : ch.length = 48) (h70 : cE h 70 (.inl (.int, fA [ka, pa, fa, kb, pb, fb]))) (h71 : cE h 71 (.inl (.int, fA [xa, xb]))) (h72 : cE h 72 (.inl (.int, fA T))) (n72 : T.length = 500) (h73 : cE h 73 (.inl (.int, fA M))) (n73 : M.length = 12) (h74 : cE h 74 (.inl (.int, fA R))) (n74 : R.length = 48) (h75 : cE h 75 (.inl (.int, fA O))) (n75 : O.length = 48) (h76 : cE h 76 (.inl (.int, fA A))) (n76 : A.length = 48) (hl : h.length = 94) : ik_F 135 [.ref 66, fI n, fJ b] h (fun rv h_q => (rv = [fI (tn + n)] ∧ cE h_q 66 (.inr (10, (fI (f 0) :: .ref 67 :: .ref 68 :: .ref 69 :: fI (f 4) :: .ref 70 :: .ref 71 :: fI (f 7) :: fI (f 8) :: .ref 72 :: fI (tn + n) :: fI fp :: fI a0 :: fJ sd :: fI we :: fI nu :: fI na :: fI rp :: .ref 73 :: .ref 74 :: .ref 75 :: .ref 76 :: .ref 77 :: .ref 78 :: fI (f 24) :: .ref 79 :: .ref 80 :: .ref 81 :: .ref 82 :: .ref 83 :: .ref 84 :: .ref 85 :: fJ (f 32) :: fJ (f 33) :: .ref 86 :: .ref 87 :: fI (f 36) :: .ref 88 :: .ref 89 :: .ref 90 :: .ref 91 :: .ref 92 :: .ref 93 :: []))) ∧ cE h_q 72 (.inl (.int, fA (fd_w (fd_r (Int64.ofInt b)) n.toNat tn T))) ∧ (fd_w (fd_r (Int64.ofInt b)) n.toNat tn T).length = 500 ∧ cE h_q 73 (.inl (.int, fA M)) ∧ M.length = 12 ∧ cE h_q 74 (.inl (.int, fA R)) ∧ R.length = 48 ∧ cE h_q 75 (.inl (.int, fA O)) ∧ O.length = 48 ∧ cE h_q 76 (.inl (.int, fA A)) ∧ A.length = 48 ∧ (1 ≤ n ∧ n ≤ 8 ∧ tn + n ≤ 500) ∧ hfr [66, 72, 73, 74, 75, 76] h h_q) ∨ (rv = [fI (if 1 ≤ n ∧ n ≤ 8 then -1000000004 else -1000000002)] ∧ cE h_q 66 (.inr (10, (fI (f 0) :: .ref 67 :: .ref 68 :: .ref 69 :: fI (f 4) :: .ref 70 :: .ref 71 :: fI (f 7) :: fI (f 8) :: .ref 72 :: fI tn :: fI fp :: fI a0 :: fJ sd :: fI we :: fI nu :: fI na :: fI rp :: .ref 73 :: .ref 74 :: .ref 75 :: .ref 76 :: .ref 77 :: .ref 78 :: fI (f 24) :: .ref 79 :: .ref 80 :: .ref 81 :: .ref 82 :: .ref 83 :: .ref 84 :: .ref 85 :: fJ (f 32) :: fJ (f 33) :: .ref 86 :: .ref 87 :: fI (f 36) :: .ref 88 :: .ref 89 :: .ref 90 :: .ref 91 :: .ref 92 :: .ref 93 :: []))) ∧ cE h_q 72 (.inl (.int, fA T)) ∧ T.length = 500 ∧ cE h_q 73 (.inl (.int, fA M)) ∧ M.length = 12 ∧ cE h_q 74 (.inl (.int, fA R)) ∧ R.length = 48 ∧ cE h_q 75 (.inl (.int, fA O)) ∧ O.length = 48 ∧ cE h_q 76 (.inl (.int, fA A)) ∧ A.length = 48 ∧ (¬ (1 ≤ n ∧ n ≤ 8 ∧ tn + n ≤ 500)) ∧ hfr [66, 72, 73, 74, 75, 76] h h_q)) := by
  obtain ⟨pre, tl, e, hp, htl⟩ := rz_form h66 h67 h68 h69 h70 h71 h72 h73 h74 h75 h76 hl
  subst e
  refine ik_F_mono (rz_feed (w := fun k => ([fI (f 0), .ref 67, .ref 68, .ref 69, fI (f 4), .ref 70, .ref 71, fI (f 7), fI (f 8)] : List Value).getD k (.ref 0)) (wt := [.ref 77, .ref 78, fI (f 24), .ref 79, .ref 80, .ref 81, .ref 82, .ref 83, .ref 84, .ref 85, fJ (f 32), fJ (f 33), .ref 86, .ref 87, fI (f 36), .ref 88, .ref 89, .ref 90, .ref 91, .ref 92, .ref 93]) (c := fun k => ([.inl (.int, fA cn), .inl (.int, fA go), .inl (.int, fA ch), .inl (.int, fA [ka, pa, fa, kb, pb, fb]), .inl (.int, fA [xa, xb])] : List ik_E).getD k (.inr (0, []))) (m := n) (b := Int64.ofInt b) (fp := fp) (a0 := a0) (sd := sd) (we := we) (nu := nu) (na := na) (rp := rp) (M := M) (R := R) (O := O) (A := A) hp htl n72 q0.1 q0.2 q1.1 q1.2) (fun rv h_q r => ?_)
  rcases r with ⟨a, r1, eh⟩ | ⟨a1, a2, a3, r1, eh⟩ | ⟨a1, a2, a3, r1, eh⟩
  · subst eh
    exact Or.inr ⟨by rw [r1, if_neg (by omega)], rz_at hp 0, rz_at hp 6, n72, rz_at hp 7, n73, rz_at hp 8, n74, rz_at hp 9, n75, rz_at hp 10, n76, by omega, rz_hfr hp⟩
  · subst eh
    exact Or.inr ⟨by rw [r1, if_pos (by omega)], rz_at hp 0, rz_at hp 6, n72, rz_at hp 7, n73, rz_at hp 8, n74, rz_at hp 9, n75, rz_at hp 10, n76, by omega, rz_hfr hp⟩
  · subst eh
    exact Or.inl ⟨r1, rz_at hp 0, rz_at hp 6, (fd_wl _ _ _ _).trans n72, rz_at hp 7, n73, rz_at hp 8, n74, rz_at hp 9, n75, rz_at hp 10, n76, ⟨a1, a2, a3⟩, rz_hfr hp⟩

end

/-! 38zx.stream -/
noncomputable section
/-! a stream taken over (written by wip/fx/u23.py) -/
theorem zq_pl {q : Int × List (List zM)} (h1 : zrows q.2) (h2 : q.1 = 0 ∧ q.2 = [] ∨ q.1 = (q.2.length : Int) + 1) : 0 ≤ q.1 ∧ q.1 ≤ 12 := by
  have := h1.1
  rcases h2 with w | w <;> omega
theorem zq_c {q : Int × List (List zM)} {C : List Int} (h2 : q.1 = 0 ∧ q.2 = [] ∨ q.1 = (q.2.length : Int) + 1 ∧ C.getD q.2.length 0 = 0) (h : 1 ≤ q.1) : C.getD (q.1 - 1).toNat 0 = 0 := by
  rcases h2 with w | w
  · omega
  · rw [show (q.1 - 1).toNat = q.2.length by omega]; exact w.2
theorem mj_gs_G {cn go ch : List Int} {x : Nat} {pl : Int} (hp : (x : Int) < pl - 1) (hr : mx_rw pl cn go ch) : mj_gs (mx_w cn go ch 0 (x : Nat)) = mj_GG cn go x := by
  have r := (hr (x : Nat) (by omega) hp).1
  rw [Int.toNat_natCast] at r
  have e : mx_w cn go ch 0 (x : Nat) = mx_wr go ch 0 (x : Nat) (cn.getD x 0).toNat := by
    have g0 : mx_g ch 0 (x : Nat) = 0 := by unfold mx_g; rw [Nat.zero_testBit]; rfl
    unfold mx_w
    rw [g0]
    rfl
  rw [e]
  unfold mj_gs mj_GG
  have el : (mx_wr go ch 0 (x : Nat) (cn.getD x 0).toNat).length = (cn.getD x 0).toNat := by
    unfold mx_wr
    rw [List.length_map, List.length_range]
  rw [el]
  have key : ∀ j, j ≤ (cn.getD x 0).toNat → mj_gj (mx_wr go ch 0 (x : Nat) (cn.getD x 0).toNat) j = mj_G cn go x j := by
    intro j
    induction j with
    | zero => intro _; rfl
    | succ j ih =>
      intro h
      show mj_gj _ j ||| 1 <<< ((mx_wr go ch 0 (x : Nat) (cn.getD x 0).toNat).getD j ((0 : Int), (0 : Int))).1.toNat = mj_G cn go x j ||| 1 <<< (go.getD (4 * x + j) 0).toNat
      rw [ih (by omega)]
      have e2 : ((mx_wr go ch 0 (x : Nat) (cn.getD x 0).toNat).getD j (0, 0)).1 = go.getD (4 * x + j) 0 := by
        unfold mx_wr
        rw [List.getD_eq_getElem?_getD, List.getElem?_map, List.getElem?_range (by omega)]
        show go.getD (4 * ((x : Nat) : Int) + (j : Nat)).toNat 0 = _
        rw [show (4 * ((x : Nat) : Int) + (j : Nat)).toNat = 4 * x + j by omega]
      rw [e2]
  exact key _ (Nat.le_refl _)
theorem mj_rd_c {G G' : Nat → Nat} {x : Nat} : ∀ p, (∀ i, i < p → G' i = G i) → mj_rd G' p x = mj_rd G p x := by
  intro p
  induction p with
  | zero => intro _; rfl
  | succ p ih =>
    intro h
    show mj_sp G' (mj_rd G' p x) p = mj_sp G (mj_rd G p x) p
    rw [ih (fun i hi => h i (by omega))]
    unfold mj_sp
    rw [h p (by omega)]
theorem mj_rn_c {G G' : Nat → Nat} {br x : Nat} (h : ∀ i, i < br → G' i = G i) : ∀ n, mj_rn G' br n x = mj_rn G br n x := by
  intro n
  induction n with
  | zero => rfl
  | succ n ih => show mj_rd G' br (mj_rn G' br n x) = mj_rd G br (mj_rn G br n x); rw [ih, mj_rd_c br h]
theorem mj_lg_c {G G' : Nat → Nat} {pl : Int} (h : ∀ i : Nat, (i : Int) < pl - 1 → G' i = G i) : mj_lg pl G' = mj_lg pl G := by
  unfold mj_lg
  rw [mj_rn_c (G := G) (G' := G') (fun i hi => h i (by omega))]
theorem mj_lg_w {cn go ch : List Int} {pl : Int} (hr : mx_rw pl cn go ch) : mj_lg pl (fun p => mj_gs ((fun x => mx_w cn go ch 0 x) (p : Nat))) = mj_lost pl cn go := by
  rw [mj_lost_lg]
  exact mj_lg_c fun i hi => mj_gs_G hi hr
theorem mj_lost_al {pl : Int} {cn go ch cn' go' ch' : List Int} (hr : mx_rw pl cn go ch) (h : mx_al pl cn go ch cn' go' ch') : mj_lost pl cn' go' = mj_lost pl cn go := by
  rw [mj_lost_lg, mj_lost_lg]
  refine mj_lg_c fun i hi => ?_
  have a := h (i : Nat) (by omega) hi
  have r := (hr (i : Nat) (by omega) hi).1
  rw [Int.toNat_natCast] at a r
  unfold mj_GG
  rw [a.1]
  have key : ∀ j, j ≤ (cn.getD i 0).toNat → mj_G cn' go' i j = mj_G cn go i j := by
    intro j
    induction j with
    | zero => intro _; rfl
    | succ j ih =>
      intro hj
      show mj_G cn' go' i j ||| 1 <<< (go'.getD (4 * i + j) 0).toNat = mj_G cn go i j ||| 1 <<< (go.getD (4 * i + j) 0).toNat
      rw [ih (by omega)]
      have z := (a.2 (j : Nat) (by omega) (by omega)).1
      rw [show (4 * ((i : Nat) : Int) + (j : Nat)).toNat = 4 * i + j by omega] at z
      rw [z]
  exact key _ (Nat.le_refl _)
theorem cp_stream {h : List ik_E} {tn : Int} {cu : Int} {fl : Int} {fp : Int} {rpl : Int} {T : List Int} {C : List Int} {G : List Int} {P : List Int} {B : List Int} {y : Int → Int} {pl : Int} {st : Int} {lo : Int} {mi : Int} {dr : Int} {r : Int} {n0 : Int} {n1 : Int} {ka : Int} {pa : Int} {fa : Int} {kb : Int} {pb : Int} {fb : Int} {xa : Int} {xb : Int} {cn : List Int} {go : List Int} {ch : List Int} {wg : List Int} {wc : List Int} {we : List Int} {ta0 : Int} {tm0 : Int} {td0 : Int} {ts0 : Int} {ta1 : Int} {tm1 : Int} {td1 : Int} {ts1 : Int} (q0 : ∀ i : Int, (0 : Int) ≤ i → i < tn → -128 ≤ T.getD i.toNat 0 ∧ T.getD i.toNat 0 ≤ 127) (q1 : (0 : Int) ≤ tn ∧ tn ≤ (500 : Int)) (q2 : ∀ i : Int, (0 : Int) ≤ i → i < tn → y i = T.getD i.toNat 0 % 256) (h0 : cE h 0 (.inr (9, [.ref 1, .ref 7, .ref 14, .ref 17, .ref 45, .ref 51, .ref 54, .ref 57]))) (h1 : cE h 1 (.inr (6, [.ref 2, fI tn, fI cu, fI fl, fI fp, fI rpl, .ref 3, .ref 4, .ref 5, .ref 6]))) (h2 : cE h 2 (.inl (.byte, fA T))) (n2 : T.length = (500 : Nat)) (h3 : cE h 3 (.inl (.int, fA C))) (n3 : C.length = (12 : Nat)) (h4 : cE h 4 (.inl (.int, fA G))) (n4 : G.length = (48 : Nat)) (h5 : cE h 5 (.inl (.int, fA P))) (n5 : P.length = (48 : Nat)) (h6 : cE h 6 (.inl (.int, fA B))) (n6 : B.length = (48 : Nat)) (h7 : cE h 7 (.inr (0, [fI pl, fI st, fI lo, .ref 8, .ref 9, .ref 10, .ref 11, .ref 12, .ref 13]))) (h8 : cE h 8 (.inl (.int, fA cn))) (n8 : cn.length = (12 : Nat)) (h9 : cE h 9 (.inl (.int, fA go))) (n9 : go.length = (48 : Nat)) (h10 : cE h 10 (.inl (.int, fA ch))) (n10 : ch.length = (48 : Nat)) (h11 : cE h 11 (.inl (.int, fA wg))) (n11 : wg.length = (60 : Nat)) (h12 : cE h 12 (.inl (.int, fA wc))) (n12 : wc.length = (60 : Nat)) (h13 : cE h 13 (.inl (.int, fA we))) (n13 : we.length = (12 : Nat)) (h14 : cE h 14 (.inr (1, [.ref 7, .ref 15, .ref 16, fI mi, fJ dr]))) (h15 : cE h 15 (.inl (.int, fA [ka, pa, fa, kb, pb, fb]))) (h16 : cE h 16 (.inl (.int, fA [xa, xb]))) (h51 : cE h 51 (.inr (7, [.ref 7, fI r, .ref 52, .ref 53]))) (h54 : cE h 54 (.inr (4, [.ref 55, .ref 56]))) (h56 : cE h 56 (.inl (.int, fA [n0, n1]))) (h57 : cE h 57 (.inl (.object "SlowerCork$Image", [.ref 58, .ref 62]))) (h58 : cE h 58 (.inr (3, [fI ta0, .ref 59, .ref 60, fI tm0, fJ td0, fI ts0, .ref 61]))) (h62 : cE h 62 (.inr (3, [fI ta1, .ref 63, .ref 64, fI tm1, fJ td1, fI ts1, .ref 65]))) (hl : h.length = (94 : Nat)) : ik_F 91 [.ref 0] h (fun rv h_q => (∃ (e : Int × Int) (cu' : Int) (rpl' : Int) (C' : List Int) (G' : List Int) (P' : List Int) (B' : List Int), rv = [fI (-10 - e.1)] ∧ cE h_q 1 (.inr (6, [.ref 2, fI 0, fI cu', fI e.1, fI e.2, fI rpl', .ref 3, .ref 4, .ref 5, .ref 6])) ∧ cE h_q 2 (.inl (.byte, fA T)) ∧ T.length = (500 : Nat) ∧ cE h_q 3 (.inl (.int, fA C')) ∧ C'.length = (12 : Nat) ∧ cE h_q 4 (.inl (.int, fA G')) ∧ G'.length = (48 : Nat) ∧ cE h_q 5 (.inl (.int, fA P')) ∧ P'.length = (48 : Nat) ∧ cE h_q 6 (.inl (.int, fA B')) ∧ B'.length = (48 : Nat) ∧ cE h_q 7 (.inr (0, [fI pl, fI st, fI lo, .ref 8, .ref 9, .ref 10, .ref 11, .ref 12, .ref 13])) ∧ cE h_q 8 (.inl (.int, fA cn)) ∧ cn.length = (12 : Nat) ∧ cE h_q 9 (.inl (.int, fA go)) ∧ go.length = (48 : Nat) ∧ cE h_q 10 (.inl (.int, fA ch)) ∧ ch.length = (48 : Nat) ∧ cE h_q 11 (.inl (.int, fA wg)) ∧ wg.length = (60 : Nat) ∧ cE h_q 12 (.inl (.int, fA wc)) ∧ wc.length = (60 : Nat) ∧ cE h_q 13 (.inl (.int, fA we)) ∧ we.length = (12 : Nat) ∧ cE h_q 14 (.inr (1, [.ref 7, .ref 15, .ref 16, fI mi, fJ dr])) ∧ cE h_q 15 (.inl (.int, fA [ka, pa, fa, kb, pb, fb])) ∧ cE h_q 16 (.inl (.int, fA [xa, xb])) ∧ cE h_q 51 (.inr (7, [.ref 7, fI r, .ref 52, .ref 53])) ∧ cE h_q 56 (.inl (.int, fA [n0, n1])) ∧ cE h_q 58 (.inr (3, [fI ta0, .ref 59, .ref 60, fI tm0, fJ td0, fI ts0, .ref 61])) ∧ cE h_q 62 (.inr (3, [fI ta1, .ref 63, .ref 64, fI tm1, fJ td1, fI ts1, .ref 65])) ∧ (zall y tn = .inl e) ∧ hfr [1, 2, 3, 4, 5, 6, 7, 8, 9, 10, 11, 12, 13, 14, 15, 16, 51, 56, 58, 62] h h_q) ∨ (∃ (q : Int × List (List zM)) (cu' : Int) (C' : List Int) (G' : List Int) (P' : List Int) (B' : List Int) (wg' : List Int) (wc' : List Int) (we' : List Int), rv = [fI q.1] ∧ cE h_q 1 (.inr (6, [.ref 2, fI 0, fI cu', fI 0, fI (-1), fI q.1, .ref 3, .ref 4, .ref 5, .ref 6])) ∧ cE h_q 2 (.inl (.byte, fA T)) ∧ T.length = (500 : Nat) ∧ cE h_q 3 (.inl (.int, fA C')) ∧ C'.length = (12 : Nat) ∧ cE h_q 4 (.inl (.int, fA G')) ∧ G'.length = (48 : Nat) ∧ cE h_q 5 (.inl (.int, fA P')) ∧ P'.length = (48 : Nat) ∧ cE h_q 6 (.inl (.int, fA B')) ∧ B'.length = (48 : Nat) ∧ cE h_q 7 (.inr (0, [fI q.1, fI 0, fI ((mj_lost q.1 C' G' : Nat) : Int), .ref 8, .ref 9, .ref 10, .ref 11, .ref 12, .ref 13])) ∧ cE h_q 8 (.inl (.int, fA C')) ∧ C'.length = (12 : Nat) ∧ cE h_q 9 (.inl (.int, fA G')) ∧ G'.length = (48 : Nat) ∧ cE h_q 10 (.inl (.int, fA P')) ∧ P'.length = (48 : Nat) ∧ cE h_q 11 (.inl (.int, fA wg')) ∧ wg'.length = (60 : Nat) ∧ cE h_q 12 (.inl (.int, fA wc')) ∧ wc'.length = (60 : Nat) ∧ cE h_q 13 (.inl (.int, fA we')) ∧ we'.length = (12 : Nat) ∧ cE h_q 14 (.inr (1, [.ref 7, .ref 15, .ref 16, fI 0, fJ dr])) ∧ cE h_q 15 (.inl (.int, fA [0, 0, 0, 0, 0, 0])) ∧ cE h_q 16 (.inl (.int, fA [0, 0])) ∧ cE h_q 51 (.inr (7, [.ref 7, fI 0, .ref 52, .ref 53])) ∧ cE h_q 56 (.inl (.int, fA [0, 0])) ∧ cE h_q 58 (.inr (3, [fI 0, .ref 59, .ref 60, fI tm0, fJ td0, fI ts0, .ref 61])) ∧ cE h_q 62 (.inr (3, [fI 0, .ref 63, .ref 64, fI tm1, fJ td1, fI ts1, .ref 65])) ∧ (zall y tn = .inr q) ∧ (zH C' G' P' B' q.2) ∧ (zrows q.2) ∧ (q.1 = 0 ∧ q.2 = [] ∨ q.1 = (q.2.length : Int) + 1 ∧ C'.getD q.2.length 0 = 0) ∧ (∀ x : Int, (0 : Int) ≤ x → x < q.1 - 1 → mx_wy wg' wc' we' x (mx_w C' G' P' 0 x)) ∧ hfr [1, 2, 3, 4, 5, 6, 7, 8, 9, 10, 11, 12, 13, 14, 15, 16, 51, 56, 58, 62] h h_q)) := by
  refine ik_Wk 1 (pc_q := 1) (loc_q := [some (.ref 0), none, none]) (st_q := [.ref 0]) (h_q := h) (cl_q := 0) (sl_q := 0) rfl ?_
  refine fw_gf rfl rfl h0 rfl ?_
  refine fw_call 56 1 0 [.ref 1] [] rfl rfl rfl (Nat.le_of_ble_eq_true rfl) rfl rfl (fw_rec hl rfl h1 rfl (Nat.le_of_ble_eq_true rfl)) (cs_readText (tn := tn) (cu := cu) (fl := fl) (fp := fp) (rpl := rpl) (T := T) (C := C) (G := G) (P := P) (B := B) q0 (by omega) q2 h1 h2 n2 h3 n3 h4 n4 h5 n5 h6 n6 hl) ?_
  rintro _ h_588 (⟨e_588, cu'_588, rpl'_588, C'_588, G'_588, P'_588, B'_588, rfl, e_588_1, e_588_2, m_588_2, e_588_3, m_588_3, e_588_4, m_588_4, e_588_5, m_588_5, e_588_6, m_588_6, p_588_0, F_588⟩ | ⟨q_588, cu'_588, C'_588, G'_588, P'_588, B'_588, rfl, e_588_1, e_588_2, m_588_2, e_588_3, m_588_3, e_588_4, m_588_4, e_588_5, m_588_5, e_588_6, m_588_6, p_588_0, p_588_1, p_588_2, p_588_3, F_588⟩)
  · have k_588 : cL h_588 := F_588.1.trans hl
    have fr_588 := hfr_cb (hfr_refl [1, 2, 3, 4, 5, 6, 7, 8, 9, 10, 11, 12, 13, 14, 15, 16, 51, 56, 58, 62] h) F_588 rfl
    have g_588_0 := (hfr_g F_588 0 rfl).trans h0
    have g_588_7 := (hfr_g F_588 7 rfl).trans h7
    have g_588_8 := (hfr_g F_588 8 rfl).trans h8
    have g_588_9 := (hfr_g F_588 9 rfl).trans h9
    have g_588_10 := (hfr_g F_588 10 rfl).trans h10
    have g_588_11 := (hfr_g F_588 11 rfl).trans h11
    have g_588_12 := (hfr_g F_588 12 rfl).trans h12
    have g_588_13 := (hfr_g F_588 13 rfl).trans h13
    have g_588_14 := (hfr_g F_588 14 rfl).trans h14
    have g_588_15 := (hfr_g F_588 15 rfl).trans h15
    have g_588_16 := (hfr_g F_588 16 rfl).trans h16
    have g_588_51 := (hfr_g F_588 51 rfl).trans h51
    have g_588_54 := (hfr_g F_588 54 rfl).trans h54
    have g_588_56 := (hfr_g F_588 56 rfl).trans h56
    have g_588_57 := (hfr_g F_588 57 rfl).trans h57
    have g_588_58 := (hfr_g F_588 58 rfl).trans h58
    have g_588_62 := (hfr_g F_588 62 rfl).trans h62
    have g_588_1 : cE h_588 1 (.inr (6, [.ref 2, fI 0, fI cu'_588, fI e_588.1, fI e_588.2, fI rpl'_588, .ref 3, .ref 4, .ref 5, .ref 6])) := e_588_1
    have g_588_2 : cE h_588 2 (.inl (.byte, fA T)) := e_588_2
    have g_588_3 : cE h_588 3 (.inl (.int, fA C'_588)) := e_588_3
    have g_588_4 : cE h_588 4 (.inl (.int, fA G'_588)) := e_588_4
    have g_588_5 : cE h_588 5 (.inl (.int, fA P'_588)) := e_588_5
    have g_588_6 : cE h_588 6 (.inl (.int, fA B'_588)) := e_588_6
    refine ik_Wk 0 (pc_q := 7) (loc_q := [some (.ref 0), none, none]) (st_q := [fI e_588.1]) (h_q := h_588) (cl_q := 0) (sl_q := 0) rfl ?_
    have ze_588 := zall_f q1.1 q1.2 p_588_0
    have zb_588 := zall_b q1.1 q1.2 p_588_0
    refine ik_Wk 2 (pc_q := 9) (loc_q := [some (.ref 0), some (fI e_588.1), none]) (st_q := [fI e_588.1]) (h_q := h_588) (cl_q := 0) (sl_q := 0) rfl ?_
    refine fw_if_eq rfl rfl (by omega) (by omega) (fun hc1 => absurd hc1 (by omega)) (fun hc1 => ?_)
    refine fw_bi rfl (by decide +kernel) ?_
    refine ik_Wk 1 (pc_q := 15) (loc_q := [some (.ref 0), some (fI e_588.1), none]) (st_q := [fI e_588.1, fI (-10)]) (h_q := h_588) (cl_q := 0) (sl_q := 0) rfl ?_
    refine fw_sub rfl ?_
    exact ik_Wret rfl rfl ⟨_, _, rfl, rfl, rfl, rfl, Or.inl ⟨e_588, cu'_588, rpl'_588, C'_588, G'_588, P'_588, B'_588, rfl, g_588_1, g_588_2, m_588_2, g_588_3, m_588_3, g_588_4, m_588_4, g_588_5, m_588_5, g_588_6, m_588_6, g_588_7, g_588_8, n8, g_588_9, n9, g_588_10, n10, g_588_11, n11, g_588_12, n12, g_588_13, n13, g_588_14, g_588_15, g_588_16, g_588_51, g_588_56, g_588_58, g_588_62, p_588_0, fr_588⟩⟩
  · have k_588 : cL h_588 := F_588.1.trans hl
    have fr_588 := hfr_cb (hfr_refl [1, 2, 3, 4, 5, 6, 7, 8, 9, 10, 11, 12, 13, 14, 15, 16, 51, 56, 58, 62] h) F_588 rfl
    have g_588_0 := (hfr_g F_588 0 rfl).trans h0
    have g_588_7 := (hfr_g F_588 7 rfl).trans h7
    have g_588_8 := (hfr_g F_588 8 rfl).trans h8
    have g_588_9 := (hfr_g F_588 9 rfl).trans h9
    have g_588_10 := (hfr_g F_588 10 rfl).trans h10
    have g_588_11 := (hfr_g F_588 11 rfl).trans h11
    have g_588_12 := (hfr_g F_588 12 rfl).trans h12
    have g_588_13 := (hfr_g F_588 13 rfl).trans h13
    have g_588_14 := (hfr_g F_588 14 rfl).trans h14
    have g_588_15 := (hfr_g F_588 15 rfl).trans h15
    have g_588_16 := (hfr_g F_588 16 rfl).trans h16
    have g_588_51 := (hfr_g F_588 51 rfl).trans h51
    have g_588_54 := (hfr_g F_588 54 rfl).trans h54
    have g_588_56 := (hfr_g F_588 56 rfl).trans h56
    have g_588_57 := (hfr_g F_588 57 rfl).trans h57
    have g_588_58 := (hfr_g F_588 58 rfl).trans h58
    have g_588_62 := (hfr_g F_588 62 rfl).trans h62
    have g_588_1 : cE h_588 1 (.inr (6, [.ref 2, fI 0, fI cu'_588, fI 0, fI (-1), fI q_588.1, .ref 3, .ref 4, .ref 5, .ref 6])) := e_588_1
    have g_588_2 : cE h_588 2 (.inl (.byte, fA T)) := e_588_2
    have g_588_3 : cE h_588 3 (.inl (.int, fA C'_588)) := e_588_3
    have g_588_4 : cE h_588 4 (.inl (.int, fA G'_588)) := e_588_4
    have g_588_5 : cE h_588 5 (.inl (.int, fA P'_588)) := e_588_5
    have g_588_6 : cE h_588 6 (.inl (.int, fA B'_588)) := e_588_6
    refine ik_Wk 0 (pc_q := 7) (loc_q := [some (.ref 0), none, none]) (st_q := [fI 0]) (h_q := h_588) (cl_q := 0) (sl_q := 0) rfl ?_
    have hq_588 := zq_pl p_588_2 (p_588_3.imp (fun w => w) (fun w => w.1))
    have hw_588 := mx_rw_z p_588_0 p_588_2 p_588_1
    refine ik_Wk 2 (pc_q := 9) (loc_q := [some (.ref 0), some (fI 0), none]) (st_q := [fI 0]) (h_q := h_588) (cl_q := 0) (sl_q := 0) rfl ?_
    refine fw_if_eq rfl rfl (by decide +kernel) (by decide +kernel) (fun hc2 => ?_) (fun hc2 => absurd hc2 (by decide +kernel))
    refine ik_Wk 1 (pc_q := 18) (loc_q := [some (.ref 0), some (fI 0), none]) (st_q := [.ref 0]) (h_q := h_588) (cl_q := 0) (sl_q := 0) rfl ?_
    refine fw_gf rfl rfl g_588_0 rfl ?_
    refine ik_Wk 1 (pc_q := 22) (loc_q := [some (.ref 0), some (fI 0), none]) (st_q := [.ref 0, .ref 7]) (h_q := h_588) (cl_q := 0) (sl_q := 0) rfl ?_
    refine fw_gf rfl rfl g_588_0 rfl ?_
    refine ik_Wc 8 2 0 [.ref 7, .ref 1] [] rfl rfl rfl (by decide +kernel) rfl rfl (fw_rec k_588 rfl g_588_7 rfl (Nat.le_of_ble_eq_true rfl)) ?_
    refine ik_Wk 0 (pc_q := 0) (loc_q := [some (.ref 7), some (.ref 1)]) (st_q := []) (h_q := h_588) (cl_q := 0) (sl_q := 0) rfl ?_
    refine ik_Wk 2 (pc_q := 2) (loc_q := [some (.ref 7), some (.ref 1)]) (st_q := [.ref 1, .ref 7]) (h_q := h_588) (cl_q := 0) (sl_q := 0) rfl ?_
    refine fw_gf rfl rfl g_588_1 rfl ?_
    refine fx_pf rfl rfl g_588_7 (Nat.le_of_ble_eq_true rfl) rfl rfl ?_
    intro h_589 e_589 f_589 l_589
    have k_589 : cL h_589 := l_589.trans k_588
    have fr_589 := hfr_wb fr_588 f_589 l_589 rfl
    clear l_589
    have g_589_0 := (f_589 0 (Nat.ne_of_beq_eq_false rfl)).trans g_588_0
    have g_589_1 := (f_589 1 (Nat.ne_of_beq_eq_false rfl)).trans g_588_1
    have g_589_2 := (f_589 2 (Nat.ne_of_beq_eq_false rfl)).trans g_588_2
    have g_589_3 := (f_589 3 (Nat.ne_of_beq_eq_false rfl)).trans g_588_3
    have g_589_4 := (f_589 4 (Nat.ne_of_beq_eq_false rfl)).trans g_588_4
    have g_589_5 := (f_589 5 (Nat.ne_of_beq_eq_false rfl)).trans g_588_5
    have g_589_6 := (f_589 6 (Nat.ne_of_beq_eq_false rfl)).trans g_588_6
    have g_589_8 := (f_589 8 (Nat.ne_of_beq_eq_false rfl)).trans g_588_8
    have g_589_9 := (f_589 9 (Nat.ne_of_beq_eq_false rfl)).trans g_588_9
    have g_589_10 := (f_589 10 (Nat.ne_of_beq_eq_false rfl)).trans g_588_10
    have g_589_11 := (f_589 11 (Nat.ne_of_beq_eq_false rfl)).trans g_588_11
    have g_589_12 := (f_589 12 (Nat.ne_of_beq_eq_false rfl)).trans g_588_12
    have g_589_13 := (f_589 13 (Nat.ne_of_beq_eq_false rfl)).trans g_588_13
    have g_589_14 := (f_589 14 (Nat.ne_of_beq_eq_false rfl)).trans g_588_14
    have g_589_15 := (f_589 15 (Nat.ne_of_beq_eq_false rfl)).trans g_588_15
    have g_589_16 := (f_589 16 (Nat.ne_of_beq_eq_false rfl)).trans g_588_16
    have g_589_51 := (f_589 51 (Nat.ne_of_beq_eq_false rfl)).trans g_588_51
    have g_589_54 := (f_589 54 (Nat.ne_of_beq_eq_false rfl)).trans g_588_54
    have g_589_56 := (f_589 56 (Nat.ne_of_beq_eq_false rfl)).trans g_588_56
    have g_589_57 := (f_589 57 (Nat.ne_of_beq_eq_false rfl)).trans g_588_57
    have g_589_58 := (f_589 58 (Nat.ne_of_beq_eq_false rfl)).trans g_588_58
    have g_589_62 := (f_589 62 (Nat.ne_of_beq_eq_false rfl)).trans g_588_62
    have g_589_7 : cE h_589 7 (.inr (0, [fI q_588.1, fI st, fI lo, .ref 8, .ref 9, .ref 10, .ref 11, .ref 12, .ref 13])) := e_589
    refine ik_Wk 2 (pc_q := 10) (loc_q := [some (.ref 7), some (.ref 1)]) (st_q := [fI 0, .ref 7]) (h_q := h_589) (cl_q := 0) (sl_q := 0) rfl ?_
    refine fx_pf rfl rfl g_589_7 (Nat.le_of_ble_eq_true rfl) rfl rfl ?_
    intro h_590 e_590 f_590 l_590
    have k_590 : cL h_590 := l_590.trans k_589
    have fr_590 := hfr_wb fr_589 f_590 l_590 rfl
    clear l_590
    have g_590_0 := (f_590 0 (Nat.ne_of_beq_eq_false rfl)).trans g_589_0
    have g_590_1 := (f_590 1 (Nat.ne_of_beq_eq_false rfl)).trans g_589_1
    have g_590_2 := (f_590 2 (Nat.ne_of_beq_eq_false rfl)).trans g_589_2
    have g_590_3 := (f_590 3 (Nat.ne_of_beq_eq_false rfl)).trans g_589_3
    have g_590_4 := (f_590 4 (Nat.ne_of_beq_eq_false rfl)).trans g_589_4
    have g_590_5 := (f_590 5 (Nat.ne_of_beq_eq_false rfl)).trans g_589_5
    have g_590_6 := (f_590 6 (Nat.ne_of_beq_eq_false rfl)).trans g_589_6
    have g_590_8 := (f_590 8 (Nat.ne_of_beq_eq_false rfl)).trans g_589_8
    have g_590_9 := (f_590 9 (Nat.ne_of_beq_eq_false rfl)).trans g_589_9
    have g_590_10 := (f_590 10 (Nat.ne_of_beq_eq_false rfl)).trans g_589_10
    have g_590_11 := (f_590 11 (Nat.ne_of_beq_eq_false rfl)).trans g_589_11
    have g_590_12 := (f_590 12 (Nat.ne_of_beq_eq_false rfl)).trans g_589_12
    have g_590_13 := (f_590 13 (Nat.ne_of_beq_eq_false rfl)).trans g_589_13
    have g_590_14 := (f_590 14 (Nat.ne_of_beq_eq_false rfl)).trans g_589_14
    have g_590_15 := (f_590 15 (Nat.ne_of_beq_eq_false rfl)).trans g_589_15
    have g_590_16 := (f_590 16 (Nat.ne_of_beq_eq_false rfl)).trans g_589_16
    have g_590_51 := (f_590 51 (Nat.ne_of_beq_eq_false rfl)).trans g_589_51
    have g_590_54 := (f_590 54 (Nat.ne_of_beq_eq_false rfl)).trans g_589_54
    have g_590_56 := (f_590 56 (Nat.ne_of_beq_eq_false rfl)).trans g_589_56
    have g_590_57 := (f_590 57 (Nat.ne_of_beq_eq_false rfl)).trans g_589_57
    have g_590_58 := (f_590 58 (Nat.ne_of_beq_eq_false rfl)).trans g_589_58
    have g_590_62 := (f_590 62 (Nat.ne_of_beq_eq_false rfl)).trans g_589_62
    have g_590_7 : cE h_590 7 (.inr (0, [fI q_588.1, fI 0, fI lo, .ref 8, .ref 9, .ref 10, .ref 11, .ref 12, .ref 13])) := e_590
    refine ik_Wk 1 (pc_q := 14) (loc_q := [some (.ref 7), some (.ref 1)]) (st_q := [.ref 1]) (h_q := h_590) (cl_q := 0) (sl_q := 0) rfl ?_
    refine fw_gf rfl rfl g_590_1 rfl ?_
    refine ik_Wk 2 (pc_q := 19) (loc_q := [some (.ref 7), some (.ref 1)]) (st_q := [.ref 7, fI 0, .ref 3]) (h_q := h_590) (cl_q := 0) (sl_q := 0) rfl ?_
    refine fw_gf rfl rfl g_590_7 rfl ?_
    refine ik_Wk 2 (pc_q := 24) (loc_q := [some (.ref 7), some (.ref 1)]) (st_q := [.ref 7, fI 0, .ref 8, fI 0, .ref 3]) (h_q := h_590) (cl_q := 0) (sl_q := 0) rfl ?_
    refine fw_gf rfl rfl g_590_7 rfl ?_
    refine fx_aln rfl g_590_8 ((fA_len _).trans n8) (by decide +kernel) ?_
    refine fx_cpy rfl rfl rfl g_590_3 g_590_8 (by decide +kernel) (by decide +kernel) m_588_3 n8 (by decide +kernel) ⟨Nat.le_of_ble_eq_true rfl, Nat.le_of_ble_eq_true rfl, Nat.le_of_ble_eq_true rfl⟩ ?_
    intro h_591 e_591 f_591 l_591
    have k_591 : cL h_591 := l_591.trans k_590
    have fr_591 := hfr_wb fr_590 f_591 l_591 rfl
    clear l_591
    have g_591_0 := (f_591 0 (Nat.ne_of_beq_eq_false rfl)).trans g_590_0
    have g_591_1 := (f_591 1 (Nat.ne_of_beq_eq_false rfl)).trans g_590_1
    have g_591_2 := (f_591 2 (Nat.ne_of_beq_eq_false rfl)).trans g_590_2
    have g_591_3 := (f_591 3 (Nat.ne_of_beq_eq_false rfl)).trans g_590_3
    have g_591_4 := (f_591 4 (Nat.ne_of_beq_eq_false rfl)).trans g_590_4
    have g_591_5 := (f_591 5 (Nat.ne_of_beq_eq_false rfl)).trans g_590_5
    have g_591_6 := (f_591 6 (Nat.ne_of_beq_eq_false rfl)).trans g_590_6
    have g_591_7 := (f_591 7 (Nat.ne_of_beq_eq_false rfl)).trans g_590_7
    have g_591_9 := (f_591 9 (Nat.ne_of_beq_eq_false rfl)).trans g_590_9
    have g_591_10 := (f_591 10 (Nat.ne_of_beq_eq_false rfl)).trans g_590_10
    have g_591_11 := (f_591 11 (Nat.ne_of_beq_eq_false rfl)).trans g_590_11
    have g_591_12 := (f_591 12 (Nat.ne_of_beq_eq_false rfl)).trans g_590_12
    have g_591_13 := (f_591 13 (Nat.ne_of_beq_eq_false rfl)).trans g_590_13
    have g_591_14 := (f_591 14 (Nat.ne_of_beq_eq_false rfl)).trans g_590_14
    have g_591_15 := (f_591 15 (Nat.ne_of_beq_eq_false rfl)).trans g_590_15
    have g_591_16 := (f_591 16 (Nat.ne_of_beq_eq_false rfl)).trans g_590_16
    have g_591_51 := (f_591 51 (Nat.ne_of_beq_eq_false rfl)).trans g_590_51
    have g_591_54 := (f_591 54 (Nat.ne_of_beq_eq_false rfl)).trans g_590_54
    have g_591_56 := (f_591 56 (Nat.ne_of_beq_eq_false rfl)).trans g_590_56
    have g_591_57 := (f_591 57 (Nat.ne_of_beq_eq_false rfl)).trans g_590_57
    have g_591_58 := (f_591 58 (Nat.ne_of_beq_eq_false rfl)).trans g_590_58
    have g_591_62 := (f_591 62 (Nat.ne_of_beq_eq_false rfl)).trans g_590_62
    have g_591_8 : cE h_591 8 (.inl (.int, fA C'_588)) := e_591
    refine ik_Wk 1 (pc_q := 32) (loc_q := [some (.ref 7), some (.ref 1)]) (st_q := [.ref 1]) (h_q := h_591) (cl_q := 0) (sl_q := 0) rfl ?_
    refine fw_gf rfl rfl g_591_1 rfl ?_
    refine ik_Wk 2 (pc_q := 37) (loc_q := [some (.ref 7), some (.ref 1)]) (st_q := [.ref 7, fI 0, .ref 4]) (h_q := h_591) (cl_q := 0) (sl_q := 0) rfl ?_
    refine fw_gf rfl rfl g_591_7 rfl ?_
    refine ik_Wk 2 (pc_q := 42) (loc_q := [some (.ref 7), some (.ref 1)]) (st_q := [.ref 7, fI 0, .ref 9, fI 0, .ref 4]) (h_q := h_591) (cl_q := 0) (sl_q := 0) rfl ?_
    refine fw_gf rfl rfl g_591_7 rfl ?_
    refine fx_aln rfl g_591_9 ((fA_len _).trans n9) (by decide +kernel) ?_
    refine fx_cpy rfl rfl rfl g_591_4 g_591_9 (by decide +kernel) (by decide +kernel) m_588_4 n9 (by decide +kernel) ⟨Nat.le_of_ble_eq_true rfl, Nat.le_of_ble_eq_true rfl, Nat.le_of_ble_eq_true rfl⟩ ?_
    intro h_592 e_592 f_592 l_592
    have k_592 : cL h_592 := l_592.trans k_591
    have fr_592 := hfr_wb fr_591 f_592 l_592 rfl
    clear l_592
    have g_592_0 := (f_592 0 (Nat.ne_of_beq_eq_false rfl)).trans g_591_0
    have g_592_1 := (f_592 1 (Nat.ne_of_beq_eq_false rfl)).trans g_591_1
    have g_592_2 := (f_592 2 (Nat.ne_of_beq_eq_false rfl)).trans g_591_2
    have g_592_3 := (f_592 3 (Nat.ne_of_beq_eq_false rfl)).trans g_591_3
    have g_592_4 := (f_592 4 (Nat.ne_of_beq_eq_false rfl)).trans g_591_4
    have g_592_5 := (f_592 5 (Nat.ne_of_beq_eq_false rfl)).trans g_591_5
    have g_592_6 := (f_592 6 (Nat.ne_of_beq_eq_false rfl)).trans g_591_6
    have g_592_7 := (f_592 7 (Nat.ne_of_beq_eq_false rfl)).trans g_591_7
    have g_592_8 := (f_592 8 (Nat.ne_of_beq_eq_false rfl)).trans g_591_8
    have g_592_10 := (f_592 10 (Nat.ne_of_beq_eq_false rfl)).trans g_591_10
    have g_592_11 := (f_592 11 (Nat.ne_of_beq_eq_false rfl)).trans g_591_11
    have g_592_12 := (f_592 12 (Nat.ne_of_beq_eq_false rfl)).trans g_591_12
    have g_592_13 := (f_592 13 (Nat.ne_of_beq_eq_false rfl)).trans g_591_13
    have g_592_14 := (f_592 14 (Nat.ne_of_beq_eq_false rfl)).trans g_591_14
    have g_592_15 := (f_592 15 (Nat.ne_of_beq_eq_false rfl)).trans g_591_15
    have g_592_16 := (f_592 16 (Nat.ne_of_beq_eq_false rfl)).trans g_591_16
    have g_592_51 := (f_592 51 (Nat.ne_of_beq_eq_false rfl)).trans g_591_51
    have g_592_54 := (f_592 54 (Nat.ne_of_beq_eq_false rfl)).trans g_591_54
    have g_592_56 := (f_592 56 (Nat.ne_of_beq_eq_false rfl)).trans g_591_56
    have g_592_57 := (f_592 57 (Nat.ne_of_beq_eq_false rfl)).trans g_591_57
    have g_592_58 := (f_592 58 (Nat.ne_of_beq_eq_false rfl)).trans g_591_58
    have g_592_62 := (f_592 62 (Nat.ne_of_beq_eq_false rfl)).trans g_591_62
    have g_592_9 : cE h_592 9 (.inl (.int, fA G'_588)) := e_592
    refine ik_Wk 1 (pc_q := 50) (loc_q := [some (.ref 7), some (.ref 1)]) (st_q := [.ref 1]) (h_q := h_592) (cl_q := 0) (sl_q := 0) rfl ?_
    refine fw_gf rfl rfl g_592_1 rfl ?_
    refine ik_Wk 2 (pc_q := 55) (loc_q := [some (.ref 7), some (.ref 1)]) (st_q := [.ref 7, fI 0, .ref 5]) (h_q := h_592) (cl_q := 0) (sl_q := 0) rfl ?_
    refine fw_gf rfl rfl g_592_7 rfl ?_
    refine ik_Wk 2 (pc_q := 60) (loc_q := [some (.ref 7), some (.ref 1)]) (st_q := [.ref 7, fI 0, .ref 10, fI 0, .ref 5]) (h_q := h_592) (cl_q := 0) (sl_q := 0) rfl ?_
    refine fw_gf rfl rfl g_592_7 rfl ?_
    refine fx_aln rfl g_592_10 ((fA_len _).trans n10) (by decide +kernel) ?_
    refine fx_cpy rfl rfl rfl g_592_5 g_592_10 (by decide +kernel) (by decide +kernel) m_588_5 n10 (by decide +kernel) ⟨Nat.le_of_ble_eq_true rfl, Nat.le_of_ble_eq_true rfl, Nat.le_of_ble_eq_true rfl⟩ ?_
    intro h_593 e_593 f_593 l_593
    have k_593 : cL h_593 := l_593.trans k_592
    have fr_593 := hfr_wb fr_592 f_593 l_593 rfl
    clear l_593
    have g_593_0 := (f_593 0 (Nat.ne_of_beq_eq_false rfl)).trans g_592_0
    have g_593_1 := (f_593 1 (Nat.ne_of_beq_eq_false rfl)).trans g_592_1
    have g_593_2 := (f_593 2 (Nat.ne_of_beq_eq_false rfl)).trans g_592_2
    have g_593_3 := (f_593 3 (Nat.ne_of_beq_eq_false rfl)).trans g_592_3
    have g_593_4 := (f_593 4 (Nat.ne_of_beq_eq_false rfl)).trans g_592_4
    have g_593_5 := (f_593 5 (Nat.ne_of_beq_eq_false rfl)).trans g_592_5
    have g_593_6 := (f_593 6 (Nat.ne_of_beq_eq_false rfl)).trans g_592_6
    have g_593_7 := (f_593 7 (Nat.ne_of_beq_eq_false rfl)).trans g_592_7
    have g_593_8 := (f_593 8 (Nat.ne_of_beq_eq_false rfl)).trans g_592_8
    have g_593_9 := (f_593 9 (Nat.ne_of_beq_eq_false rfl)).trans g_592_9
    have g_593_11 := (f_593 11 (Nat.ne_of_beq_eq_false rfl)).trans g_592_11
    have g_593_12 := (f_593 12 (Nat.ne_of_beq_eq_false rfl)).trans g_592_12
    have g_593_13 := (f_593 13 (Nat.ne_of_beq_eq_false rfl)).trans g_592_13
    have g_593_14 := (f_593 14 (Nat.ne_of_beq_eq_false rfl)).trans g_592_14
    have g_593_15 := (f_593 15 (Nat.ne_of_beq_eq_false rfl)).trans g_592_15
    have g_593_16 := (f_593 16 (Nat.ne_of_beq_eq_false rfl)).trans g_592_16
    have g_593_51 := (f_593 51 (Nat.ne_of_beq_eq_false rfl)).trans g_592_51
    have g_593_54 := (f_593 54 (Nat.ne_of_beq_eq_false rfl)).trans g_592_54
    have g_593_56 := (f_593 56 (Nat.ne_of_beq_eq_false rfl)).trans g_592_56
    have g_593_57 := (f_593 57 (Nat.ne_of_beq_eq_false rfl)).trans g_592_57
    have g_593_58 := (f_593 58 (Nat.ne_of_beq_eq_false rfl)).trans g_592_58
    have g_593_62 := (f_593 62 (Nat.ne_of_beq_eq_false rfl)).trans g_592_62
    have g_593_10 : cE h_593 10 (.inl (.int, fA P'_588)) := e_593
    refine ik_Wk 1 (pc_q := 68) (loc_q := [some (.ref 7), some (.ref 1)]) (st_q := [.ref 7]) (h_q := h_593) (cl_q := 0) (sl_q := 0) rfl ?_
    refine fw_call 11 1 0 [.ref 7] [] rfl rfl rfl (Nat.le_of_ble_eq_true rfl) rfl rfl (fw_rec k_593 rfl g_593_7 rfl (Nat.le_of_ble_eq_true rfl)) (cs_settleAll (pl := q_588.1) (lo := lo) (s := 0) (cn := C'_588) (go := G'_588) (ch := P'_588) (wg := wg) (wc := wc) (we := we) (by omega) (by omega) hw_588 (fun w => zq_c p_588_3 w) (fun _ => Nat.zero_testBit _) g_593_7 g_593_8 m_588_3 g_593_9 m_588_4 g_593_10 m_588_5 g_593_11 n11 g_593_12 n12 g_593_13 n13 k_593) ?_
    rintro _ h_594 ⟨wg'_594, wc'_594, we'_594, rfl, e_594_11, m_594_11, e_594_12, m_594_12, e_594_13, m_594_13, p_594_0, F_594⟩
    have k_594 : cL h_594 := F_594.1.trans k_593
    have fr_594 := hfr_cb fr_593 F_594 rfl
    have g_594_0 := (hfr_g F_594 0 rfl).trans g_593_0
    have g_594_1 := (hfr_g F_594 1 rfl).trans g_593_1
    have g_594_2 := (hfr_g F_594 2 rfl).trans g_593_2
    have g_594_3 := (hfr_g F_594 3 rfl).trans g_593_3
    have g_594_4 := (hfr_g F_594 4 rfl).trans g_593_4
    have g_594_5 := (hfr_g F_594 5 rfl).trans g_593_5
    have g_594_6 := (hfr_g F_594 6 rfl).trans g_593_6
    have g_594_7 := (hfr_g F_594 7 rfl).trans g_593_7
    have g_594_8 := (hfr_g F_594 8 rfl).trans g_593_8
    have g_594_9 := (hfr_g F_594 9 rfl).trans g_593_9
    have g_594_10 := (hfr_g F_594 10 rfl).trans g_593_10
    have g_594_14 := (hfr_g F_594 14 rfl).trans g_593_14
    have g_594_15 := (hfr_g F_594 15 rfl).trans g_593_15
    have g_594_16 := (hfr_g F_594 16 rfl).trans g_593_16
    have g_594_51 := (hfr_g F_594 51 rfl).trans g_593_51
    have g_594_54 := (hfr_g F_594 54 rfl).trans g_593_54
    have g_594_56 := (hfr_g F_594 56 rfl).trans g_593_56
    have g_594_57 := (hfr_g F_594 57 rfl).trans g_593_57
    have g_594_58 := (hfr_g F_594 58 rfl).trans g_593_58
    have g_594_62 := (hfr_g F_594 62 rfl).trans g_593_62
    have g_594_11 : cE h_594 11 (.inl (.int, fA wg'_594)) := e_594_11
    have g_594_12 : cE h_594 12 (.inl (.int, fA wc'_594)) := e_594_12
    have g_594_13 : cE h_594 13 (.inl (.int, fA we'_594)) := e_594_13
    refine ik_Wk 0 (pc_q := 71) (loc_q := [some (.ref 7), some (.ref 1)]) (st_q := []) (h_q := h_594) (cl_q := 0) (sl_q := 0) rfl ?_
    refine ik_Wk 2 (pc_q := 73) (loc_q := [some (.ref 7), some (.ref 1)]) (st_q := [.ref 7, .ref 7]) (h_q := h_594) (cl_q := 0) (sl_q := 0) rfl ?_
    refine fw_call 9 1 0 [.ref 7] [.ref 7] rfl rfl rfl (Nat.le_of_ble_eq_true rfl) rfl rfl (fw_rec k_594 rfl g_594_7 rfl (Nat.le_of_ble_eq_true rfl)) (cs_findLost (pl := q_588.1) (lo := lo) (s := 0) (wg := wg'_594) (wc := wc'_594) (we := we'_594) (W := (fun x => mx_w C'_588 G'_588 P'_588 0 x)) (by omega) p_594_0 (mx_rw_ok hw_588 _) g_594_7 g_594_11 m_594_11 g_594_12 m_594_12 g_594_13 m_594_13 k_594) ?_
    rintro _ h_595 ⟨rfl, F_595⟩
    have k_595 : cL h_595 := F_595.1.trans k_594
    have fr_595 := hfr_cb fr_594 F_595 rfl
    have g_595_0 := (hfr_g F_595 0 rfl).trans g_594_0
    have g_595_1 := (hfr_g F_595 1 rfl).trans g_594_1
    have g_595_2 := (hfr_g F_595 2 rfl).trans g_594_2
    have g_595_3 := (hfr_g F_595 3 rfl).trans g_594_3
    have g_595_4 := (hfr_g F_595 4 rfl).trans g_594_4
    have g_595_5 := (hfr_g F_595 5 rfl).trans g_594_5
    have g_595_6 := (hfr_g F_595 6 rfl).trans g_594_6
    have g_595_7 := (hfr_g F_595 7 rfl).trans g_594_7
    have g_595_8 := (hfr_g F_595 8 rfl).trans g_594_8
    have g_595_9 := (hfr_g F_595 9 rfl).trans g_594_9
    have g_595_10 := (hfr_g F_595 10 rfl).trans g_594_10
    have g_595_11 := (hfr_g F_595 11 rfl).trans g_594_11
    have g_595_12 := (hfr_g F_595 12 rfl).trans g_594_12
    have g_595_13 := (hfr_g F_595 13 rfl).trans g_594_13
    have g_595_14 := (hfr_g F_595 14 rfl).trans g_594_14
    have g_595_15 := (hfr_g F_595 15 rfl).trans g_594_15
    have g_595_16 := (hfr_g F_595 16 rfl).trans g_594_16
    have g_595_51 := (hfr_g F_595 51 rfl).trans g_594_51
    have g_595_54 := (hfr_g F_595 54 rfl).trans g_594_54
    have g_595_56 := (hfr_g F_595 56 rfl).trans g_594_56
    have g_595_57 := (hfr_g F_595 57 rfl).trans g_594_57
    have g_595_58 := (hfr_g F_595 58 rfl).trans g_594_58
    have g_595_62 := (hfr_g F_595 62 rfl).trans g_594_62
    refine ik_Wk 0 (pc_q := 76) (loc_q := [some (.ref 7), some (.ref 1)]) (st_q := [fI ((mj_lg q_588.1 (fun p => mj_gs ((fun x => mx_w C'_588 G'_588 P'_588 0 x) (p : Nat))) : Nat) : Int), .ref 7]) (h_q := h_595) (cl_q := 0) (sl_q := 0) rfl ?_
    rw [mj_lg_w hw_588]
    refine fx_pf rfl rfl g_595_7 (Nat.le_of_ble_eq_true rfl) rfl rfl ?_
    intro h_596 e_596 f_596 l_596
    have k_596 : cL h_596 := l_596.trans k_595
    have fr_596 := hfr_wb fr_595 f_596 l_596 rfl
    clear l_596
    have g_596_0 := (f_596 0 (Nat.ne_of_beq_eq_false rfl)).trans g_595_0
    have g_596_1 := (f_596 1 (Nat.ne_of_beq_eq_false rfl)).trans g_595_1
    have g_596_2 := (f_596 2 (Nat.ne_of_beq_eq_false rfl)).trans g_595_2
    have g_596_3 := (f_596 3 (Nat.ne_of_beq_eq_false rfl)).trans g_595_3
    have g_596_4 := (f_596 4 (Nat.ne_of_beq_eq_false rfl)).trans g_595_4
    have g_596_5 := (f_596 5 (Nat.ne_of_beq_eq_false rfl)).trans g_595_5
    have g_596_6 := (f_596 6 (Nat.ne_of_beq_eq_false rfl)).trans g_595_6
    have g_596_8 := (f_596 8 (Nat.ne_of_beq_eq_false rfl)).trans g_595_8
    have g_596_9 := (f_596 9 (Nat.ne_of_beq_eq_false rfl)).trans g_595_9
    have g_596_10 := (f_596 10 (Nat.ne_of_beq_eq_false rfl)).trans g_595_10
    have g_596_11 := (f_596 11 (Nat.ne_of_beq_eq_false rfl)).trans g_595_11
    have g_596_12 := (f_596 12 (Nat.ne_of_beq_eq_false rfl)).trans g_595_12
    have g_596_13 := (f_596 13 (Nat.ne_of_beq_eq_false rfl)).trans g_595_13
    have g_596_14 := (f_596 14 (Nat.ne_of_beq_eq_false rfl)).trans g_595_14
    have g_596_15 := (f_596 15 (Nat.ne_of_beq_eq_false rfl)).trans g_595_15
    have g_596_16 := (f_596 16 (Nat.ne_of_beq_eq_false rfl)).trans g_595_16
    have g_596_51 := (f_596 51 (Nat.ne_of_beq_eq_false rfl)).trans g_595_51
    have g_596_54 := (f_596 54 (Nat.ne_of_beq_eq_false rfl)).trans g_595_54
    have g_596_56 := (f_596 56 (Nat.ne_of_beq_eq_false rfl)).trans g_595_56
    have g_596_57 := (f_596 57 (Nat.ne_of_beq_eq_false rfl)).trans g_595_57
    have g_596_58 := (f_596 58 (Nat.ne_of_beq_eq_false rfl)).trans g_595_58
    have g_596_62 := (f_596 62 (Nat.ne_of_beq_eq_false rfl)).trans g_595_62
    have g_596_7 : cE h_596 7 (.inr (0, [fI q_588.1, fI 0, fI ((mj_lost q_588.1 C'_588 G'_588 : Nat) : Int), .ref 8, .ref 9, .ref 10, .ref 11, .ref 12, .ref 13])) := e_596
    refine ik_Wret rfl rfl ⟨_, _, rfl, rfl, ?_⟩
    refine ik_Wk 0 (pc_q := 28) (loc_q := [some (.ref 0), some (fI 0), none]) (st_q := []) (h_q := h_596) (cl_q := 0) (sl_q := 0) rfl ?_
    refine ik_Wk 1 (pc_q := 29) (loc_q := [some (.ref 0), some (fI 0), none]) (st_q := [.ref 0]) (h_q := h_596) (cl_q := 0) (sl_q := 0) rfl ?_
    refine fw_gf rfl rfl g_596_0 rfl ?_
    refine ik_Wc 22 1 0 [.ref 14] [] rfl rfl rfl (by decide +kernel) rfl rfl (fw_rec k_596 rfl g_596_14 rfl (Nat.le_of_ble_eq_true rfl)) ?_
    refine ik_Wk 0 (pc_q := 0) (loc_q := [some (.ref 14)]) (st_q := []) (h_q := h_596) (cl_q := 0) (sl_q := 0) rfl ?_
    refine ik_Wk 1 (pc_q := 1) (loc_q := [some (.ref 14)]) (st_q := [.ref 14]) (h_q := h_596) (cl_q := 0) (sl_q := 0) rfl ?_
    refine fw_gf rfl rfl g_596_14 rfl ?_
    refine ik_Wk 1 (pc_q := 5) (loc_q := [some (.ref 14)]) (st_q := [fI 0, .ref 15]) (h_q := h_596) (cl_q := 0) (sl_q := 0) rfl ?_
    refine ik_Wc 225 2 3 [.ref 15, fI 0] [] rfl rfl rfl (by decide +kernel) rfl rfl (fw_sta k_596 rfl (by decide +kernel)) ?_
    refine ik_Wk 0 (pc_q := 0) (loc_q := [some (.ref 15), some (fI 0), none, none]) (st_q := []) (h_q := h_596) (cl_q := 0) (sl_q := 0) rfl ?_
    refine ik_Wk 3 (pc_q := 3) (loc_q := [some (.ref 15), some (fI 0), some (fI 0), none]) (st_q := [.ref 15]) (h_q := h_596) (cl_q := 0) (sl_q := 0) rfl ?_
    refine fx_aln (L := 6) rfl g_596_15 rfl (by decide +kernel) ?_
    refine ik_Wk 3 (pc_q := 7) (loc_q := [some (.ref 15), some (fI 0), some (fI 0), some (fI 6)]) (st_q := [fI 6, fI 0]) (h_q := h_596) (cl_q := 0) (sl_q := 0) rfl ?_
    refine fw_ic_ge rfl rfl (by decide +kernel) (by decide +kernel) (by decide +kernel) (by decide +kernel) (fun hc3 => absurd hc3 (by decide +kernel)) (fun hc3 => ?_)
    refine ik_Wk 3 (pc_q := 13) (loc_q := [some (.ref 15), some (fI 0), some (fI 0), some (fI 6)]) (st_q := [fI 0, fI 0, .ref 15]) (h_q := h_596) (cl_q := 0) (sl_q := 0) rfl ?_
    refine fx_ias (z := 0) rfl g_596_15 (by decide +kernel) (Nat.le_of_ble_eq_true rfl) (by decide +kernel) ?_
    intro h_597 e_597 f_597 l_597
    have k_597 : cL h_597 := l_597.trans k_596
    have fr_597 := hfr_wb fr_596 f_597 l_597 rfl
    clear l_597
    have g_597_0 := (f_597 0 (Nat.ne_of_beq_eq_false rfl)).trans g_596_0
    have g_597_1 := (f_597 1 (Nat.ne_of_beq_eq_false rfl)).trans g_596_1
    have g_597_2 := (f_597 2 (Nat.ne_of_beq_eq_false rfl)).trans g_596_2
    have g_597_3 := (f_597 3 (Nat.ne_of_beq_eq_false rfl)).trans g_596_3
    have g_597_4 := (f_597 4 (Nat.ne_of_beq_eq_false rfl)).trans g_596_4
    have g_597_5 := (f_597 5 (Nat.ne_of_beq_eq_false rfl)).trans g_596_5
    have g_597_6 := (f_597 6 (Nat.ne_of_beq_eq_false rfl)).trans g_596_6
    have g_597_7 := (f_597 7 (Nat.ne_of_beq_eq_false rfl)).trans g_596_7
    have g_597_8 := (f_597 8 (Nat.ne_of_beq_eq_false rfl)).trans g_596_8
    have g_597_9 := (f_597 9 (Nat.ne_of_beq_eq_false rfl)).trans g_596_9
    have g_597_10 := (f_597 10 (Nat.ne_of_beq_eq_false rfl)).trans g_596_10
    have g_597_11 := (f_597 11 (Nat.ne_of_beq_eq_false rfl)).trans g_596_11
    have g_597_12 := (f_597 12 (Nat.ne_of_beq_eq_false rfl)).trans g_596_12
    have g_597_13 := (f_597 13 (Nat.ne_of_beq_eq_false rfl)).trans g_596_13
    have g_597_14 := (f_597 14 (Nat.ne_of_beq_eq_false rfl)).trans g_596_14
    have g_597_16 := (f_597 16 (Nat.ne_of_beq_eq_false rfl)).trans g_596_16
    have g_597_51 := (f_597 51 (Nat.ne_of_beq_eq_false rfl)).trans g_596_51
    have g_597_54 := (f_597 54 (Nat.ne_of_beq_eq_false rfl)).trans g_596_54
    have g_597_56 := (f_597 56 (Nat.ne_of_beq_eq_false rfl)).trans g_596_56
    have g_597_57 := (f_597 57 (Nat.ne_of_beq_eq_false rfl)).trans g_596_57
    have g_597_58 := (f_597 58 (Nat.ne_of_beq_eq_false rfl)).trans g_596_58
    have g_597_62 := (f_597 62 (Nat.ne_of_beq_eq_false rfl)).trans g_596_62
    have g_597_15 : cE h_597 15 (.inl (.int, fA [0, pa, fa, kb, pb, fb])) := e_597
    refine fw_inc (a := 0) (loc_q := [some (.ref 15), some (fI 0), some (fI 1), some (fI 6)]) rfl rfl (Nat.le_of_ble_eq_true rfl) rfl ?_
    refine ik_Wk 3 (pc_q := 7) (loc_q := [some (.ref 15), some (fI 0), some (fI 1), some (fI 6)]) (st_q := [fI 6, fI 1]) (h_q := h_597) (cl_q := 0) (sl_q := 0) rfl ?_
    refine fw_ic_ge rfl rfl (by decide +kernel) (by decide +kernel) (by decide +kernel) (by decide +kernel) (fun hc4 => absurd hc4 (by decide +kernel)) (fun hc4 => ?_)
    refine ik_Wk 3 (pc_q := 13) (loc_q := [some (.ref 15), some (fI 0), some (fI 1), some (fI 6)]) (st_q := [fI 0, fI 1, .ref 15]) (h_q := h_597) (cl_q := 0) (sl_q := 0) rfl ?_
    refine fx_ias (z := 1) rfl g_597_15 (by decide +kernel) (Nat.le_of_ble_eq_true rfl) (by decide +kernel) ?_
    intro h_598 e_598 f_598 l_598
    have k_598 : cL h_598 := l_598.trans k_597
    have fr_598 := hfr_wb fr_597 f_598 l_598 rfl
    clear l_598
    have g_598_0 := (f_598 0 (Nat.ne_of_beq_eq_false rfl)).trans g_597_0
    have g_598_1 := (f_598 1 (Nat.ne_of_beq_eq_false rfl)).trans g_597_1
    have g_598_2 := (f_598 2 (Nat.ne_of_beq_eq_false rfl)).trans g_597_2
    have g_598_3 := (f_598 3 (Nat.ne_of_beq_eq_false rfl)).trans g_597_3
    have g_598_4 := (f_598 4 (Nat.ne_of_beq_eq_false rfl)).trans g_597_4
    have g_598_5 := (f_598 5 (Nat.ne_of_beq_eq_false rfl)).trans g_597_5
    have g_598_6 := (f_598 6 (Nat.ne_of_beq_eq_false rfl)).trans g_597_6
    have g_598_7 := (f_598 7 (Nat.ne_of_beq_eq_false rfl)).trans g_597_7
    have g_598_8 := (f_598 8 (Nat.ne_of_beq_eq_false rfl)).trans g_597_8
    have g_598_9 := (f_598 9 (Nat.ne_of_beq_eq_false rfl)).trans g_597_9
    have g_598_10 := (f_598 10 (Nat.ne_of_beq_eq_false rfl)).trans g_597_10
    have g_598_11 := (f_598 11 (Nat.ne_of_beq_eq_false rfl)).trans g_597_11
    have g_598_12 := (f_598 12 (Nat.ne_of_beq_eq_false rfl)).trans g_597_12
    have g_598_13 := (f_598 13 (Nat.ne_of_beq_eq_false rfl)).trans g_597_13
    have g_598_14 := (f_598 14 (Nat.ne_of_beq_eq_false rfl)).trans g_597_14
    have g_598_16 := (f_598 16 (Nat.ne_of_beq_eq_false rfl)).trans g_597_16
    have g_598_51 := (f_598 51 (Nat.ne_of_beq_eq_false rfl)).trans g_597_51
    have g_598_54 := (f_598 54 (Nat.ne_of_beq_eq_false rfl)).trans g_597_54
    have g_598_56 := (f_598 56 (Nat.ne_of_beq_eq_false rfl)).trans g_597_56
    have g_598_57 := (f_598 57 (Nat.ne_of_beq_eq_false rfl)).trans g_597_57
    have g_598_58 := (f_598 58 (Nat.ne_of_beq_eq_false rfl)).trans g_597_58
    have g_598_62 := (f_598 62 (Nat.ne_of_beq_eq_false rfl)).trans g_597_62
    have g_598_15 : cE h_598 15 (.inl (.int, fA [0, 0, fa, kb, pb, fb])) := e_598
    refine fw_inc (a := 1) (loc_q := [some (.ref 15), some (fI 0), some (fI 2), some (fI 6)]) rfl rfl (Nat.le_of_ble_eq_true rfl) rfl ?_
    refine ik_Wk 3 (pc_q := 7) (loc_q := [some (.ref 15), some (fI 0), some (fI 2), some (fI 6)]) (st_q := [fI 6, fI 2]) (h_q := h_598) (cl_q := 0) (sl_q := 0) rfl ?_
    refine fw_ic_ge rfl rfl (by decide +kernel) (by decide +kernel) (by decide +kernel) (by decide +kernel) (fun hc5 => absurd hc5 (by decide +kernel)) (fun hc5 => ?_)
    refine ik_Wk 3 (pc_q := 13) (loc_q := [some (.ref 15), some (fI 0), some (fI 2), some (fI 6)]) (st_q := [fI 0, fI 2, .ref 15]) (h_q := h_598) (cl_q := 0) (sl_q := 0) rfl ?_
    refine fx_ias (z := 2) rfl g_598_15 (by decide +kernel) (Nat.le_of_ble_eq_true rfl) (by decide +kernel) ?_
    intro h_599 e_599 f_599 l_599
    have k_599 : cL h_599 := l_599.trans k_598
    have fr_599 := hfr_wb fr_598 f_599 l_599 rfl
    clear l_599
    have g_599_0 := (f_599 0 (Nat.ne_of_beq_eq_false rfl)).trans g_598_0
    have g_599_1 := (f_599 1 (Nat.ne_of_beq_eq_false rfl)).trans g_598_1
    have g_599_2 := (f_599 2 (Nat.ne_of_beq_eq_false rfl)).trans g_598_2
    have g_599_3 := (f_599 3 (Nat.ne_of_beq_eq_false rfl)).trans g_598_3
    have g_599_4 := (f_599 4 (Nat.ne_of_beq_eq_false rfl)).trans g_598_4
    have g_599_5 := (f_599 5 (Nat.ne_of_beq_eq_false rfl)).trans g_598_5
    have g_599_6 := (f_599 6 (Nat.ne_of_beq_eq_false rfl)).trans g_598_6
    have g_599_7 := (f_599 7 (Nat.ne_of_beq_eq_false rfl)).trans g_598_7
    have g_599_8 := (f_599 8 (Nat.ne_of_beq_eq_false rfl)).trans g_598_8
    have g_599_9 := (f_599 9 (Nat.ne_of_beq_eq_false rfl)).trans g_598_9
    have g_599_10 := (f_599 10 (Nat.ne_of_beq_eq_false rfl)).trans g_598_10
    have g_599_11 := (f_599 11 (Nat.ne_of_beq_eq_false rfl)).trans g_598_11
    have g_599_12 := (f_599 12 (Nat.ne_of_beq_eq_false rfl)).trans g_598_12
    have g_599_13 := (f_599 13 (Nat.ne_of_beq_eq_false rfl)).trans g_598_13
    have g_599_14 := (f_599 14 (Nat.ne_of_beq_eq_false rfl)).trans g_598_14
    have g_599_16 := (f_599 16 (Nat.ne_of_beq_eq_false rfl)).trans g_598_16
    have g_599_51 := (f_599 51 (Nat.ne_of_beq_eq_false rfl)).trans g_598_51
    have g_599_54 := (f_599 54 (Nat.ne_of_beq_eq_false rfl)).trans g_598_54
    have g_599_56 := (f_599 56 (Nat.ne_of_beq_eq_false rfl)).trans g_598_56
    have g_599_57 := (f_599 57 (Nat.ne_of_beq_eq_false rfl)).trans g_598_57
    have g_599_58 := (f_599 58 (Nat.ne_of_beq_eq_false rfl)).trans g_598_58
    have g_599_62 := (f_599 62 (Nat.ne_of_beq_eq_false rfl)).trans g_598_62
    have g_599_15 : cE h_599 15 (.inl (.int, fA [0, 0, 0, kb, pb, fb])) := e_599
    refine fw_inc (a := 2) (loc_q := [some (.ref 15), some (fI 0), some (fI 3), some (fI 6)]) rfl rfl (Nat.le_of_ble_eq_true rfl) rfl ?_
    refine ik_Wk 3 (pc_q := 7) (loc_q := [some (.ref 15), some (fI 0), some (fI 3), some (fI 6)]) (st_q := [fI 6, fI 3]) (h_q := h_599) (cl_q := 0) (sl_q := 0) rfl ?_
    refine fw_ic_ge rfl rfl (by decide +kernel) (by decide +kernel) (by decide +kernel) (by decide +kernel) (fun hc6 => absurd hc6 (by decide +kernel)) (fun hc6 => ?_)
    refine ik_Wk 3 (pc_q := 13) (loc_q := [some (.ref 15), some (fI 0), some (fI 3), some (fI 6)]) (st_q := [fI 0, fI 3, .ref 15]) (h_q := h_599) (cl_q := 0) (sl_q := 0) rfl ?_
    refine fx_ias (z := 3) rfl g_599_15 (by decide +kernel) (Nat.le_of_ble_eq_true rfl) (by decide +kernel) ?_
    intro h_600 e_600 f_600 l_600
    have k_600 : cL h_600 := l_600.trans k_599
    have fr_600 := hfr_wb fr_599 f_600 l_600 rfl
    clear l_600
    have g_600_0 := (f_600 0 (Nat.ne_of_beq_eq_false rfl)).trans g_599_0
    have g_600_1 := (f_600 1 (Nat.ne_of_beq_eq_false rfl)).trans g_599_1
    have g_600_2 := (f_600 2 (Nat.ne_of_beq_eq_false rfl)).trans g_599_2
    have g_600_3 := (f_600 3 (Nat.ne_of_beq_eq_false rfl)).trans g_599_3
    have g_600_4 := (f_600 4 (Nat.ne_of_beq_eq_false rfl)).trans g_599_4
    have g_600_5 := (f_600 5 (Nat.ne_of_beq_eq_false rfl)).trans g_599_5
    have g_600_6 := (f_600 6 (Nat.ne_of_beq_eq_false rfl)).trans g_599_6
    have g_600_7 := (f_600 7 (Nat.ne_of_beq_eq_false rfl)).trans g_599_7
    have g_600_8 := (f_600 8 (Nat.ne_of_beq_eq_false rfl)).trans g_599_8
    have g_600_9 := (f_600 9 (Nat.ne_of_beq_eq_false rfl)).trans g_599_9
    have g_600_10 := (f_600 10 (Nat.ne_of_beq_eq_false rfl)).trans g_599_10
    have g_600_11 := (f_600 11 (Nat.ne_of_beq_eq_false rfl)).trans g_599_11
    have g_600_12 := (f_600 12 (Nat.ne_of_beq_eq_false rfl)).trans g_599_12
    have g_600_13 := (f_600 13 (Nat.ne_of_beq_eq_false rfl)).trans g_599_13
    have g_600_14 := (f_600 14 (Nat.ne_of_beq_eq_false rfl)).trans g_599_14
    have g_600_16 := (f_600 16 (Nat.ne_of_beq_eq_false rfl)).trans g_599_16
    have g_600_51 := (f_600 51 (Nat.ne_of_beq_eq_false rfl)).trans g_599_51
    have g_600_54 := (f_600 54 (Nat.ne_of_beq_eq_false rfl)).trans g_599_54
    have g_600_56 := (f_600 56 (Nat.ne_of_beq_eq_false rfl)).trans g_599_56
    have g_600_57 := (f_600 57 (Nat.ne_of_beq_eq_false rfl)).trans g_599_57
    have g_600_58 := (f_600 58 (Nat.ne_of_beq_eq_false rfl)).trans g_599_58
    have g_600_62 := (f_600 62 (Nat.ne_of_beq_eq_false rfl)).trans g_599_62
    have g_600_15 : cE h_600 15 (.inl (.int, fA [0, 0, 0, 0, pb, fb])) := e_600
    refine fw_inc (a := 3) (loc_q := [some (.ref 15), some (fI 0), some (fI 4), some (fI 6)]) rfl rfl (Nat.le_of_ble_eq_true rfl) rfl ?_
    refine ik_Wk 3 (pc_q := 7) (loc_q := [some (.ref 15), some (fI 0), some (fI 4), some (fI 6)]) (st_q := [fI 6, fI 4]) (h_q := h_600) (cl_q := 0) (sl_q := 0) rfl ?_
    refine fw_ic_ge rfl rfl (by decide +kernel) (by decide +kernel) (by decide +kernel) (by decide +kernel) (fun hc7 => absurd hc7 (by decide +kernel)) (fun hc7 => ?_)
    refine ik_Wk 3 (pc_q := 13) (loc_q := [some (.ref 15), some (fI 0), some (fI 4), some (fI 6)]) (st_q := [fI 0, fI 4, .ref 15]) (h_q := h_600) (cl_q := 0) (sl_q := 0) rfl ?_
    refine fx_ias (z := 4) rfl g_600_15 (by decide +kernel) (Nat.le_of_ble_eq_true rfl) (by decide +kernel) ?_
    intro h_601 e_601 f_601 l_601
    have k_601 : cL h_601 := l_601.trans k_600
    have fr_601 := hfr_wb fr_600 f_601 l_601 rfl
    clear l_601
    have g_601_0 := (f_601 0 (Nat.ne_of_beq_eq_false rfl)).trans g_600_0
    have g_601_1 := (f_601 1 (Nat.ne_of_beq_eq_false rfl)).trans g_600_1
    have g_601_2 := (f_601 2 (Nat.ne_of_beq_eq_false rfl)).trans g_600_2
    have g_601_3 := (f_601 3 (Nat.ne_of_beq_eq_false rfl)).trans g_600_3
    have g_601_4 := (f_601 4 (Nat.ne_of_beq_eq_false rfl)).trans g_600_4
    have g_601_5 := (f_601 5 (Nat.ne_of_beq_eq_false rfl)).trans g_600_5
    have g_601_6 := (f_601 6 (Nat.ne_of_beq_eq_false rfl)).trans g_600_6
    have g_601_7 := (f_601 7 (Nat.ne_of_beq_eq_false rfl)).trans g_600_7
    have g_601_8 := (f_601 8 (Nat.ne_of_beq_eq_false rfl)).trans g_600_8
    have g_601_9 := (f_601 9 (Nat.ne_of_beq_eq_false rfl)).trans g_600_9
    have g_601_10 := (f_601 10 (Nat.ne_of_beq_eq_false rfl)).trans g_600_10
    have g_601_11 := (f_601 11 (Nat.ne_of_beq_eq_false rfl)).trans g_600_11
    have g_601_12 := (f_601 12 (Nat.ne_of_beq_eq_false rfl)).trans g_600_12
    have g_601_13 := (f_601 13 (Nat.ne_of_beq_eq_false rfl)).trans g_600_13
    have g_601_14 := (f_601 14 (Nat.ne_of_beq_eq_false rfl)).trans g_600_14
    have g_601_16 := (f_601 16 (Nat.ne_of_beq_eq_false rfl)).trans g_600_16
    have g_601_51 := (f_601 51 (Nat.ne_of_beq_eq_false rfl)).trans g_600_51
    have g_601_54 := (f_601 54 (Nat.ne_of_beq_eq_false rfl)).trans g_600_54
    have g_601_56 := (f_601 56 (Nat.ne_of_beq_eq_false rfl)).trans g_600_56
    have g_601_57 := (f_601 57 (Nat.ne_of_beq_eq_false rfl)).trans g_600_57
    have g_601_58 := (f_601 58 (Nat.ne_of_beq_eq_false rfl)).trans g_600_58
    have g_601_62 := (f_601 62 (Nat.ne_of_beq_eq_false rfl)).trans g_600_62
    have g_601_15 : cE h_601 15 (.inl (.int, fA [0, 0, 0, 0, 0, fb])) := e_601
    refine fw_inc (a := 4) (loc_q := [some (.ref 15), some (fI 0), some (fI 5), some (fI 6)]) rfl rfl (Nat.le_of_ble_eq_true rfl) rfl ?_
    refine ik_Wk 3 (pc_q := 7) (loc_q := [some (.ref 15), some (fI 0), some (fI 5), some (fI 6)]) (st_q := [fI 6, fI 5]) (h_q := h_601) (cl_q := 0) (sl_q := 0) rfl ?_
    refine fw_ic_ge rfl rfl (by decide +kernel) (by decide +kernel) (by decide +kernel) (by decide +kernel) (fun hc8 => absurd hc8 (by decide +kernel)) (fun hc8 => ?_)
    refine ik_Wk 3 (pc_q := 13) (loc_q := [some (.ref 15), some (fI 0), some (fI 5), some (fI 6)]) (st_q := [fI 0, fI 5, .ref 15]) (h_q := h_601) (cl_q := 0) (sl_q := 0) rfl ?_
    refine fx_ias (z := 5) rfl g_601_15 (by decide +kernel) (Nat.le_of_ble_eq_true rfl) (by decide +kernel) ?_
    intro h_602 e_602 f_602 l_602
    have k_602 : cL h_602 := l_602.trans k_601
    have fr_602 := hfr_wb fr_601 f_602 l_602 rfl
    clear l_602
    have g_602_0 := (f_602 0 (Nat.ne_of_beq_eq_false rfl)).trans g_601_0
    have g_602_1 := (f_602 1 (Nat.ne_of_beq_eq_false rfl)).trans g_601_1
    have g_602_2 := (f_602 2 (Nat.ne_of_beq_eq_false rfl)).trans g_601_2
    have g_602_3 := (f_602 3 (Nat.ne_of_beq_eq_false rfl)).trans g_601_3
    have g_602_4 := (f_602 4 (Nat.ne_of_beq_eq_false rfl)).trans g_601_4
    have g_602_5 := (f_602 5 (Nat.ne_of_beq_eq_false rfl)).trans g_601_5
    have g_602_6 := (f_602 6 (Nat.ne_of_beq_eq_false rfl)).trans g_601_6
    have g_602_7 := (f_602 7 (Nat.ne_of_beq_eq_false rfl)).trans g_601_7
    have g_602_8 := (f_602 8 (Nat.ne_of_beq_eq_false rfl)).trans g_601_8
    have g_602_9 := (f_602 9 (Nat.ne_of_beq_eq_false rfl)).trans g_601_9
    have g_602_10 := (f_602 10 (Nat.ne_of_beq_eq_false rfl)).trans g_601_10
    have g_602_11 := (f_602 11 (Nat.ne_of_beq_eq_false rfl)).trans g_601_11
    have g_602_12 := (f_602 12 (Nat.ne_of_beq_eq_false rfl)).trans g_601_12
    have g_602_13 := (f_602 13 (Nat.ne_of_beq_eq_false rfl)).trans g_601_13
    have g_602_14 := (f_602 14 (Nat.ne_of_beq_eq_false rfl)).trans g_601_14
    have g_602_16 := (f_602 16 (Nat.ne_of_beq_eq_false rfl)).trans g_601_16
    have g_602_51 := (f_602 51 (Nat.ne_of_beq_eq_false rfl)).trans g_601_51
    have g_602_54 := (f_602 54 (Nat.ne_of_beq_eq_false rfl)).trans g_601_54
    have g_602_56 := (f_602 56 (Nat.ne_of_beq_eq_false rfl)).trans g_601_56
    have g_602_57 := (f_602 57 (Nat.ne_of_beq_eq_false rfl)).trans g_601_57
    have g_602_58 := (f_602 58 (Nat.ne_of_beq_eq_false rfl)).trans g_601_58
    have g_602_62 := (f_602 62 (Nat.ne_of_beq_eq_false rfl)).trans g_601_62
    have g_602_15 : cE h_602 15 (.inl (.int, fA [0, 0, 0, 0, 0, 0])) := e_602
    refine fw_inc (a := 5) (loc_q := [some (.ref 15), some (fI 0), some (fI 6), some (fI 6)]) rfl rfl (Nat.le_of_ble_eq_true rfl) rfl ?_
    refine ik_Wk 3 (pc_q := 7) (loc_q := [some (.ref 15), some (fI 0), some (fI 6), some (fI 6)]) (st_q := [fI 6, fI 6]) (h_q := h_602) (cl_q := 0) (sl_q := 0) rfl ?_
    refine fw_ic_ge rfl rfl (by decide +kernel) (by decide +kernel) (by decide +kernel) (by decide +kernel) (fun hc9 => ?_) (fun hc9 => absurd hc9 (by decide +kernel))
    refine ik_Wret rfl rfl ⟨_, _, rfl, rfl, ?_⟩
    refine ik_Wk 0 (pc_q := 8) (loc_q := [some (.ref 14)]) (st_q := []) (h_q := h_602) (cl_q := 0) (sl_q := 0) rfl ?_
    refine ik_Wk 1 (pc_q := 9) (loc_q := [some (.ref 14)]) (st_q := [.ref 14]) (h_q := h_602) (cl_q := 0) (sl_q := 0) rfl ?_
    refine fw_call 23 1 0 [.ref 14] [] rfl rfl rfl (Nat.le_of_ble_eq_true rfl) rfl rfl (fw_rec k_602 rfl g_602_14 rfl (Nat.le_of_ble_eq_true rfl)) (cs_restart (mi := mi) (ka := 0) (pa := 0) (fa := 0) (kb := 0) (pb := 0) (fb := 0) (xa := xa) (xb := xb) (sd := dr) (by omega) (by omega) g_602_14 g_602_15 g_602_16 k_602) ?_
    rintro _ h_603 ⟨rfl, e_603_14, e_603_16, F_603⟩
    have k_603 : cL h_603 := F_603.1.trans k_602
    have fr_603 := hfr_cb fr_602 F_603 rfl
    have g_603_0 := (hfr_g F_603 0 rfl).trans g_602_0
    have g_603_1 := (hfr_g F_603 1 rfl).trans g_602_1
    have g_603_2 := (hfr_g F_603 2 rfl).trans g_602_2
    have g_603_3 := (hfr_g F_603 3 rfl).trans g_602_3
    have g_603_4 := (hfr_g F_603 4 rfl).trans g_602_4
    have g_603_5 := (hfr_g F_603 5 rfl).trans g_602_5
    have g_603_6 := (hfr_g F_603 6 rfl).trans g_602_6
    have g_603_7 := (hfr_g F_603 7 rfl).trans g_602_7
    have g_603_8 := (hfr_g F_603 8 rfl).trans g_602_8
    have g_603_9 := (hfr_g F_603 9 rfl).trans g_602_9
    have g_603_10 := (hfr_g F_603 10 rfl).trans g_602_10
    have g_603_11 := (hfr_g F_603 11 rfl).trans g_602_11
    have g_603_12 := (hfr_g F_603 12 rfl).trans g_602_12
    have g_603_13 := (hfr_g F_603 13 rfl).trans g_602_13
    have g_603_15 := (hfr_g F_603 15 rfl).trans g_602_15
    have g_603_51 := (hfr_g F_603 51 rfl).trans g_602_51
    have g_603_54 := (hfr_g F_603 54 rfl).trans g_602_54
    have g_603_56 := (hfr_g F_603 56 rfl).trans g_602_56
    have g_603_57 := (hfr_g F_603 57 rfl).trans g_602_57
    have g_603_58 := (hfr_g F_603 58 rfl).trans g_602_58
    have g_603_62 := (hfr_g F_603 62 rfl).trans g_602_62
    have g_603_14 : cE h_603 14 (.inr (1, [.ref 7, .ref 15, .ref 16, fI 0, fJ dr])) := e_603_14
    have g_603_16 : cE h_603 16 (.inl (.int, fA [mx_sp 0 0, mx_sp 0 0])) := e_603_16
    refine ik_Wk 0 (pc_q := 12) (loc_q := [some (.ref 14)]) (st_q := []) (h_q := h_603) (cl_q := 0) (sl_q := 0) rfl ?_
    refine ik_Wret rfl rfl ⟨_, _, rfl, rfl, ?_⟩
    refine ik_Wk 0 (pc_q := 35) (loc_q := [some (.ref 0), some (fI 0), none]) (st_q := []) (h_q := h_603) (cl_q := 0) (sl_q := 0) rfl ?_
    refine ik_Wk 1 (pc_q := 36) (loc_q := [some (.ref 0), some (fI 0), none]) (st_q := [.ref 0]) (h_q := h_603) (cl_q := 0) (sl_q := 0) rfl ?_
    refine fw_gf rfl rfl g_603_0 rfl ?_
    refine ik_Wk 1 (pc_q := 40) (loc_q := [some (.ref 0), some (fI 0), none]) (st_q := [fI 0, .ref 51]) (h_q := h_603) (cl_q := 0) (sl_q := 0) rfl ?_
    refine fx_pf rfl rfl g_603_51 (Nat.le_of_ble_eq_true rfl) rfl rfl ?_
    intro h_604 e_604 f_604 l_604
    have k_604 : cL h_604 := l_604.trans k_603
    have fr_604 := hfr_wb fr_603 f_604 l_604 rfl
    clear l_604
    have g_604_0 := (f_604 0 (Nat.ne_of_beq_eq_false rfl)).trans g_603_0
    have g_604_1 := (f_604 1 (Nat.ne_of_beq_eq_false rfl)).trans g_603_1
    have g_604_2 := (f_604 2 (Nat.ne_of_beq_eq_false rfl)).trans g_603_2
    have g_604_3 := (f_604 3 (Nat.ne_of_beq_eq_false rfl)).trans g_603_3
    have g_604_4 := (f_604 4 (Nat.ne_of_beq_eq_false rfl)).trans g_603_4
    have g_604_5 := (f_604 5 (Nat.ne_of_beq_eq_false rfl)).trans g_603_5
    have g_604_6 := (f_604 6 (Nat.ne_of_beq_eq_false rfl)).trans g_603_6
    have g_604_7 := (f_604 7 (Nat.ne_of_beq_eq_false rfl)).trans g_603_7
    have g_604_8 := (f_604 8 (Nat.ne_of_beq_eq_false rfl)).trans g_603_8
    have g_604_9 := (f_604 9 (Nat.ne_of_beq_eq_false rfl)).trans g_603_9
    have g_604_10 := (f_604 10 (Nat.ne_of_beq_eq_false rfl)).trans g_603_10
    have g_604_11 := (f_604 11 (Nat.ne_of_beq_eq_false rfl)).trans g_603_11
    have g_604_12 := (f_604 12 (Nat.ne_of_beq_eq_false rfl)).trans g_603_12
    have g_604_13 := (f_604 13 (Nat.ne_of_beq_eq_false rfl)).trans g_603_13
    have g_604_14 := (f_604 14 (Nat.ne_of_beq_eq_false rfl)).trans g_603_14
    have g_604_15 := (f_604 15 (Nat.ne_of_beq_eq_false rfl)).trans g_603_15
    have g_604_16 := (f_604 16 (Nat.ne_of_beq_eq_false rfl)).trans g_603_16
    have g_604_54 := (f_604 54 (Nat.ne_of_beq_eq_false rfl)).trans g_603_54
    have g_604_56 := (f_604 56 (Nat.ne_of_beq_eq_false rfl)).trans g_603_56
    have g_604_57 := (f_604 57 (Nat.ne_of_beq_eq_false rfl)).trans g_603_57
    have g_604_58 := (f_604 58 (Nat.ne_of_beq_eq_false rfl)).trans g_603_58
    have g_604_62 := (f_604 62 (Nat.ne_of_beq_eq_false rfl)).trans g_603_62
    have g_604_51 : cE h_604 51 (.inr (7, [.ref 7, fI 0, .ref 52, .ref 53])) := e_604
    refine ik_Wk 1 (pc_q := 44) (loc_q := [some (.ref 0), some (fI 0), none]) (st_q := [.ref 0]) (h_q := h_604) (cl_q := 0) (sl_q := 0) rfl ?_
    refine fw_gf rfl rfl g_604_0 rfl ?_
    refine ik_Wc 37 1 0 [.ref 54] [] rfl rfl rfl (by decide +kernel) rfl rfl (fw_rec k_604 rfl g_604_54 rfl (Nat.le_of_ble_eq_true rfl)) ?_
    refine ik_Wk 0 (pc_q := 0) (loc_q := [some (.ref 54)]) (st_q := []) (h_q := h_604) (cl_q := 0) (sl_q := 0) rfl ?_
    refine ik_Wk 1 (pc_q := 1) (loc_q := [some (.ref 54)]) (st_q := [.ref 54]) (h_q := h_604) (cl_q := 0) (sl_q := 0) rfl ?_
    refine fw_gf rfl rfl g_604_54 rfl ?_
    refine ik_Wk 2 (pc_q := 6) (loc_q := [some (.ref 54)]) (st_q := [fI 0, fI 0, .ref 56]) (h_q := h_604) (cl_q := 0) (sl_q := 0) rfl ?_
    refine fx_ias (z := 0) rfl g_604_56 (by decide +kernel) (Nat.le_of_ble_eq_true rfl) (by decide +kernel) ?_
    intro h_605 e_605 f_605 l_605
    have k_605 : cL h_605 := l_605.trans k_604
    have fr_605 := hfr_wb fr_604 f_605 l_605 rfl
    clear l_605
    have g_605_0 := (f_605 0 (Nat.ne_of_beq_eq_false rfl)).trans g_604_0
    have g_605_1 := (f_605 1 (Nat.ne_of_beq_eq_false rfl)).trans g_604_1
    have g_605_2 := (f_605 2 (Nat.ne_of_beq_eq_false rfl)).trans g_604_2
    have g_605_3 := (f_605 3 (Nat.ne_of_beq_eq_false rfl)).trans g_604_3
    have g_605_4 := (f_605 4 (Nat.ne_of_beq_eq_false rfl)).trans g_604_4
    have g_605_5 := (f_605 5 (Nat.ne_of_beq_eq_false rfl)).trans g_604_5
    have g_605_6 := (f_605 6 (Nat.ne_of_beq_eq_false rfl)).trans g_604_6
    have g_605_7 := (f_605 7 (Nat.ne_of_beq_eq_false rfl)).trans g_604_7
    have g_605_8 := (f_605 8 (Nat.ne_of_beq_eq_false rfl)).trans g_604_8
    have g_605_9 := (f_605 9 (Nat.ne_of_beq_eq_false rfl)).trans g_604_9
    have g_605_10 := (f_605 10 (Nat.ne_of_beq_eq_false rfl)).trans g_604_10
    have g_605_11 := (f_605 11 (Nat.ne_of_beq_eq_false rfl)).trans g_604_11
    have g_605_12 := (f_605 12 (Nat.ne_of_beq_eq_false rfl)).trans g_604_12
    have g_605_13 := (f_605 13 (Nat.ne_of_beq_eq_false rfl)).trans g_604_13
    have g_605_14 := (f_605 14 (Nat.ne_of_beq_eq_false rfl)).trans g_604_14
    have g_605_15 := (f_605 15 (Nat.ne_of_beq_eq_false rfl)).trans g_604_15
    have g_605_16 := (f_605 16 (Nat.ne_of_beq_eq_false rfl)).trans g_604_16
    have g_605_51 := (f_605 51 (Nat.ne_of_beq_eq_false rfl)).trans g_604_51
    have g_605_54 := (f_605 54 (Nat.ne_of_beq_eq_false rfl)).trans g_604_54
    have g_605_57 := (f_605 57 (Nat.ne_of_beq_eq_false rfl)).trans g_604_57
    have g_605_58 := (f_605 58 (Nat.ne_of_beq_eq_false rfl)).trans g_604_58
    have g_605_62 := (f_605 62 (Nat.ne_of_beq_eq_false rfl)).trans g_604_62
    have g_605_56 : cE h_605 56 (.inl (.int, fA [0, n1])) := e_605
    refine ik_Wk 1 (pc_q := 8) (loc_q := [some (.ref 54)]) (st_q := [.ref 54]) (h_q := h_605) (cl_q := 0) (sl_q := 0) rfl ?_
    refine fw_gf rfl rfl g_605_54 rfl ?_
    refine ik_Wk 2 (pc_q := 13) (loc_q := [some (.ref 54)]) (st_q := [fI 0, fI 1, .ref 56]) (h_q := h_605) (cl_q := 0) (sl_q := 0) rfl ?_
    refine fx_ias (z := 1) rfl g_605_56 (by decide +kernel) (Nat.le_of_ble_eq_true rfl) (by decide +kernel) ?_
    intro h_606 e_606 f_606 l_606
    have k_606 : cL h_606 := l_606.trans k_605
    have fr_606 := hfr_wb fr_605 f_606 l_606 rfl
    clear l_606
    have g_606_0 := (f_606 0 (Nat.ne_of_beq_eq_false rfl)).trans g_605_0
    have g_606_1 := (f_606 1 (Nat.ne_of_beq_eq_false rfl)).trans g_605_1
    have g_606_2 := (f_606 2 (Nat.ne_of_beq_eq_false rfl)).trans g_605_2
    have g_606_3 := (f_606 3 (Nat.ne_of_beq_eq_false rfl)).trans g_605_3
    have g_606_4 := (f_606 4 (Nat.ne_of_beq_eq_false rfl)).trans g_605_4
    have g_606_5 := (f_606 5 (Nat.ne_of_beq_eq_false rfl)).trans g_605_5
    have g_606_6 := (f_606 6 (Nat.ne_of_beq_eq_false rfl)).trans g_605_6
    have g_606_7 := (f_606 7 (Nat.ne_of_beq_eq_false rfl)).trans g_605_7
    have g_606_8 := (f_606 8 (Nat.ne_of_beq_eq_false rfl)).trans g_605_8
    have g_606_9 := (f_606 9 (Nat.ne_of_beq_eq_false rfl)).trans g_605_9
    have g_606_10 := (f_606 10 (Nat.ne_of_beq_eq_false rfl)).trans g_605_10
    have g_606_11 := (f_606 11 (Nat.ne_of_beq_eq_false rfl)).trans g_605_11
    have g_606_12 := (f_606 12 (Nat.ne_of_beq_eq_false rfl)).trans g_605_12
    have g_606_13 := (f_606 13 (Nat.ne_of_beq_eq_false rfl)).trans g_605_13
    have g_606_14 := (f_606 14 (Nat.ne_of_beq_eq_false rfl)).trans g_605_14
    have g_606_15 := (f_606 15 (Nat.ne_of_beq_eq_false rfl)).trans g_605_15
    have g_606_16 := (f_606 16 (Nat.ne_of_beq_eq_false rfl)).trans g_605_16
    have g_606_51 := (f_606 51 (Nat.ne_of_beq_eq_false rfl)).trans g_605_51
    have g_606_54 := (f_606 54 (Nat.ne_of_beq_eq_false rfl)).trans g_605_54
    have g_606_57 := (f_606 57 (Nat.ne_of_beq_eq_false rfl)).trans g_605_57
    have g_606_58 := (f_606 58 (Nat.ne_of_beq_eq_false rfl)).trans g_605_58
    have g_606_62 := (f_606 62 (Nat.ne_of_beq_eq_false rfl)).trans g_605_62
    have g_606_56 : cE h_606 56 (.inl (.int, fA [0, 0])) := e_606
    refine ik_Wret rfl rfl ⟨_, _, rfl, rfl, ?_⟩
    refine ik_Wk 0 (pc_q := 50) (loc_q := [some (.ref 0), some (fI 0), none]) (st_q := []) (h_q := h_606) (cl_q := 0) (sl_q := 0) rfl ?_
    refine ik_Wk 4 (pc_q := 54) (loc_q := [some (.ref 0), some (fI 0), some (fI 0)]) (st_q := [.ref 0, fI 0]) (h_q := h_606) (cl_q := 0) (sl_q := 0) rfl ?_
    refine fw_gf rfl rfl g_606_0 rfl ?_
    refine fx_aln (L := 2) rfl g_606_57 (rfl : [(.ref 58 : Value), (.ref 62 : Value)].length = 2) (by decide +kernel) ?_
    refine fw_ic_ge rfl rfl (by omega) (by omega) (by omega) (by omega) (fun hc10 => absurd hc10 (by omega)) (fun hc10 => ?_)
    refine ik_Wk 1 (pc_q := 62) (loc_q := [some (.ref 0), some (fI 0), some (fI 0)]) (st_q := [.ref 0]) (h_q := h_606) (cl_q := 0) (sl_q := 0) rfl ?_
    refine fw_gf rfl rfl g_606_0 rfl ?_
    refine ik_Wk 1 (pc_q := 66) (loc_q := [some (.ref 0), some (fI 0), some (fI 0)]) (st_q := [fI 0, .ref 57]) (h_q := h_606) (cl_q := 0) (sl_q := 0) rfl ?_
    refine fx_aal (z := 0) rfl g_606_57 (by decide +kernel) (by decide +kernel) rfl ?_
    refine ik_Wk 1 (pc_q := 68) (loc_q := [some (.ref 0), some (fI 0), some (fI 0)]) (st_q := [fI 0, .ref 58]) (h_q := h_606) (cl_q := 0) (sl_q := 0) rfl ?_
    refine fx_pf rfl rfl g_606_58 (Nat.le_of_ble_eq_true rfl) rfl rfl ?_
    intro h_607 e_607 f_607 l_607
    have k_607 : cL h_607 := l_607.trans k_606
    have fr_607 := hfr_wb fr_606 f_607 l_607 rfl
    clear l_607
    have g_607_0 := (f_607 0 (Nat.ne_of_beq_eq_false rfl)).trans g_606_0
    have g_607_1 := (f_607 1 (Nat.ne_of_beq_eq_false rfl)).trans g_606_1
    have g_607_2 := (f_607 2 (Nat.ne_of_beq_eq_false rfl)).trans g_606_2
    have g_607_3 := (f_607 3 (Nat.ne_of_beq_eq_false rfl)).trans g_606_3
    have g_607_4 := (f_607 4 (Nat.ne_of_beq_eq_false rfl)).trans g_606_4
    have g_607_5 := (f_607 5 (Nat.ne_of_beq_eq_false rfl)).trans g_606_5
    have g_607_6 := (f_607 6 (Nat.ne_of_beq_eq_false rfl)).trans g_606_6
    have g_607_7 := (f_607 7 (Nat.ne_of_beq_eq_false rfl)).trans g_606_7
    have g_607_8 := (f_607 8 (Nat.ne_of_beq_eq_false rfl)).trans g_606_8
    have g_607_9 := (f_607 9 (Nat.ne_of_beq_eq_false rfl)).trans g_606_9
    have g_607_10 := (f_607 10 (Nat.ne_of_beq_eq_false rfl)).trans g_606_10
    have g_607_11 := (f_607 11 (Nat.ne_of_beq_eq_false rfl)).trans g_606_11
    have g_607_12 := (f_607 12 (Nat.ne_of_beq_eq_false rfl)).trans g_606_12
    have g_607_13 := (f_607 13 (Nat.ne_of_beq_eq_false rfl)).trans g_606_13
    have g_607_14 := (f_607 14 (Nat.ne_of_beq_eq_false rfl)).trans g_606_14
    have g_607_15 := (f_607 15 (Nat.ne_of_beq_eq_false rfl)).trans g_606_15
    have g_607_16 := (f_607 16 (Nat.ne_of_beq_eq_false rfl)).trans g_606_16
    have g_607_51 := (f_607 51 (Nat.ne_of_beq_eq_false rfl)).trans g_606_51
    have g_607_54 := (f_607 54 (Nat.ne_of_beq_eq_false rfl)).trans g_606_54
    have g_607_56 := (f_607 56 (Nat.ne_of_beq_eq_false rfl)).trans g_606_56
    have g_607_57 := (f_607 57 (Nat.ne_of_beq_eq_false rfl)).trans g_606_57
    have g_607_62 := (f_607 62 (Nat.ne_of_beq_eq_false rfl)).trans g_606_62
    have g_607_58 : cE h_607 58 (.inr (3, [fI 0, .ref 59, .ref 60, fI tm0, fJ td0, fI ts0, .ref 61])) := e_607
    refine fw_inc (a := 0) (loc_q := [some (.ref 0), some (fI 0), some (fI 1)]) rfl rfl (Nat.le_of_ble_eq_true rfl) rfl ?_
    refine ik_Wk 3 (pc_q := 54) (loc_q := [some (.ref 0), some (fI 0), some (fI 1)]) (st_q := [.ref 0, fI 1]) (h_q := h_607) (cl_q := 0) (sl_q := 0) rfl ?_
    refine fw_gf rfl rfl g_607_0 rfl ?_
    refine fx_aln (L := 2) rfl g_607_57 (rfl : [(.ref 58 : Value), (.ref 62 : Value)].length = 2) (by decide +kernel) ?_
    refine fw_ic_ge rfl rfl (by omega) (by omega) (by omega) (by omega) (fun hc11 => absurd hc11 (by omega)) (fun hc11 => ?_)
    refine ik_Wk 1 (pc_q := 62) (loc_q := [some (.ref 0), some (fI 0), some (fI 1)]) (st_q := [.ref 0]) (h_q := h_607) (cl_q := 0) (sl_q := 0) rfl ?_
    refine fw_gf rfl rfl g_607_0 rfl ?_
    refine ik_Wk 1 (pc_q := 66) (loc_q := [some (.ref 0), some (fI 0), some (fI 1)]) (st_q := [fI 1, .ref 57]) (h_q := h_607) (cl_q := 0) (sl_q := 0) rfl ?_
    refine fx_aal (z := 1) rfl g_607_57 (by decide +kernel) (by decide +kernel) rfl ?_
    refine ik_Wk 1 (pc_q := 68) (loc_q := [some (.ref 0), some (fI 0), some (fI 1)]) (st_q := [fI 0, .ref 62]) (h_q := h_607) (cl_q := 0) (sl_q := 0) rfl ?_
    refine fx_pf rfl rfl g_607_62 (Nat.le_of_ble_eq_true rfl) rfl rfl ?_
    intro h_608 e_608 f_608 l_608
    have k_608 : cL h_608 := l_608.trans k_607
    have fr_608 := hfr_wb fr_607 f_608 l_608 rfl
    clear l_608
    have g_608_0 := (f_608 0 (Nat.ne_of_beq_eq_false rfl)).trans g_607_0
    have g_608_1 := (f_608 1 (Nat.ne_of_beq_eq_false rfl)).trans g_607_1
    have g_608_2 := (f_608 2 (Nat.ne_of_beq_eq_false rfl)).trans g_607_2
    have g_608_3 := (f_608 3 (Nat.ne_of_beq_eq_false rfl)).trans g_607_3
    have g_608_4 := (f_608 4 (Nat.ne_of_beq_eq_false rfl)).trans g_607_4
    have g_608_5 := (f_608 5 (Nat.ne_of_beq_eq_false rfl)).trans g_607_5
    have g_608_6 := (f_608 6 (Nat.ne_of_beq_eq_false rfl)).trans g_607_6
    have g_608_7 := (f_608 7 (Nat.ne_of_beq_eq_false rfl)).trans g_607_7
    have g_608_8 := (f_608 8 (Nat.ne_of_beq_eq_false rfl)).trans g_607_8
    have g_608_9 := (f_608 9 (Nat.ne_of_beq_eq_false rfl)).trans g_607_9
    have g_608_10 := (f_608 10 (Nat.ne_of_beq_eq_false rfl)).trans g_607_10
    have g_608_11 := (f_608 11 (Nat.ne_of_beq_eq_false rfl)).trans g_607_11
    have g_608_12 := (f_608 12 (Nat.ne_of_beq_eq_false rfl)).trans g_607_12
    have g_608_13 := (f_608 13 (Nat.ne_of_beq_eq_false rfl)).trans g_607_13
    have g_608_14 := (f_608 14 (Nat.ne_of_beq_eq_false rfl)).trans g_607_14
    have g_608_15 := (f_608 15 (Nat.ne_of_beq_eq_false rfl)).trans g_607_15
    have g_608_16 := (f_608 16 (Nat.ne_of_beq_eq_false rfl)).trans g_607_16
    have g_608_51 := (f_608 51 (Nat.ne_of_beq_eq_false rfl)).trans g_607_51
    have g_608_54 := (f_608 54 (Nat.ne_of_beq_eq_false rfl)).trans g_607_54
    have g_608_56 := (f_608 56 (Nat.ne_of_beq_eq_false rfl)).trans g_607_56
    have g_608_57 := (f_608 57 (Nat.ne_of_beq_eq_false rfl)).trans g_607_57
    have g_608_58 := (f_608 58 (Nat.ne_of_beq_eq_false rfl)).trans g_607_58
    have g_608_62 : cE h_608 62 (.inr (3, [fI 0, .ref 63, .ref 64, fI tm1, fJ td1, fI ts1, .ref 65])) := e_608
    refine fw_inc (a := 1) (loc_q := [some (.ref 0), some (fI 0), some (fI 2)]) rfl rfl (Nat.le_of_ble_eq_true rfl) rfl ?_
    refine ik_Wk 3 (pc_q := 54) (loc_q := [some (.ref 0), some (fI 0), some (fI 2)]) (st_q := [.ref 0, fI 2]) (h_q := h_608) (cl_q := 0) (sl_q := 0) rfl ?_
    refine fw_gf rfl rfl g_608_0 rfl ?_
    refine fx_aln (L := 2) rfl g_608_57 (rfl : [(.ref 58 : Value), (.ref 62 : Value)].length = 2) (by decide +kernel) ?_
    refine fw_ic_ge rfl rfl (by omega) (by omega) (by omega) (by omega) (fun hc12 => ?_) (fun hc12 => absurd hc12 (by omega))
    refine ik_Wk 1 (pc_q := 78) (loc_q := [some (.ref 0), some (fI 0), some (fI 2)]) (st_q := [.ref 0]) (h_q := h_608) (cl_q := 0) (sl_q := 0) rfl ?_
    refine fw_gf rfl rfl g_608_0 rfl ?_
    refine fw_gf rfl rfl g_608_7 rfl ?_
    exact ik_Wret rfl rfl ⟨_, _, rfl, rfl, rfl, rfl, Or.inr ⟨q_588, cu'_588, C'_588, G'_588, P'_588, B'_588, wg'_594, wc'_594, we'_594, rfl, g_608_1, g_608_2, m_588_2, g_608_3, m_588_3, g_608_4, m_588_4, g_608_5, m_588_5, g_608_6, m_588_6, g_608_7, g_608_8, m_588_3, g_608_9, m_588_4, g_608_10, m_588_5, g_608_11, m_594_11, g_608_12, m_594_12, g_608_13, m_594_13, g_608_14, g_608_15, g_608_16, g_608_51, g_608_56, g_608_58, g_608_62, p_588_0, p_588_1, p_588_2, p_588_3, p_594_0, fr_608⟩⟩

theorem rp_streamM {h : List ik_E} {f : Nat → Int} {tn : Int} {fp : Int} {a0 : Int} {sd : Int} {we : Int} {nu : Int} {na : Int} {rp : Int} {ka : Int} {pa : Int} {fa : Int} {kb : Int} {pb : Int} {fb : Int} {xa : Int} {xb : Int} {cn : List Int} {go : List Int} {ch : List Int} {T : List Int} {M : List Int} {Rq : List Int} {O : List Int} {A : List Int} {y : Int → Int} {n0 : Int} {n1 : Int} {t0 : Int} {t1 : Int} (q0 : ∀ i : Int, (0 : Int) ≤ i → i < tn → 0 ≤ T.getD i.toNat 0 ∧ T.getD i.toNat 0 ≤ 255) (q1 : (0 : Int) ≤ tn ∧ tn ≤ (500 : Int)) (q2 : ∀ i : Int, (0 : Int) ≤ i → i < tn → y i = T.getD i.toNat 0) (q : Int × List (List zM)) (a1 : Int) (sd1 : Int) (we1 : Int) (nu1 : Int) (na1 : Int) (M1 : List Int) (R1 : List Int) (O1 : List Int) (A1 : List Int) {R : List Value → List ik_E → Prop} (K : ∀ (w : List ik_E) (i2 : Int) (w66 : cE w 66 (.inr (10, (fI q.1 :: .ref 67 :: .ref 68 :: .ref 69 :: fI (f 4) :: .ref 70 :: .ref 71 :: fI (f 7) :: fI (f 8) :: .ref 72 :: fI 0 :: fI (-1) :: fI a1 :: fJ sd1 :: fI we1 :: fI nu1 :: fI na1 :: fI q.1 :: .ref 73 :: .ref 74 :: .ref 75 :: .ref 76 :: .ref 77 :: .ref 78 :: fI (f 24) :: .ref 79 :: .ref 80 :: .ref 81 :: .ref 82 :: .ref 83 :: .ref 84 :: .ref 85 :: fJ (f 32) :: fJ (f 33) :: .ref 86 :: .ref 87 :: fI (f 36) :: .ref 88 :: .ref 89 :: .ref 90 :: .ref 91 :: .ref 92 :: .ref 93 :: [])))) (w67 : cE w 67 (.inl (.int, fA cn))) (nw_67 : cn.length = (12 : Nat)) (w68 : cE w 68 (.inl (.int, fA R1))) (nw_68 : R1.length = (48 : Nat)) (w69 : cE w 69 (.inl (.int, fA O1))) (nw_69 : O1.length = (48 : Nat)) (w70 : cE w 70 (.inl (.int, fA [ka, pa, fa, kb, pb, fb]))) (w71 : cE w 71 (.inl (.int, fA [xa, xb]))) (w72 : cE w 72 (.inl (.int, fA T))) (nw_72 : T.length = (500 : Nat)) (w73 : cE w 73 (.inl (.int, fA M1))) (nw_73 : M1.length = (12 : Nat)) (w74 : cE w 74 (.inl (.int, fA R1))) (nw_74 : R1.length = (48 : Nat)) (w75 : cE w 75 (.inl (.int, fA O1))) (nw_75 : O1.length = (48 : Nat)) (w76 : cE w 76 (.inl (.int, fA A1))) (nw_76 : A1.length = (48 : Nat)) (w90 : cE w 90 (.inl (.int, fA [n0, n1]))) (w93 : cE w 93 (.inl (.boolean, fA [t0, t1]))) (wl : w.length = (94 : Nat)) (F : hfr [66, 67, 68, 69, 70, 71, 72, 73, 74, 75, 76, 90, 93] h w) , ik_G 147 80 [some (.ref 66), some (fI 0), some (fI i2)] [] w R) : ∀ (k : Nat) (i : Int) (g1 : List Int) (o1 : List Int) (u : List ik_E) (u66 : cE u 66 (.inr (10, (fI q.1 :: .ref 67 :: .ref 68 :: .ref 69 :: fI (f 4) :: .ref 70 :: .ref 71 :: fI (f 7) :: fI (f 8) :: .ref 72 :: fI 0 :: fI (-1) :: fI a1 :: fJ sd1 :: fI we1 :: fI nu1 :: fI na1 :: fI q.1 :: .ref 73 :: .ref 74 :: .ref 75 :: .ref 76 :: .ref 77 :: .ref 78 :: fI (f 24) :: .ref 79 :: .ref 80 :: .ref 81 :: .ref 82 :: .ref 83 :: .ref 84 :: .ref 85 :: fJ (f 32) :: fJ (f 33) :: .ref 86 :: .ref 87 :: fI (f 36) :: .ref 88 :: .ref 89 :: .ref 90 :: .ref 91 :: .ref 92 :: .ref 93 :: [])))) (u67 : cE u 67 (.inl (.int, fA cn))) (n67 : cn.length = (12 : Nat)) (u68 : cE u 68 (.inl (.int, fA g1))) (n68 : g1.length = (48 : Nat)) (u69 : cE u 69 (.inl (.int, fA o1))) (n69 : o1.length = (48 : Nat)) (u70 : cE u 70 (.inl (.int, fA [ka, pa, fa, kb, pb, fb]))) (u71 : cE u 71 (.inl (.int, fA [xa, xb]))) (u72 : cE u 72 (.inl (.int, fA T))) (n72 : T.length = (500 : Nat)) (u73 : cE u 73 (.inl (.int, fA M1))) (n73 : M1.length = (12 : Nat)) (u74 : cE u 74 (.inl (.int, fA R1))) (n74 : R1.length = (48 : Nat)) (u75 : cE u 75 (.inl (.int, fA O1))) (n75 : O1.length = (48 : Nat)) (u76 : cE u 76 (.inl (.int, fA A1))) (n76 : A1.length = (48 : Nat)) (u90 : cE u 90 (.inl (.int, fA [n0, n1]))) (u93 : cE u 93 (.inl (.boolean, fA [t0, t1]))) (ul : u.length = (94 : Nat)) (F : hfr [66, 67, 68, 69, 70, 71, 72, 73, 74, 75, 76, 90, 93] h u) (hi : (0 : Int) ≤ i ∧ i ≤ (48 : Int)) (hg : ∀ j : Nat, (j : Int) < i → g1.getD j 0 = R1.getD j 0) (ho : ∀ j : Nat, (j : Int) < i → o1.getD j 0 = O1.getD j 0) (hk : 48 - i < (k : Int)), ik_G 147 44 [some (.ref 66), some (fI 0), some (fI i)] [] u R := by
  intro k
  induction k with
  | zero => intro i g1 o1 u u66 u67 n67 u68 n68 u69 n69 u70 u71 u72 n72 u73 n73 u74 n74 u75 n75 u76 n76 u90 u93 ul F hi hg ho hk; omega
  | succ k ih =>
    intro i g1 o1 u u66 u67 n67 u68 n68 u69 n69 u70 u71 u72 n72 u73 n73 u74 n74 u75 n75 u76 n76 u90 u93 ul F hi hg ho hk
    refine ik_Wk 1 (pc_q := 45) (loc_q := [some (.ref 66), some (fI 0), some (fI i)]) (st_q := [fI i]) (h_q := u) (cl_q := 0) (sl_q := 0) rfl ?_
    refine fw_bi rfl (by decide +kernel) ?_
    refine fw_ic_ge rfl rfl (by omega) (by omega) (by omega) (by omega) (fun hc1 => ?_) (fun hc1 => ?_)
    · have e1 : g1 = R1 := mx_ext (by rw [n68, n74]) (fun j => by
        rcases Nat.lt_or_ge j 48 with z | z
        · exact hg j (by omega)
        · rw [mi_out (by omega), mi_out (by omega)])
      have e2 : o1 = O1 := mx_ext (by rw [n69, n75]) (fun j => by
        rcases Nat.lt_or_ge j 48 with z | z
        · exact ho j (by omega)
        · rw [mi_out (by omega), mi_out (by omega)])
      subst e1 e2
      exact K u i u66 u67 n67 u68 n68 u69 n69 u70 u71 u72 n72 u73 n73 u74 n74 u75 n75 u76 n76 u90 u93 ul F
    · refine ik_Wk 1 (pc_q := 51) (loc_q := [some (.ref 66), some (fI 0), some (fI i)]) (st_q := [.ref 66]) (h_q := u) (cl_q := 0) (sl_q := 0) rfl ?_
      refine fw_gf rfl rfl u66 rfl ?_
      refine ik_Wk 2 (pc_q := 56) (loc_q := [some (.ref 66), some (fI 0), some (fI i)]) (st_q := [.ref 66, fI i, .ref 68]) (h_q := u) (cl_q := 0) (sl_q := 0) rfl ?_
      refine fw_gf rfl rfl u66 rfl ?_
      refine ik_Wk 1 (pc_q := 60) (loc_q := [some (.ref 66), some (fI 0), some (fI i)]) (st_q := [fI i, .ref 74, fI i, .ref 68]) (h_q := u) (cl_q := 0) (sl_q := 0) rfl ?_
      refine fw_ial rfl u74 (by omega) (by omega) (by omega) ?_
      have hl2 : (g1.set i.toNat (R1.getD i.toNat 0)).length = 48 := (List.length_set ..).trans n68
      refine fx_ias rfl u68 (by omega) (by omega) (by omega) ?_
      intro h_609 e_609 f_609 l_609
      have k_609 : cL h_609 := l_609.trans ul
      have fr_609 := hfr_wb F f_609 l_609 rfl
      clear l_609
      have g_609_66 := (f_609 66 (Nat.ne_of_beq_eq_false rfl)).trans u66
      have g_609_67 := (f_609 67 (Nat.ne_of_beq_eq_false rfl)).trans u67
      have g_609_69 := (f_609 69 (Nat.ne_of_beq_eq_false rfl)).trans u69
      have g_609_70 := (f_609 70 (Nat.ne_of_beq_eq_false rfl)).trans u70
      have g_609_71 := (f_609 71 (Nat.ne_of_beq_eq_false rfl)).trans u71
      have g_609_72 := (f_609 72 (Nat.ne_of_beq_eq_false rfl)).trans u72
      have g_609_73 := (f_609 73 (Nat.ne_of_beq_eq_false rfl)).trans u73
      have g_609_74 := (f_609 74 (Nat.ne_of_beq_eq_false rfl)).trans u74
      have g_609_75 := (f_609 75 (Nat.ne_of_beq_eq_false rfl)).trans u75
      have g_609_76 := (f_609 76 (Nat.ne_of_beq_eq_false rfl)).trans u76
      have g_609_90 := (f_609 90 (Nat.ne_of_beq_eq_false rfl)).trans u90
      have g_609_93 := (f_609 93 (Nat.ne_of_beq_eq_false rfl)).trans u93
      have g_609_68 : cE h_609 68 (.inl (.int, fA (g1.set i.toNat (R1.getD i.toNat 0)))) := e_609
      refine ik_Wk 1 (pc_q := 63) (loc_q := [some (.ref 66), some (fI 0), some (fI i)]) (st_q := [.ref 66]) (h_q := h_609) (cl_q := 0) (sl_q := 0) rfl ?_
      refine fw_gf rfl rfl g_609_66 rfl ?_
      refine ik_Wk 2 (pc_q := 68) (loc_q := [some (.ref 66), some (fI 0), some (fI i)]) (st_q := [.ref 66, fI i, .ref 69]) (h_q := h_609) (cl_q := 0) (sl_q := 0) rfl ?_
      refine fw_gf rfl rfl g_609_66 rfl ?_
      refine ik_Wk 1 (pc_q := 72) (loc_q := [some (.ref 66), some (fI 0), some (fI i)]) (st_q := [fI i, .ref 75, fI i, .ref 69]) (h_q := h_609) (cl_q := 0) (sl_q := 0) rfl ?_
      refine fw_ial rfl g_609_75 (by omega) (by omega) (by omega) ?_
      have hl3 : (o1.set i.toNat (O1.getD i.toNat 0)).length = 48 := (List.length_set ..).trans n69
      refine fx_ias rfl g_609_69 (by omega) (by omega) (by omega) ?_
      intro h_610 e_610 f_610 l_610
      have k_610 : cL h_610 := l_610.trans k_609
      have fr_610 := hfr_wb fr_609 f_610 l_610 rfl
      clear l_610
      have g_610_66 := (f_610 66 (Nat.ne_of_beq_eq_false rfl)).trans g_609_66
      have g_610_67 := (f_610 67 (Nat.ne_of_beq_eq_false rfl)).trans g_609_67
      have g_610_68 := (f_610 68 (Nat.ne_of_beq_eq_false rfl)).trans g_609_68
      have g_610_70 := (f_610 70 (Nat.ne_of_beq_eq_false rfl)).trans g_609_70
      have g_610_71 := (f_610 71 (Nat.ne_of_beq_eq_false rfl)).trans g_609_71
      have g_610_72 := (f_610 72 (Nat.ne_of_beq_eq_false rfl)).trans g_609_72
      have g_610_73 := (f_610 73 (Nat.ne_of_beq_eq_false rfl)).trans g_609_73
      have g_610_74 := (f_610 74 (Nat.ne_of_beq_eq_false rfl)).trans g_609_74
      have g_610_75 := (f_610 75 (Nat.ne_of_beq_eq_false rfl)).trans g_609_75
      have g_610_76 := (f_610 76 (Nat.ne_of_beq_eq_false rfl)).trans g_609_76
      have g_610_90 := (f_610 90 (Nat.ne_of_beq_eq_false rfl)).trans g_609_90
      have g_610_93 := (f_610 93 (Nat.ne_of_beq_eq_false rfl)).trans g_609_93
      have g_610_69 : cE h_610 69 (.inl (.int, fA (o1.set i.toNat (O1.getD i.toNat 0)))) := e_610
      refine fw_inc (a := i) (loc_q := [some (.ref 66), some (fI 0), some (fI (i + 1))]) rfl rfl (Nat.le_of_ble_eq_true rfl) rfl ?_
      refine ik_Wk 1 (pc_q := 44) (loc_q := [some (.ref 66), some (fI 0), some (fI (i + 1))]) (st_q := []) (h_q := h_610) (cl_q := 0) (sl_q := 0) rfl ?_
      have hg2 : ∀ j : Nat, (j : Int) < i + 1 → (g1.set i.toNat (R1.getD i.toNat 0)).getD j 0 = R1.getD j 0 := by
        intro j hj
        rw [fz_getD_set]
        by_cases z : j = i.toNat
        · rw [if_pos ⟨z, by omega⟩, z]
        · rw [if_neg (fun y => z y.1)]; exact hg j (by omega)
      have ho2 : ∀ j : Nat, (j : Int) < i + 1 → (o1.set i.toNat (O1.getD i.toNat 0)).getD j 0 = O1.getD j 0 := by
        intro j hj
        rw [fz_getD_set]
        by_cases z : j = i.toNat
        · rw [if_pos ⟨z, by omega⟩, z]
        · rw [if_neg (fun y => z y.1)]; exact ho j (by omega)
      exact ih (i + 1) (g1.set i.toNat (R1.getD i.toNat 0)) (o1.set i.toNat (O1.getD i.toNat 0)) h_610 g_610_66 g_610_67 n67 g_610_68 hl2 g_610_69 hl3 g_610_70 g_610_71 g_610_72 n72 g_610_73 n73 g_610_74 n74 g_610_75 n75 g_610_76 n76 g_610_90 g_610_93 k_610 fr_610 (by omega) hg2 ho2 (by omega)

theorem rp_streamN {h : List ik_E} {f : Nat → Int} {tn : Int} {fp : Int} {a0 : Int} {sd : Int} {we : Int} {nu : Int} {na : Int} {rp : Int} {ka : Int} {pa : Int} {fa : Int} {kb : Int} {pb : Int} {fb : Int} {xa : Int} {xb : Int} {cn : List Int} {go : List Int} {ch : List Int} {T : List Int} {M : List Int} {Rq : List Int} {O : List Int} {A : List Int} {y : Int → Int} {n0 : Int} {n1 : Int} {t0 : Int} {t1 : Int} (q0 : ∀ i : Int, (0 : Int) ≤ i → i < tn → 0 ≤ T.getD i.toNat 0 ∧ T.getD i.toNat 0 ≤ 255) (q1 : (0 : Int) ≤ tn ∧ tn ≤ (500 : Int)) (q2 : ∀ i : Int, (0 : Int) ≤ i → i < tn → y i = T.getD i.toNat 0) (q : Int × List (List zM)) (a1 : Int) (sd1 : Int) (we1 : Int) (nu1 : Int) (na1 : Int) (M1 : List Int) (R1 : List Int) (O1 : List Int) (A1 : List Int) (hq : 0 ≤ q.1 ∧ q.1 ≤ 12) {R : List Value → List ik_E → Prop} (K : ∀ (w : List ik_E) (i2 : Int) (c2 : List Int) (w66 : cE w 66 (.inr (10, (fI q.1 :: .ref 67 :: .ref 68 :: .ref 69 :: fI (f 4) :: .ref 70 :: .ref 71 :: fI (f 7) :: fI (f 8) :: .ref 72 :: fI 0 :: fI (-1) :: fI a1 :: fJ sd1 :: fI we1 :: fI nu1 :: fI na1 :: fI q.1 :: .ref 73 :: .ref 74 :: .ref 75 :: .ref 76 :: .ref 77 :: .ref 78 :: fI (f 24) :: .ref 79 :: .ref 80 :: .ref 81 :: .ref 82 :: .ref 83 :: .ref 84 :: .ref 85 :: fJ (f 32) :: fJ (f 33) :: .ref 86 :: .ref 87 :: fI (f 36) :: .ref 88 :: .ref 89 :: .ref 90 :: .ref 91 :: .ref 92 :: .ref 93 :: [])))) (w67 : cE w 67 (.inl (.int, fA c2))) (nw_67 : c2.length = (12 : Nat)) (w68 : cE w 68 (.inl (.int, fA R1))) (nw_68 : R1.length = (48 : Nat)) (w69 : cE w 69 (.inl (.int, fA O1))) (nw_69 : O1.length = (48 : Nat)) (w70 : cE w 70 (.inl (.int, fA [ka, pa, fa, kb, pb, fb]))) (w71 : cE w 71 (.inl (.int, fA [xa, xb]))) (w72 : cE w 72 (.inl (.int, fA T))) (nw_72 : T.length = (500 : Nat)) (w73 : cE w 73 (.inl (.int, fA M1))) (nw_73 : M1.length = (12 : Nat)) (w74 : cE w 74 (.inl (.int, fA R1))) (nw_74 : R1.length = (48 : Nat)) (w75 : cE w 75 (.inl (.int, fA O1))) (nw_75 : O1.length = (48 : Nat)) (w76 : cE w 76 (.inl (.int, fA A1))) (nw_76 : A1.length = (48 : Nat)) (w90 : cE w 90 (.inl (.int, fA [n0, n1]))) (w93 : cE w 93 (.inl (.boolean, fA [t0, t1]))) (wl : w.length = (94 : Nat)) (F : hfr [66, 67, 68, 69, 70, 71, 72, 73, 74, 75, 76, 90, 93] h w) (hm : (∀ x : Int, 0 ≤ x → x < q.1 - 1 → c2.getD x.toNat 0 = M1.getD x.toNat 0) ∧ ∀ x : Nat, q.1 - 1 ≤ (x : Int) → c2.getD x 0 = 0), ik_G 147 120 [some (.ref 66), some (fI 0), some (fI i2)] [] w R) : ∀ (k : Nat) (i : Int) (c1 : List Int) (u : List ik_E) (u66 : cE u 66 (.inr (10, (fI q.1 :: .ref 67 :: .ref 68 :: .ref 69 :: fI (f 4) :: .ref 70 :: .ref 71 :: fI (f 7) :: fI (f 8) :: .ref 72 :: fI 0 :: fI (-1) :: fI a1 :: fJ sd1 :: fI we1 :: fI nu1 :: fI na1 :: fI q.1 :: .ref 73 :: .ref 74 :: .ref 75 :: .ref 76 :: .ref 77 :: .ref 78 :: fI (f 24) :: .ref 79 :: .ref 80 :: .ref 81 :: .ref 82 :: .ref 83 :: .ref 84 :: .ref 85 :: fJ (f 32) :: fJ (f 33) :: .ref 86 :: .ref 87 :: fI (f 36) :: .ref 88 :: .ref 89 :: .ref 90 :: .ref 91 :: .ref 92 :: .ref 93 :: [])))) (u67 : cE u 67 (.inl (.int, fA c1))) (n67 : c1.length = (12 : Nat)) (u68 : cE u 68 (.inl (.int, fA R1))) (n68 : R1.length = (48 : Nat)) (u69 : cE u 69 (.inl (.int, fA O1))) (n69 : O1.length = (48 : Nat)) (u70 : cE u 70 (.inl (.int, fA [ka, pa, fa, kb, pb, fb]))) (u71 : cE u 71 (.inl (.int, fA [xa, xb]))) (u72 : cE u 72 (.inl (.int, fA T))) (n72 : T.length = (500 : Nat)) (u73 : cE u 73 (.inl (.int, fA M1))) (n73 : M1.length = (12 : Nat)) (u74 : cE u 74 (.inl (.int, fA R1))) (n74 : R1.length = (48 : Nat)) (u75 : cE u 75 (.inl (.int, fA O1))) (n75 : O1.length = (48 : Nat)) (u76 : cE u 76 (.inl (.int, fA A1))) (n76 : A1.length = (48 : Nat)) (u90 : cE u 90 (.inl (.int, fA [n0, n1]))) (u93 : cE u 93 (.inl (.boolean, fA [t0, t1]))) (ul : u.length = (94 : Nat)) (F : hfr [66, 67, 68, 69, 70, 71, 72, 73, 74, 75, 76, 90, 93] h u) (hi : (0 : Int) ≤ i ∧ i ≤ (12 : Int)) (hc : ∀ j : Nat, (j : Int) < i → c1.getD j 0 = if (j : Int) < q.1 - 1 then M1.getD j 0 else 0) (hk : 12 - i < (k : Int)), ik_G 147 82 [some (.ref 66), some (fI 0), some (fI i)] [] u R := by
  intro k
  induction k with
  | zero => intro i c1 u u66 u67 n67 u68 n68 u69 n69 u70 u71 u72 n72 u73 n73 u74 n74 u75 n75 u76 n76 u90 u93 ul F hi hc hk; omega
  | succ k ih =>
    intro i c1 u u66 u67 n67 u68 n68 u69 n69 u70 u71 u72 n72 u73 n73 u74 n74 u75 n75 u76 n76 u90 u93 ul F hi hc hk
    refine ik_Wk 1 (pc_q := 83) (loc_q := [some (.ref 66), some (fI 0), some (fI i)]) (st_q := [fI i]) (h_q := u) (cl_q := 0) (sl_q := 0) rfl ?_
    refine fw_bi rfl (by decide +kernel) ?_
    refine fw_ic_ge rfl rfl (by omega) (by omega) (by omega) (by omega) (fun hc1 => ?_) (fun hc1 => ?_)
    · have ei : i = 12 := by omega
      subst ei
      exact K u 12 c1 u66 u67 n67 u68 n68 u69 n69 u70 u71 u72 n72 u73 n73 u74 n74 u75 n75 u76 n76 u90 u93 ul F ⟨fun x h0 h1 => by rw [hc x.toNat (by omega), if_pos (by omega)], fun x hx => by
        rcases Nat.lt_or_ge x 12 with z | z
        · rw [hc x (by omega), if_neg (by omega)]
        · exact mi_out (by omega)⟩
    · refine ik_Wk 1 (pc_q := 89) (loc_q := [some (.ref 66), some (fI 0), some (fI i)]) (st_q := [.ref 66]) (h_q := u) (cl_q := 0) (sl_q := 0) rfl ?_
      refine fw_gf rfl rfl u66 rfl ?_
      refine ik_Wk 3 (pc_q := 95) (loc_q := [some (.ref 66), some (fI 0), some (fI i)]) (st_q := [.ref 66, fI i, fI i, .ref 67]) (h_q := u) (cl_q := 0) (sl_q := 0) rfl ?_
      refine fw_gf rfl rfl u66 rfl ?_
      refine ik_Wk 1 (pc_q := 99) (loc_q := [some (.ref 66), some (fI 0), some (fI i)]) (st_q := [fI 1, fI q.1, fI i, fI i, .ref 67]) (h_q := u) (cl_q := 0) (sl_q := 0) rfl ?_
      refine fw_sub rfl ?_
      refine fw_ic_ge rfl rfl (by omega) (by omega) (by omega) (by omega) (fun hc2 => ?_) (fun hc2 => ?_)
      · refine ik_Wk 1 (pc_q := 113) (loc_q := [some (.ref 66), some (fI 0), some (fI i)]) (st_q := [fI 0, fI i, .ref 67]) (h_q := u) (cl_q := 0) (sl_q := 0) rfl ?_
        have hl3 : (c1.set i.toNat 0).length = 12 := (List.length_set ..).trans n67
        refine fx_ias rfl u67 (by omega) (by omega) (by omega) ?_
        intro h_611 e_611 f_611 l_611
        have k_611 : cL h_611 := l_611.trans ul
        have fr_611 := hfr_wb F f_611 l_611 rfl
        clear l_611
        have g_611_66 := (f_611 66 (Nat.ne_of_beq_eq_false rfl)).trans u66
        have g_611_68 := (f_611 68 (Nat.ne_of_beq_eq_false rfl)).trans u68
        have g_611_69 := (f_611 69 (Nat.ne_of_beq_eq_false rfl)).trans u69
        have g_611_70 := (f_611 70 (Nat.ne_of_beq_eq_false rfl)).trans u70
        have g_611_71 := (f_611 71 (Nat.ne_of_beq_eq_false rfl)).trans u71
        have g_611_72 := (f_611 72 (Nat.ne_of_beq_eq_false rfl)).trans u72
        have g_611_73 := (f_611 73 (Nat.ne_of_beq_eq_false rfl)).trans u73
        have g_611_74 := (f_611 74 (Nat.ne_of_beq_eq_false rfl)).trans u74
        have g_611_75 := (f_611 75 (Nat.ne_of_beq_eq_false rfl)).trans u75
        have g_611_76 := (f_611 76 (Nat.ne_of_beq_eq_false rfl)).trans u76
        have g_611_90 := (f_611 90 (Nat.ne_of_beq_eq_false rfl)).trans u90
        have g_611_93 := (f_611 93 (Nat.ne_of_beq_eq_false rfl)).trans u93
        have g_611_67 : cE h_611 67 (.inl (.int, fA (c1.set i.toNat 0))) := e_611
        refine fw_inc (a := i) (loc_q := [some (.ref 66), some (fI 0), some (fI (i + 1))]) rfl rfl (Nat.le_of_ble_eq_true rfl) rfl ?_
        refine ik_Wk 1 (pc_q := 82) (loc_q := [some (.ref 66), some (fI 0), some (fI (i + 1))]) (st_q := []) (h_q := h_611) (cl_q := 0) (sl_q := 0) rfl ?_
        have hc2 : ∀ j : Nat, (j : Int) < i + 1 → (c1.set i.toNat 0).getD j 0 = if (j : Int) < q.1 - 1 then M1.getD j 0 else 0 := by
          intro j hj
          rw [fz_getD_set]
          by_cases z : j = i.toNat
          · rw [if_pos ⟨z, by omega⟩, z, if_neg (by omega)]
          · rw [if_neg (fun y => z y.1)]; exact hc j (by omega)
        exact ih (i + 1) (c1.set i.toNat 0) h_611 g_611_66 g_611_67 hl3 g_611_68 n68 g_611_69 n69 g_611_70 g_611_71 g_611_72 n72 g_611_73 n73 g_611_74 n74 g_611_75 n75 g_611_76 n76 g_611_90 g_611_93 k_611 fr_611 (by omega) hc2 (by omega)
      · refine ik_Wk 1 (pc_q := 104) (loc_q := [some (.ref 66), some (fI 0), some (fI i)]) (st_q := [.ref 66, fI i, .ref 67]) (h_q := u) (cl_q := 0) (sl_q := 0) rfl ?_
        refine fw_gf rfl rfl u66 rfl ?_
        refine ik_Wk 1 (pc_q := 108) (loc_q := [some (.ref 66), some (fI 0), some (fI i)]) (st_q := [fI i, .ref 73, fI i, .ref 67]) (h_q := u) (cl_q := 0) (sl_q := 0) rfl ?_
        refine fw_ial rfl u73 (by omega) (by omega) (by omega) ?_
        refine ik_Wk 1 (pc_q := 113) (loc_q := [some (.ref 66), some (fI 0), some (fI i)]) (st_q := [fI (M1.getD i.toNat 0), fI i, .ref 67]) (h_q := u) (cl_q := 0) (sl_q := 0) rfl ?_
        have hl4 : (c1.set i.toNat (M1.getD i.toNat 0)).length = 12 := (List.length_set ..).trans n67
        refine fx_ias rfl u67 (by omega) (by omega) (by omega) ?_
        intro h_612 e_612 f_612 l_612
        have k_612 : cL h_612 := l_612.trans ul
        have fr_612 := hfr_wb F f_612 l_612 rfl
        clear l_612
        have g_612_66 := (f_612 66 (Nat.ne_of_beq_eq_false rfl)).trans u66
        have g_612_68 := (f_612 68 (Nat.ne_of_beq_eq_false rfl)).trans u68
        have g_612_69 := (f_612 69 (Nat.ne_of_beq_eq_false rfl)).trans u69
        have g_612_70 := (f_612 70 (Nat.ne_of_beq_eq_false rfl)).trans u70
        have g_612_71 := (f_612 71 (Nat.ne_of_beq_eq_false rfl)).trans u71
        have g_612_72 := (f_612 72 (Nat.ne_of_beq_eq_false rfl)).trans u72
        have g_612_73 := (f_612 73 (Nat.ne_of_beq_eq_false rfl)).trans u73
        have g_612_74 := (f_612 74 (Nat.ne_of_beq_eq_false rfl)).trans u74
        have g_612_75 := (f_612 75 (Nat.ne_of_beq_eq_false rfl)).trans u75
        have g_612_76 := (f_612 76 (Nat.ne_of_beq_eq_false rfl)).trans u76
        have g_612_90 := (f_612 90 (Nat.ne_of_beq_eq_false rfl)).trans u90
        have g_612_93 := (f_612 93 (Nat.ne_of_beq_eq_false rfl)).trans u93
        have g_612_67 : cE h_612 67 (.inl (.int, fA (c1.set i.toNat (M1.getD i.toNat 0)))) := e_612
        refine fw_inc (a := i) (loc_q := [some (.ref 66), some (fI 0), some (fI (i + 1))]) rfl rfl (Nat.le_of_ble_eq_true rfl) rfl ?_
        refine ik_Wk 1 (pc_q := 82) (loc_q := [some (.ref 66), some (fI 0), some (fI (i + 1))]) (st_q := []) (h_q := h_612) (cl_q := 0) (sl_q := 0) rfl ?_
        have hc2 : ∀ j : Nat, (j : Int) < i + 1 → (c1.set i.toNat (M1.getD i.toNat 0)).getD j 0 = if (j : Int) < q.1 - 1 then M1.getD j 0 else 0 := by
          intro j hj
          rw [fz_getD_set]
          by_cases z : j = i.toNat
          · rw [if_pos ⟨z, by omega⟩, z, if_pos (by omega)]
          · rw [if_neg (fun y => z y.1)]; exact hc j (by omega)
        exact ih (i + 1) (c1.set i.toNat (M1.getD i.toNat 0)) h_612 g_612_66 g_612_67 hl4 g_612_68 n68 g_612_69 n69 g_612_70 g_612_71 g_612_72 n72 g_612_73 n73 g_612_74 n74 g_612_75 n75 g_612_76 n76 g_612_90 g_612_93 k_612 fr_612 (by omega) hc2 (by omega)

theorem rp_stream {h : List ik_E} {f : Nat → Int} {tn : Int} {fp : Int} {a0 : Int} {sd : Int} {we : Int} {nu : Int} {na : Int} {rp : Int} {ka : Int} {pa : Int} {fa : Int} {kb : Int} {pb : Int} {fb : Int} {xa : Int} {xb : Int} {cn : List Int} {go : List Int} {ch : List Int} {T : List Int} {M : List Int} {Rq : List Int} {O : List Int} {A : List Int} {y : Int → Int} {n0 : Int} {n1 : Int} {t0 : Int} {t1 : Int} (q0 : ∀ i : Int, (0 : Int) ≤ i → i < tn → 0 ≤ T.getD i.toNat 0 ∧ T.getD i.toNat 0 ≤ 255) (q1 : (0 : Int) ≤ tn ∧ tn ≤ (500 : Int)) (q2 : ∀ i : Int, (0 : Int) ≤ i → i < tn → y i = T.getD i.toNat 0) (h66 : cE h 66 (.inr (10, (fI (f 0) :: .ref 67 :: .ref 68 :: .ref 69 :: fI (f 4) :: .ref 70 :: .ref 71 :: fI (f 7) :: fI (f 8) :: .ref 72 :: fI tn :: fI fp :: fI a0 :: fJ sd :: fI we :: fI nu :: fI na :: fI rp :: .ref 73 :: .ref 74 :: .ref 75 :: .ref 76 :: .ref 77 :: .ref 78 :: fI (f 24) :: .ref 79 :: .ref 80 :: .ref 81 :: .ref 82 :: .ref 83 :: .ref 84 :: .ref 85 :: fJ (f 32) :: fJ (f 33) :: .ref 86 :: .ref 87 :: fI (f 36) :: .ref 88 :: .ref 89 :: .ref 90 :: .ref 91 :: .ref 92 :: .ref 93 :: [])))) (h67 : cE h 67 (.inl (.int, fA cn))) (n67 : cn.length = (12 : Nat)) (h68 : cE h 68 (.inl (.int, fA go))) (n68 : go.length = (48 : Nat)) (h69 : cE h 69 (.inl (.int, fA ch))) (n69 : ch.length = (48 : Nat)) (h70 : cE h 70 (.inl (.int, fA [ka, pa, fa, kb, pb, fb]))) (h71 : cE h 71 (.inl (.int, fA [xa, xb]))) (h72 : cE h 72 (.inl (.int, fA T))) (n72 : T.length = (500 : Nat)) (h73 : cE h 73 (.inl (.int, fA M))) (n73 : M.length = (12 : Nat)) (h74 : cE h 74 (.inl (.int, fA Rq))) (n74 : Rq.length = (48 : Nat)) (h75 : cE h 75 (.inl (.int, fA O))) (n75 : O.length = (48 : Nat)) (h76 : cE h 76 (.inl (.int, fA A))) (n76 : A.length = (48 : Nat)) (h90 : cE h 90 (.inl (.int, fA [n0, n1]))) (h93 : cE h 93 (.inl (.boolean, fA [t0, t1]))) (hl : h.length = (94 : Nat)) : ik_F 147 [.ref 66] h (fun rv h_q => (∃ (e : Int × Int) (a0' : Int) (sd' : Int) (we' : Int) (nu' : Int) (na' : Int) (rp' : Int) (M' : List Int) (R' : List Int) (O' : List Int) (A' : List Int), rv = [fI (-10 - e.1)] ∧ cE h_q 66 (.inr (10, (fI (f 0) :: .ref 67 :: .ref 68 :: .ref 69 :: fI (f 4) :: .ref 70 :: .ref 71 :: fI (f 7) :: fI (f 8) :: .ref 72 :: fI 0 :: fI e.2 :: fI a0' :: fJ sd' :: fI we' :: fI nu' :: fI na' :: fI rp' :: .ref 73 :: .ref 74 :: .ref 75 :: .ref 76 :: .ref 77 :: .ref 78 :: fI (f 24) :: .ref 79 :: .ref 80 :: .ref 81 :: .ref 82 :: .ref 83 :: .ref 84 :: .ref 85 :: fJ (f 32) :: fJ (f 33) :: .ref 86 :: .ref 87 :: fI (f 36) :: .ref 88 :: .ref 89 :: .ref 90 :: .ref 91 :: .ref 92 :: .ref 93 :: []))) ∧ cE h_q 72 (.inl (.int, fA T)) ∧ T.length = (500 : Nat) ∧ cE h_q 73 (.inl (.int, fA M')) ∧ M'.length = (12 : Nat) ∧ cE h_q 74 (.inl (.int, fA R')) ∧ R'.length = (48 : Nat) ∧ cE h_q 75 (.inl (.int, fA O')) ∧ O'.length = (48 : Nat) ∧ cE h_q 76 (.inl (.int, fA A')) ∧ A'.length = (48 : Nat) ∧ cE h_q 67 (.inl (.int, fA cn)) ∧ cn.length = (12 : Nat) ∧ cE h_q 68 (.inl (.int, fA go)) ∧ go.length = (48 : Nat) ∧ cE h_q 69 (.inl (.int, fA ch)) ∧ ch.length = (48 : Nat) ∧ cE h_q 70 (.inl (.int, fA [ka, pa, fa, kb, pb, fb])) ∧ cE h_q 71 (.inl (.int, fA [xa, xb])) ∧ cE h_q 90 (.inl (.int, fA [n0, n1])) ∧ cE h_q 93 (.inl (.boolean, fA [t0, t1])) ∧ (zall y tn = .inl e) ∧ hfr [66, 67, 68, 69, 70, 71, 72, 73, 74, 75, 76, 90, 93] h h_q) ∨ (∃ (q : Int × List (List zM)) (a0' : Int) (sd' : Int) (we' : Int) (nu' : Int) (na' : Int) (M' : List Int) (R' : List Int) (O' : List Int) (A' : List Int) (cn' : List Int), rv = [fI q.1] ∧ cE h_q 66 (.inr (10, (fI q.1 :: .ref 67 :: .ref 68 :: .ref 69 :: fI 0 :: .ref 70 :: .ref 71 :: fI 0 :: fI (f 8) :: .ref 72 :: fI 0 :: fI (-1) :: fI a0' :: fJ sd' :: fI we' :: fI nu' :: fI na' :: fI q.1 :: .ref 73 :: .ref 74 :: .ref 75 :: .ref 76 :: .ref 77 :: .ref 78 :: fI (f 24) :: .ref 79 :: .ref 80 :: .ref 81 :: .ref 82 :: .ref 83 :: .ref 84 :: .ref 85 :: fJ (f 32) :: fJ (f 33) :: .ref 86 :: .ref 87 :: fI 0 :: .ref 88 :: .ref 89 :: .ref 90 :: .ref 91 :: .ref 92 :: .ref 93 :: []))) ∧ cE h_q 72 (.inl (.int, fA T)) ∧ T.length = (500 : Nat) ∧ cE h_q 73 (.inl (.int, fA M')) ∧ M'.length = (12 : Nat) ∧ cE h_q 74 (.inl (.int, fA R')) ∧ R'.length = (48 : Nat) ∧ cE h_q 75 (.inl (.int, fA O')) ∧ O'.length = (48 : Nat) ∧ cE h_q 76 (.inl (.int, fA A')) ∧ A'.length = (48 : Nat) ∧ cE h_q 67 (.inl (.int, fA cn')) ∧ cn'.length = (12 : Nat) ∧ cE h_q 68 (.inl (.int, fA R')) ∧ R'.length = (48 : Nat) ∧ cE h_q 69 (.inl (.int, fA O')) ∧ O'.length = (48 : Nat) ∧ cE h_q 70 (.inl (.int, fA [0, 0, 0, 0, 0, 0])) ∧ cE h_q 71 (.inl (.int, fA [0, 0])) ∧ cE h_q 90 (.inl (.int, fA [0, 0])) ∧ cE h_q 93 (.inl (.boolean, fA [0, 0])) ∧ (zall y tn = .inr q) ∧ (zH M' R' O' A' q.2) ∧ (zrows q.2) ∧ (q.1 = 0 ∧ q.2 = [] ∨ q.1 = (q.2.length : Int) + 1) ∧ ((∀ x : Int, 0 ≤ x → x < q.1 - 1 → cn'.getD x.toNat 0 = M'.getD x.toNat 0) ∧ ∀ x : Nat, q.1 - 1 ≤ (x : Int) → cn'.getD x 0 = 0) ∧ hfr [66, 67, 68, 69, 70, 71, 72, 73, 74, 75, 76, 90, 93] h h_q)) := by
  refine ik_Wk 2 (pc_q := 2) (loc_q := [some (.ref 66), none, none]) (st_q := [fI (-1), .ref 66]) (h_q := h) (cl_q := 0) (sl_q := 0) rfl ?_
  refine fx_pf rfl rfl h66 (Nat.le_of_ble_eq_true rfl) rfl rfl ?_
  intro h_613 e_613 f_613 l_613
  have k_613 : cL h_613 := l_613.trans hl
  have fr_613 := hfr_wb (hfr_refl [66, 67, 68, 69, 70, 71, 72, 73, 74, 75, 76, 90, 93] h) f_613 l_613 rfl
  clear l_613
  have g_613_67 := (f_613 67 (Nat.ne_of_beq_eq_false rfl)).trans h67
  have g_613_68 := (f_613 68 (Nat.ne_of_beq_eq_false rfl)).trans h68
  have g_613_69 := (f_613 69 (Nat.ne_of_beq_eq_false rfl)).trans h69
  have g_613_70 := (f_613 70 (Nat.ne_of_beq_eq_false rfl)).trans h70
  have g_613_71 := (f_613 71 (Nat.ne_of_beq_eq_false rfl)).trans h71
  have g_613_72 := (f_613 72 (Nat.ne_of_beq_eq_false rfl)).trans h72
  have g_613_73 := (f_613 73 (Nat.ne_of_beq_eq_false rfl)).trans h73
  have g_613_74 := (f_613 74 (Nat.ne_of_beq_eq_false rfl)).trans h74
  have g_613_75 := (f_613 75 (Nat.ne_of_beq_eq_false rfl)).trans h75
  have g_613_76 := (f_613 76 (Nat.ne_of_beq_eq_false rfl)).trans h76
  have g_613_90 := (f_613 90 (Nat.ne_of_beq_eq_false rfl)).trans h90
  have g_613_93 := (f_613 93 (Nat.ne_of_beq_eq_false rfl)).trans h93
  have g_613_66 : cE h_613 66 (.inr (10, (fI (f 0) :: .ref 67 :: .ref 68 :: .ref 69 :: fI (f 4) :: .ref 70 :: .ref 71 :: fI (f 7) :: fI (f 8) :: .ref 72 :: fI tn :: fI (-1) :: fI a0 :: fJ sd :: fI we :: fI nu :: fI na :: fI rp :: .ref 73 :: .ref 74 :: .ref 75 :: .ref 76 :: .ref 77 :: .ref 78 :: fI (f 24) :: .ref 79 :: .ref 80 :: .ref 81 :: .ref 82 :: .ref 83 :: .ref 84 :: .ref 85 :: fJ (f 32) :: fJ (f 33) :: .ref 86 :: .ref 87 :: fI (f 36) :: .ref 88 :: .ref 89 :: .ref 90 :: .ref 91 :: .ref 92 :: .ref 93 :: []))) := e_613
  refine ik_Wk 2 (pc_q := 7) (loc_q := [some (.ref 66), none, none]) (st_q := [fI 0, .ref 66]) (h_q := h_613) (cl_q := 0) (sl_q := 0) rfl ?_
  refine fx_pf rfl rfl g_613_66 (Nat.le_of_ble_eq_true rfl) rfl rfl ?_
  intro h_614 e_614 f_614 l_614
  have k_614 : cL h_614 := l_614.trans k_613
  have fr_614 := hfr_wb fr_613 f_614 l_614 rfl
  clear l_614
  have g_614_67 := (f_614 67 (Nat.ne_of_beq_eq_false rfl)).trans g_613_67
  have g_614_68 := (f_614 68 (Nat.ne_of_beq_eq_false rfl)).trans g_613_68
  have g_614_69 := (f_614 69 (Nat.ne_of_beq_eq_false rfl)).trans g_613_69
  have g_614_70 := (f_614 70 (Nat.ne_of_beq_eq_false rfl)).trans g_613_70
  have g_614_71 := (f_614 71 (Nat.ne_of_beq_eq_false rfl)).trans g_613_71
  have g_614_72 := (f_614 72 (Nat.ne_of_beq_eq_false rfl)).trans g_613_72
  have g_614_73 := (f_614 73 (Nat.ne_of_beq_eq_false rfl)).trans g_613_73
  have g_614_74 := (f_614 74 (Nat.ne_of_beq_eq_false rfl)).trans g_613_74
  have g_614_75 := (f_614 75 (Nat.ne_of_beq_eq_false rfl)).trans g_613_75
  have g_614_76 := (f_614 76 (Nat.ne_of_beq_eq_false rfl)).trans g_613_76
  have g_614_90 := (f_614 90 (Nat.ne_of_beq_eq_false rfl)).trans g_613_90
  have g_614_93 := (f_614 93 (Nat.ne_of_beq_eq_false rfl)).trans g_613_93
  have g_614_66 : cE h_614 66 (.inr (10, (fI (f 0) :: .ref 67 :: .ref 68 :: .ref 69 :: fI (f 4) :: .ref 70 :: .ref 71 :: fI (f 7) :: fI (f 8) :: .ref 72 :: fI tn :: fI (-1) :: fI 0 :: fJ sd :: fI we :: fI nu :: fI na :: fI rp :: .ref 73 :: .ref 74 :: .ref 75 :: .ref 76 :: .ref 77 :: .ref 78 :: fI (f 24) :: .ref 79 :: .ref 80 :: .ref 81 :: .ref 82 :: .ref 83 :: .ref 84 :: .ref 85 :: fJ (f 32) :: fJ (f 33) :: .ref 86 :: .ref 87 :: fI (f 36) :: .ref 88 :: .ref 89 :: .ref 90 :: .ref 91 :: .ref 92 :: .ref 93 :: []))) := e_614
  refine ik_Wk 2 (pc_q := 12) (loc_q := [some (.ref 66), none, none]) (st_q := [fI 0, .ref 66]) (h_q := h_614) (cl_q := 0) (sl_q := 0) rfl ?_
  refine fx_pf rfl rfl g_614_66 (Nat.le_of_ble_eq_true rfl) rfl rfl ?_
  intro h_615 e_615 f_615 l_615
  have k_615 : cL h_615 := l_615.trans k_614
  have fr_615 := hfr_wb fr_614 f_615 l_615 rfl
  clear l_615
  have g_615_67 := (f_615 67 (Nat.ne_of_beq_eq_false rfl)).trans g_614_67
  have g_615_68 := (f_615 68 (Nat.ne_of_beq_eq_false rfl)).trans g_614_68
  have g_615_69 := (f_615 69 (Nat.ne_of_beq_eq_false rfl)).trans g_614_69
  have g_615_70 := (f_615 70 (Nat.ne_of_beq_eq_false rfl)).trans g_614_70
  have g_615_71 := (f_615 71 (Nat.ne_of_beq_eq_false rfl)).trans g_614_71
  have g_615_72 := (f_615 72 (Nat.ne_of_beq_eq_false rfl)).trans g_614_72
  have g_615_73 := (f_615 73 (Nat.ne_of_beq_eq_false rfl)).trans g_614_73
  have g_615_74 := (f_615 74 (Nat.ne_of_beq_eq_false rfl)).trans g_614_74
  have g_615_75 := (f_615 75 (Nat.ne_of_beq_eq_false rfl)).trans g_614_75
  have g_615_76 := (f_615 76 (Nat.ne_of_beq_eq_false rfl)).trans g_614_76
  have g_615_90 := (f_615 90 (Nat.ne_of_beq_eq_false rfl)).trans g_614_90
  have g_615_93 := (f_615 93 (Nat.ne_of_beq_eq_false rfl)).trans g_614_93
  have g_615_66 : cE h_615 66 (.inr (10, (fI (f 0) :: .ref 67 :: .ref 68 :: .ref 69 :: fI (f 4) :: .ref 70 :: .ref 71 :: fI (f 7) :: fI (f 8) :: .ref 72 :: fI tn :: fI (-1) :: fI 0 :: fJ sd :: fI we :: fI nu :: fI na :: fI 0 :: .ref 73 :: .ref 74 :: .ref 75 :: .ref 76 :: .ref 77 :: .ref 78 :: fI (f 24) :: .ref 79 :: .ref 80 :: .ref 81 :: .ref 82 :: .ref 83 :: .ref 84 :: .ref 85 :: fJ (f 32) :: fJ (f 33) :: .ref 86 :: .ref 87 :: fI (f 36) :: .ref 88 :: .ref 89 :: .ref 90 :: .ref 91 :: .ref 92 :: .ref 93 :: []))) := e_615
  refine ik_Wk 1 (pc_q := 16) (loc_q := [some (.ref 66), none, none]) (st_q := [.ref 66]) (h_q := h_615) (cl_q := 0) (sl_q := 0) rfl ?_
  refine fw_call 145 1 0 [.ref 66] [] rfl rfl rfl (Nat.le_of_ble_eq_true rfl) rfl rfl (fw_rec k_615 rfl g_615_66 rfl (Nat.le_of_ble_eq_true rfl)) (cr_takeAll (f := fun j => ((f 0 :: 0 :: 0 :: 0 :: f 4 :: 0 :: 0 :: f 7 :: f 8 :: 0 :: 0 :: 0 :: 0 :: 0 :: 0 :: 0 :: 0 :: 0 :: 0 :: 0 :: 0 :: 0 :: 0 :: 0 :: f 24 :: 0 :: 0 :: 0 :: 0 :: 0 :: 0 :: 0 :: f 32 :: f 33 :: 0 :: 0 :: f 36 :: 0 :: 0 :: 0 :: 0 :: 0 :: 0 :: []) : List Int).getD j 0) (tn := tn) (fp := -1) (sd := sd) (we := we) (nu := nu) (na := na) (ka := ka) (pa := pa) (fa := fa) (kb := kb) (pb := pb) (fb := fb) (xa := xa) (xb := xb) (cn := cn) (go := go) (ch := ch) (T := T) (M := M) (R := Rq) (O := O) (A := A) q0 (by omega) q2 g_615_66 g_615_67 n67 g_615_68 n68 g_615_69 n69 g_615_70 g_615_71 g_615_72 n72 g_615_73 n73 g_615_74 n74 g_615_75 n75 g_615_76 n76 k_615) ?_
  rintro _ h_616 (⟨e_616, a0'_616, sd'_616, we'_616, nu'_616, na'_616, rp'_616, M'_616, R'_616, O'_616, A'_616, rfl, e_616_66, e_616_72, m_616_72, e_616_73, m_616_73, e_616_74, m_616_74, e_616_75, m_616_75, e_616_76, m_616_76, p_616_0, F_616⟩ | ⟨q_616, a0'_616, sd'_616, we'_616, nu'_616, na'_616, M'_616, R'_616, O'_616, A'_616, rfl, e_616_66, e_616_72, m_616_72, e_616_73, m_616_73, e_616_74, m_616_74, e_616_75, m_616_75, e_616_76, m_616_76, p_616_0, p_616_1, p_616_2, p_616_3, F_616⟩)
  · have k_616 : cL h_616 := F_616.1.trans k_615
    have fr_616 := hfr_cb fr_615 F_616 rfl
    have g_616_67 := (hfr_g F_616 67 rfl).trans g_615_67
    have g_616_68 := (hfr_g F_616 68 rfl).trans g_615_68
    have g_616_69 := (hfr_g F_616 69 rfl).trans g_615_69
    have g_616_70 := (hfr_g F_616 70 rfl).trans g_615_70
    have g_616_71 := (hfr_g F_616 71 rfl).trans g_615_71
    have g_616_90 := (hfr_g F_616 90 rfl).trans g_615_90
    have g_616_93 := (hfr_g F_616 93 rfl).trans g_615_93
    have g_616_66 : cE h_616 66 (.inr (10, (fI (f 0) :: .ref 67 :: .ref 68 :: .ref 69 :: fI (f 4) :: .ref 70 :: .ref 71 :: fI (f 7) :: fI (f 8) :: .ref 72 :: fI tn :: fI e_616.2 :: fI a0'_616 :: fJ sd'_616 :: fI we'_616 :: fI nu'_616 :: fI na'_616 :: fI rp'_616 :: .ref 73 :: .ref 74 :: .ref 75 :: .ref 76 :: .ref 77 :: .ref 78 :: fI (f 24) :: .ref 79 :: .ref 80 :: .ref 81 :: .ref 82 :: .ref 83 :: .ref 84 :: .ref 85 :: fJ (f 32) :: fJ (f 33) :: .ref 86 :: .ref 87 :: fI (f 36) :: .ref 88 :: .ref 89 :: .ref 90 :: .ref 91 :: .ref 92 :: .ref 93 :: []))) := e_616_66
    have g_616_72 : cE h_616 72 (.inl (.int, fA T)) := e_616_72
    have g_616_73 : cE h_616 73 (.inl (.int, fA M'_616)) := e_616_73
    have g_616_74 : cE h_616 74 (.inl (.int, fA R'_616)) := e_616_74
    have g_616_75 : cE h_616 75 (.inl (.int, fA O'_616)) := e_616_75
    have g_616_76 : cE h_616 76 (.inl (.int, fA A'_616)) := e_616_76
    refine ik_Wk 0 (pc_q := 19) (loc_q := [some (.ref 66), none, none]) (st_q := [fI e_616.1]) (h_q := h_616) (cl_q := 0) (sl_q := 0) rfl ?_
    have ze_616 := zall_f q1.1 q1.2 p_616_0
    have zb_616 := zall_b q1.1 q1.2 p_616_0
    refine ik_Wk 3 (pc_q := 22) (loc_q := [some (.ref 66), some (fI e_616.1), none]) (st_q := [fI 0, .ref 66]) (h_q := h_616) (cl_q := 0) (sl_q := 0) rfl ?_
    refine fx_pf rfl rfl g_616_66 (Nat.le_of_ble_eq_true rfl) rfl rfl ?_
    intro h_617 e_617 f_617 l_617
    have k_617 : cL h_617 := l_617.trans k_616
    have fr_617 := hfr_wb fr_616 f_617 l_617 rfl
    clear l_617
    have g_617_67 := (f_617 67 (Nat.ne_of_beq_eq_false rfl)).trans g_616_67
    have g_617_68 := (f_617 68 (Nat.ne_of_beq_eq_false rfl)).trans g_616_68
    have g_617_69 := (f_617 69 (Nat.ne_of_beq_eq_false rfl)).trans g_616_69
    have g_617_70 := (f_617 70 (Nat.ne_of_beq_eq_false rfl)).trans g_616_70
    have g_617_71 := (f_617 71 (Nat.ne_of_beq_eq_false rfl)).trans g_616_71
    have g_617_72 := (f_617 72 (Nat.ne_of_beq_eq_false rfl)).trans g_616_72
    have g_617_73 := (f_617 73 (Nat.ne_of_beq_eq_false rfl)).trans g_616_73
    have g_617_74 := (f_617 74 (Nat.ne_of_beq_eq_false rfl)).trans g_616_74
    have g_617_75 := (f_617 75 (Nat.ne_of_beq_eq_false rfl)).trans g_616_75
    have g_617_76 := (f_617 76 (Nat.ne_of_beq_eq_false rfl)).trans g_616_76
    have g_617_90 := (f_617 90 (Nat.ne_of_beq_eq_false rfl)).trans g_616_90
    have g_617_93 := (f_617 93 (Nat.ne_of_beq_eq_false rfl)).trans g_616_93
    have g_617_66 : cE h_617 66 (.inr (10, (fI (f 0) :: .ref 67 :: .ref 68 :: .ref 69 :: fI (f 4) :: .ref 70 :: .ref 71 :: fI (f 7) :: fI (f 8) :: .ref 72 :: fI 0 :: fI e_616.2 :: fI a0'_616 :: fJ sd'_616 :: fI we'_616 :: fI nu'_616 :: fI na'_616 :: fI rp'_616 :: .ref 73 :: .ref 74 :: .ref 75 :: .ref 76 :: .ref 77 :: .ref 78 :: fI (f 24) :: .ref 79 :: .ref 80 :: .ref 81 :: .ref 82 :: .ref 83 :: .ref 84 :: .ref 85 :: fJ (f 32) :: fJ (f 33) :: .ref 86 :: .ref 87 :: fI (f 36) :: .ref 88 :: .ref 89 :: .ref 90 :: .ref 91 :: .ref 92 :: .ref 93 :: []))) := e_617
    refine ik_Wk 1 (pc_q := 26) (loc_q := [some (.ref 66), some (fI e_616.1), none]) (st_q := [fI e_616.1]) (h_q := h_617) (cl_q := 0) (sl_q := 0) rfl ?_
    refine fw_if_le rfl rfl (by omega) (by omega) (fun hc1 => absurd hc1 (by omega)) (fun hc1 => ?_)
    refine fw_bi rfl (by decide +kernel) ?_
    refine ik_Wk 1 (pc_q := 32) (loc_q := [some (.ref 66), some (fI e_616.1), none]) (st_q := [fI e_616.1, fI (-10)]) (h_q := h_617) (cl_q := 0) (sl_q := 0) rfl ?_
    refine fw_sub rfl ?_
    exact ik_Wret rfl rfl ⟨_, _, rfl, rfl, rfl, rfl, Or.inl ⟨e_616, a0'_616, sd'_616, we'_616, nu'_616, na'_616, rp'_616, M'_616, R'_616, O'_616, A'_616, rfl, g_617_66, g_617_72, m_616_72, g_617_73, m_616_73, g_617_74, m_616_74, g_617_75, m_616_75, g_617_76, m_616_76, g_617_67, n67, g_617_68, n68, g_617_69, n69, g_617_70, g_617_71, g_617_90, g_617_93, p_616_0, fr_617⟩⟩
  · have k_616 : cL h_616 := F_616.1.trans k_615
    have fr_616 := hfr_cb fr_615 F_616 rfl
    have g_616_67 := (hfr_g F_616 67 rfl).trans g_615_67
    have g_616_68 := (hfr_g F_616 68 rfl).trans g_615_68
    have g_616_69 := (hfr_g F_616 69 rfl).trans g_615_69
    have g_616_70 := (hfr_g F_616 70 rfl).trans g_615_70
    have g_616_71 := (hfr_g F_616 71 rfl).trans g_615_71
    have g_616_90 := (hfr_g F_616 90 rfl).trans g_615_90
    have g_616_93 := (hfr_g F_616 93 rfl).trans g_615_93
    have g_616_66 : cE h_616 66 (.inr (10, (fI (f 0) :: .ref 67 :: .ref 68 :: .ref 69 :: fI (f 4) :: .ref 70 :: .ref 71 :: fI (f 7) :: fI (f 8) :: .ref 72 :: fI tn :: fI (-1) :: fI a0'_616 :: fJ sd'_616 :: fI we'_616 :: fI nu'_616 :: fI na'_616 :: fI q_616.1 :: .ref 73 :: .ref 74 :: .ref 75 :: .ref 76 :: .ref 77 :: .ref 78 :: fI (f 24) :: .ref 79 :: .ref 80 :: .ref 81 :: .ref 82 :: .ref 83 :: .ref 84 :: .ref 85 :: fJ (f 32) :: fJ (f 33) :: .ref 86 :: .ref 87 :: fI (f 36) :: .ref 88 :: .ref 89 :: .ref 90 :: .ref 91 :: .ref 92 :: .ref 93 :: []))) := e_616_66
    have g_616_72 : cE h_616 72 (.inl (.int, fA T)) := e_616_72
    have g_616_73 : cE h_616 73 (.inl (.int, fA M'_616)) := e_616_73
    have g_616_74 : cE h_616 74 (.inl (.int, fA R'_616)) := e_616_74
    have g_616_75 : cE h_616 75 (.inl (.int, fA O'_616)) := e_616_75
    have g_616_76 : cE h_616 76 (.inl (.int, fA A'_616)) := e_616_76
    refine ik_Wk 0 (pc_q := 19) (loc_q := [some (.ref 66), none, none]) (st_q := [fI 0]) (h_q := h_616) (cl_q := 0) (sl_q := 0) rfl ?_
    have hq_616 := zq_pl p_616_2 p_616_3
    refine ik_Wk 3 (pc_q := 22) (loc_q := [some (.ref 66), some (fI 0), none]) (st_q := [fI 0, .ref 66]) (h_q := h_616) (cl_q := 0) (sl_q := 0) rfl ?_
    refine fx_pf rfl rfl g_616_66 (Nat.le_of_ble_eq_true rfl) rfl rfl ?_
    intro h_618 e_618 f_618 l_618
    have k_618 : cL h_618 := l_618.trans k_616
    have fr_618 := hfr_wb fr_616 f_618 l_618 rfl
    clear l_618
    have g_618_67 := (f_618 67 (Nat.ne_of_beq_eq_false rfl)).trans g_616_67
    have g_618_68 := (f_618 68 (Nat.ne_of_beq_eq_false rfl)).trans g_616_68
    have g_618_69 := (f_618 69 (Nat.ne_of_beq_eq_false rfl)).trans g_616_69
    have g_618_70 := (f_618 70 (Nat.ne_of_beq_eq_false rfl)).trans g_616_70
    have g_618_71 := (f_618 71 (Nat.ne_of_beq_eq_false rfl)).trans g_616_71
    have g_618_72 := (f_618 72 (Nat.ne_of_beq_eq_false rfl)).trans g_616_72
    have g_618_73 := (f_618 73 (Nat.ne_of_beq_eq_false rfl)).trans g_616_73
    have g_618_74 := (f_618 74 (Nat.ne_of_beq_eq_false rfl)).trans g_616_74
    have g_618_75 := (f_618 75 (Nat.ne_of_beq_eq_false rfl)).trans g_616_75
    have g_618_76 := (f_618 76 (Nat.ne_of_beq_eq_false rfl)).trans g_616_76
    have g_618_90 := (f_618 90 (Nat.ne_of_beq_eq_false rfl)).trans g_616_90
    have g_618_93 := (f_618 93 (Nat.ne_of_beq_eq_false rfl)).trans g_616_93
    have g_618_66 : cE h_618 66 (.inr (10, (fI (f 0) :: .ref 67 :: .ref 68 :: .ref 69 :: fI (f 4) :: .ref 70 :: .ref 71 :: fI (f 7) :: fI (f 8) :: .ref 72 :: fI 0 :: fI (-1) :: fI a0'_616 :: fJ sd'_616 :: fI we'_616 :: fI nu'_616 :: fI na'_616 :: fI q_616.1 :: .ref 73 :: .ref 74 :: .ref 75 :: .ref 76 :: .ref 77 :: .ref 78 :: fI (f 24) :: .ref 79 :: .ref 80 :: .ref 81 :: .ref 82 :: .ref 83 :: .ref 84 :: .ref 85 :: fJ (f 32) :: fJ (f 33) :: .ref 86 :: .ref 87 :: fI (f 36) :: .ref 88 :: .ref 89 :: .ref 90 :: .ref 91 :: .ref 92 :: .ref 93 :: []))) := e_618
    refine ik_Wk 1 (pc_q := 26) (loc_q := [some (.ref 66), some (fI 0), none]) (st_q := [fI 0]) (h_q := h_618) (cl_q := 0) (sl_q := 0) rfl ?_
    refine fw_if_le rfl rfl (by decide +kernel) (by decide +kernel) (fun hc2 => ?_) (fun hc2 => absurd hc2 (by decide +kernel))
    refine ik_Wk 2 (pc_q := 36) (loc_q := [some (.ref 66), some (fI 0), none]) (st_q := [.ref 66, .ref 66]) (h_q := h_618) (cl_q := 0) (sl_q := 0) rfl ?_
    refine fw_gf rfl rfl g_618_66 rfl ?_
    refine fx_pf rfl rfl g_618_66 (Nat.le_of_ble_eq_true rfl) rfl rfl ?_
    intro h_619 e_619 f_619 l_619
    have k_619 : cL h_619 := l_619.trans k_618
    have fr_619 := hfr_wb fr_618 f_619 l_619 rfl
    clear l_619
    have g_619_67 := (f_619 67 (Nat.ne_of_beq_eq_false rfl)).trans g_618_67
    have g_619_68 := (f_619 68 (Nat.ne_of_beq_eq_false rfl)).trans g_618_68
    have g_619_69 := (f_619 69 (Nat.ne_of_beq_eq_false rfl)).trans g_618_69
    have g_619_70 := (f_619 70 (Nat.ne_of_beq_eq_false rfl)).trans g_618_70
    have g_619_71 := (f_619 71 (Nat.ne_of_beq_eq_false rfl)).trans g_618_71
    have g_619_72 := (f_619 72 (Nat.ne_of_beq_eq_false rfl)).trans g_618_72
    have g_619_73 := (f_619 73 (Nat.ne_of_beq_eq_false rfl)).trans g_618_73
    have g_619_74 := (f_619 74 (Nat.ne_of_beq_eq_false rfl)).trans g_618_74
    have g_619_75 := (f_619 75 (Nat.ne_of_beq_eq_false rfl)).trans g_618_75
    have g_619_76 := (f_619 76 (Nat.ne_of_beq_eq_false rfl)).trans g_618_76
    have g_619_90 := (f_619 90 (Nat.ne_of_beq_eq_false rfl)).trans g_618_90
    have g_619_93 := (f_619 93 (Nat.ne_of_beq_eq_false rfl)).trans g_618_93
    have g_619_66 : cE h_619 66 (.inr (10, (fI q_616.1 :: .ref 67 :: .ref 68 :: .ref 69 :: fI (f 4) :: .ref 70 :: .ref 71 :: fI (f 7) :: fI (f 8) :: .ref 72 :: fI 0 :: fI (-1) :: fI a0'_616 :: fJ sd'_616 :: fI we'_616 :: fI nu'_616 :: fI na'_616 :: fI q_616.1 :: .ref 73 :: .ref 74 :: .ref 75 :: .ref 76 :: .ref 77 :: .ref 78 :: fI (f 24) :: .ref 79 :: .ref 80 :: .ref 81 :: .ref 82 :: .ref 83 :: .ref 84 :: .ref 85 :: fJ (f 32) :: fJ (f 33) :: .ref 86 :: .ref 87 :: fI (f 36) :: .ref 88 :: .ref 89 :: .ref 90 :: .ref 91 :: .ref 92 :: .ref 93 :: []))) := e_619
    refine ik_Wk 2 (pc_q := 44) (loc_q := [some (.ref 66), some (fI 0), some (fI 0)]) (st_q := []) (h_q := h_619) (cl_q := 0) (sl_q := 0) rfl ?_
    refine rp_streamM (f := f) (tn := tn) (fp := fp) (a0 := a0) (sd := sd) (we := we) (nu := nu) (na := na) (rp := rp) (ka := ka) (pa := pa) (fa := fa) (kb := kb) (pb := pb) (fb := fb) (xa := xa) (xb := xb) (cn := cn) (go := go) (ch := ch) (T := T) (M := M) (Rq := Rq) (O := O) (A := A) (y := y) (n0 := n0) (n1 := n1) (t0 := t0) (t1 := t1) q0 q1 q2 q_616 a0'_616 sd'_616 we'_616 nu'_616 na'_616 M'_616 R'_616 O'_616 A'_616 (R := (fun rv h_q => (∃ (e : Int × Int) (a0' : Int) (sd' : Int) (we' : Int) (nu' : Int) (na' : Int) (rp' : Int) (M' : List Int) (R' : List Int) (O' : List Int) (A' : List Int), rv = [fI (-10 - e.1)] ∧ cE h_q 66 (.inr (10, (fI (f 0) :: .ref 67 :: .ref 68 :: .ref 69 :: fI (f 4) :: .ref 70 :: .ref 71 :: fI (f 7) :: fI (f 8) :: .ref 72 :: fI 0 :: fI e.2 :: fI a0' :: fJ sd' :: fI we' :: fI nu' :: fI na' :: fI rp' :: .ref 73 :: .ref 74 :: .ref 75 :: .ref 76 :: .ref 77 :: .ref 78 :: fI (f 24) :: .ref 79 :: .ref 80 :: .ref 81 :: .ref 82 :: .ref 83 :: .ref 84 :: .ref 85 :: fJ (f 32) :: fJ (f 33) :: .ref 86 :: .ref 87 :: fI (f 36) :: .ref 88 :: .ref 89 :: .ref 90 :: .ref 91 :: .ref 92 :: .ref 93 :: []))) ∧ cE h_q 72 (.inl (.int, fA T)) ∧ T.length = 500 ∧ cE h_q 73 (.inl (.int, fA M')) ∧ M'.length = 12 ∧ cE h_q 74 (.inl (.int, fA R')) ∧ R'.length = 48 ∧ cE h_q 75 (.inl (.int, fA O')) ∧ O'.length = 48 ∧ cE h_q 76 (.inl (.int, fA A')) ∧ A'.length = 48 ∧ cE h_q 67 (.inl (.int, fA cn)) ∧ cn.length = 12 ∧ cE h_q 68 (.inl (.int, fA go)) ∧ go.length = 48 ∧ cE h_q 69 (.inl (.int, fA ch)) ∧ ch.length = 48 ∧ cE h_q 70 (.inl (.int, fA [ka, pa, fa, kb, pb, fb])) ∧ cE h_q 71 (.inl (.int, fA [xa, xb])) ∧ cE h_q 90 (.inl (.int, fA [n0, n1])) ∧ cE h_q 93 (.inl (.boolean, fA [t0, t1])) ∧ (zall y tn = .inl e) ∧ hfr [66, 67, 68, 69, 70, 71, 72, 73, 74, 75, 76, 90, 93] h h_q) ∨ (∃ (q : Int × List (List zM)) (a0' : Int) (sd' : Int) (we' : Int) (nu' : Int) (na' : Int) (M' : List Int) (R' : List Int) (O' : List Int) (A' : List Int) (cn' : List Int), rv = [fI q.1] ∧ cE h_q 66 (.inr (10, (fI q.1 :: .ref 67 :: .ref 68 :: .ref 69 :: fI 0 :: .ref 70 :: .ref 71 :: fI 0 :: fI (f 8) :: .ref 72 :: fI 0 :: fI (-1) :: fI a0' :: fJ sd' :: fI we' :: fI nu' :: fI na' :: fI q.1 :: .ref 73 :: .ref 74 :: .ref 75 :: .ref 76 :: .ref 77 :: .ref 78 :: fI (f 24) :: .ref 79 :: .ref 80 :: .ref 81 :: .ref 82 :: .ref 83 :: .ref 84 :: .ref 85 :: fJ (f 32) :: fJ (f 33) :: .ref 86 :: .ref 87 :: fI 0 :: .ref 88 :: .ref 89 :: .ref 90 :: .ref 91 :: .ref 92 :: .ref 93 :: []))) ∧ cE h_q 72 (.inl (.int, fA T)) ∧ T.length = 500 ∧ cE h_q 73 (.inl (.int, fA M')) ∧ M'.length = 12 ∧ cE h_q 74 (.inl (.int, fA R')) ∧ R'.length = 48 ∧ cE h_q 75 (.inl (.int, fA O')) ∧ O'.length = 48 ∧ cE h_q 76 (.inl (.int, fA A')) ∧ A'.length = 48 ∧ cE h_q 67 (.inl (.int, fA cn')) ∧ cn'.length = 12 ∧ cE h_q 68 (.inl (.int, fA R')) ∧ R'.length = 48 ∧ cE h_q 69 (.inl (.int, fA O')) ∧ O'.length = 48 ∧ cE h_q 70 (.inl (.int, fA [0, 0, 0, 0, 0, 0])) ∧ cE h_q 71 (.inl (.int, fA [0, 0])) ∧ cE h_q 90 (.inl (.int, fA [0, 0])) ∧ cE h_q 93 (.inl (.boolean, fA [0, 0])) ∧ (zall y tn = .inr q) ∧ (zH M' R' O' A' q.2) ∧ (zrows q.2) ∧ (q.1 = 0 ∧ q.2 = [] ∨ q.1 = (q.2.length : Int) + 1) ∧ ((∀ x : Int, 0 ≤ x → x < q.1 - 1 → cn'.getD x.toNat 0 = M'.getD x.toNat 0) ∧ ∀ x : Nat, q.1 - 1 ≤ (x : Int) → cn'.getD x 0 = 0) ∧ hfr [66, 67, 68, 69, 70, 71, 72, 73, 74, 75, 76, 90, 93] h h_q))) (fun h_620 i2_620 g_620_66 g_620_67 m_620_67 g_620_68 m_620_68 g_620_69 m_620_69 g_620_70 g_620_71 g_620_72 m_620_72 g_620_73 m_620_73 g_620_74 m_620_74 g_620_75 m_620_75 g_620_76 m_620_76 g_620_90 g_620_93 k_620 fr_620 => ?_) 49 0 go ch h_619 g_619_66 g_619_67 n67 g_619_68 n68 g_619_69 n69 g_619_70 g_619_71 g_619_72 m_616_72 g_619_73 m_616_73 g_619_74 m_616_74 g_619_75 m_616_75 g_619_76 m_616_76 g_619_90 g_619_93 k_619 fr_619 (by omega) (fun j hj => absurd hj (by omega)) (fun j hj => absurd hj (by omega)) (by omega)
    refine ik_Wk 2 (pc_q := 82) (loc_q := [some (.ref 66), some (fI 0), some (fI 0)]) (st_q := []) (h_q := h_620) (cl_q := 0) (sl_q := 0) rfl ?_
    refine rp_streamN (f := f) (tn := tn) (fp := fp) (a0 := a0) (sd := sd) (we := we) (nu := nu) (na := na) (rp := rp) (ka := ka) (pa := pa) (fa := fa) (kb := kb) (pb := pb) (fb := fb) (xa := xa) (xb := xb) (cn := cn) (go := go) (ch := ch) (T := T) (M := M) (Rq := Rq) (O := O) (A := A) (y := y) (n0 := n0) (n1 := n1) (t0 := t0) (t1 := t1) q0 q1 q2 q_616 a0'_616 sd'_616 we'_616 nu'_616 na'_616 M'_616 R'_616 O'_616 A'_616 hq_616 (R := (fun rv h_q => (∃ (e : Int × Int) (a0' : Int) (sd' : Int) (we' : Int) (nu' : Int) (na' : Int) (rp' : Int) (M' : List Int) (R' : List Int) (O' : List Int) (A' : List Int), rv = [fI (-10 - e.1)] ∧ cE h_q 66 (.inr (10, (fI (f 0) :: .ref 67 :: .ref 68 :: .ref 69 :: fI (f 4) :: .ref 70 :: .ref 71 :: fI (f 7) :: fI (f 8) :: .ref 72 :: fI 0 :: fI e.2 :: fI a0' :: fJ sd' :: fI we' :: fI nu' :: fI na' :: fI rp' :: .ref 73 :: .ref 74 :: .ref 75 :: .ref 76 :: .ref 77 :: .ref 78 :: fI (f 24) :: .ref 79 :: .ref 80 :: .ref 81 :: .ref 82 :: .ref 83 :: .ref 84 :: .ref 85 :: fJ (f 32) :: fJ (f 33) :: .ref 86 :: .ref 87 :: fI (f 36) :: .ref 88 :: .ref 89 :: .ref 90 :: .ref 91 :: .ref 92 :: .ref 93 :: []))) ∧ cE h_q 72 (.inl (.int, fA T)) ∧ T.length = 500 ∧ cE h_q 73 (.inl (.int, fA M')) ∧ M'.length = 12 ∧ cE h_q 74 (.inl (.int, fA R')) ∧ R'.length = 48 ∧ cE h_q 75 (.inl (.int, fA O')) ∧ O'.length = 48 ∧ cE h_q 76 (.inl (.int, fA A')) ∧ A'.length = 48 ∧ cE h_q 67 (.inl (.int, fA cn)) ∧ cn.length = 12 ∧ cE h_q 68 (.inl (.int, fA go)) ∧ go.length = 48 ∧ cE h_q 69 (.inl (.int, fA ch)) ∧ ch.length = 48 ∧ cE h_q 70 (.inl (.int, fA [ka, pa, fa, kb, pb, fb])) ∧ cE h_q 71 (.inl (.int, fA [xa, xb])) ∧ cE h_q 90 (.inl (.int, fA [n0, n1])) ∧ cE h_q 93 (.inl (.boolean, fA [t0, t1])) ∧ (zall y tn = .inl e) ∧ hfr [66, 67, 68, 69, 70, 71, 72, 73, 74, 75, 76, 90, 93] h h_q) ∨ (∃ (q : Int × List (List zM)) (a0' : Int) (sd' : Int) (we' : Int) (nu' : Int) (na' : Int) (M' : List Int) (R' : List Int) (O' : List Int) (A' : List Int) (cn' : List Int), rv = [fI q.1] ∧ cE h_q 66 (.inr (10, (fI q.1 :: .ref 67 :: .ref 68 :: .ref 69 :: fI 0 :: .ref 70 :: .ref 71 :: fI 0 :: fI (f 8) :: .ref 72 :: fI 0 :: fI (-1) :: fI a0' :: fJ sd' :: fI we' :: fI nu' :: fI na' :: fI q.1 :: .ref 73 :: .ref 74 :: .ref 75 :: .ref 76 :: .ref 77 :: .ref 78 :: fI (f 24) :: .ref 79 :: .ref 80 :: .ref 81 :: .ref 82 :: .ref 83 :: .ref 84 :: .ref 85 :: fJ (f 32) :: fJ (f 33) :: .ref 86 :: .ref 87 :: fI 0 :: .ref 88 :: .ref 89 :: .ref 90 :: .ref 91 :: .ref 92 :: .ref 93 :: []))) ∧ cE h_q 72 (.inl (.int, fA T)) ∧ T.length = 500 ∧ cE h_q 73 (.inl (.int, fA M')) ∧ M'.length = 12 ∧ cE h_q 74 (.inl (.int, fA R')) ∧ R'.length = 48 ∧ cE h_q 75 (.inl (.int, fA O')) ∧ O'.length = 48 ∧ cE h_q 76 (.inl (.int, fA A')) ∧ A'.length = 48 ∧ cE h_q 67 (.inl (.int, fA cn')) ∧ cn'.length = 12 ∧ cE h_q 68 (.inl (.int, fA R')) ∧ R'.length = 48 ∧ cE h_q 69 (.inl (.int, fA O')) ∧ O'.length = 48 ∧ cE h_q 70 (.inl (.int, fA [0, 0, 0, 0, 0, 0])) ∧ cE h_q 71 (.inl (.int, fA [0, 0])) ∧ cE h_q 90 (.inl (.int, fA [0, 0])) ∧ cE h_q 93 (.inl (.boolean, fA [0, 0])) ∧ (zall y tn = .inr q) ∧ (zH M' R' O' A' q.2) ∧ (zrows q.2) ∧ (q.1 = 0 ∧ q.2 = [] ∨ q.1 = (q.2.length : Int) + 1) ∧ ((∀ x : Int, 0 ≤ x → x < q.1 - 1 → cn'.getD x.toNat 0 = M'.getD x.toNat 0) ∧ ∀ x : Nat, q.1 - 1 ≤ (x : Int) → cn'.getD x 0 = 0) ∧ hfr [66, 67, 68, 69, 70, 71, 72, 73, 74, 75, 76, 90, 93] h h_q))) (fun h_621 i2_621 c2_621 g_621_66 g_621_67 m_621_67 g_621_68 m_621_68 g_621_69 m_621_69 g_621_70 g_621_71 g_621_72 m_621_72 g_621_73 m_621_73 g_621_74 m_621_74 g_621_75 m_621_75 g_621_76 m_621_76 g_621_90 g_621_93 k_621 fr_621 hm_621 => ?_) 13 0 cn h_620 g_620_66 g_620_67 m_620_67 g_620_68 m_620_68 g_620_69 m_620_69 g_620_70 g_620_71 g_620_72 m_620_72 g_620_73 m_620_73 g_620_74 m_620_74 g_620_75 m_620_75 g_620_76 m_620_76 g_620_90 g_620_93 k_620 fr_620 (by omega) (fun j hj => absurd hj (by omega)) (by omega)
    refine ik_Wk 3 (pc_q := 123) (loc_q := [some (.ref 66), some (fI 0), some (fI 0)]) (st_q := [fI 0]) (h_q := h_621) (cl_q := 0) (sl_q := 0) rfl ?_
    refine fw_bi rfl (by decide +kernel) ?_
    refine fw_ic_ge rfl rfl (by omega) (by omega) (by omega) (by omega) (fun hc3 => absurd hc3 (by omega)) (fun hc3 => ?_)
    refine ik_Wk 1 (pc_q := 129) (loc_q := [some (.ref 66), some (fI 0), some (fI 0)]) (st_q := [.ref 66]) (h_q := h_621) (cl_q := 0) (sl_q := 0) rfl ?_
    refine fw_gf rfl rfl g_621_66 rfl ?_
    refine ik_Wk 2 (pc_q := 134) (loc_q := [some (.ref 66), some (fI 0), some (fI 0)]) (st_q := [fI 0, fI 0, .ref 70]) (h_q := h_621) (cl_q := 0) (sl_q := 0) rfl ?_
    refine fx_ias (z := 0) rfl g_621_70 (by decide +kernel) (Nat.le_of_ble_eq_true rfl) (by decide +kernel) ?_
    intro h_622 e_622 f_622 l_622
    have k_622 : cL h_622 := l_622.trans k_621
    have fr_622 := hfr_wb fr_621 f_622 l_622 rfl
    clear l_622
    have g_622_66 := (f_622 66 (Nat.ne_of_beq_eq_false rfl)).trans g_621_66
    have g_622_67 := (f_622 67 (Nat.ne_of_beq_eq_false rfl)).trans g_621_67
    have g_622_68 := (f_622 68 (Nat.ne_of_beq_eq_false rfl)).trans g_621_68
    have g_622_69 := (f_622 69 (Nat.ne_of_beq_eq_false rfl)).trans g_621_69
    have g_622_71 := (f_622 71 (Nat.ne_of_beq_eq_false rfl)).trans g_621_71
    have g_622_72 := (f_622 72 (Nat.ne_of_beq_eq_false rfl)).trans g_621_72
    have g_622_73 := (f_622 73 (Nat.ne_of_beq_eq_false rfl)).trans g_621_73
    have g_622_74 := (f_622 74 (Nat.ne_of_beq_eq_false rfl)).trans g_621_74
    have g_622_75 := (f_622 75 (Nat.ne_of_beq_eq_false rfl)).trans g_621_75
    have g_622_76 := (f_622 76 (Nat.ne_of_beq_eq_false rfl)).trans g_621_76
    have g_622_90 := (f_622 90 (Nat.ne_of_beq_eq_false rfl)).trans g_621_90
    have g_622_93 := (f_622 93 (Nat.ne_of_beq_eq_false rfl)).trans g_621_93
    have g_622_70 : cE h_622 70 (.inl (.int, fA [0, pa, fa, kb, pb, fb])) := e_622
    refine fw_inc (a := 0) (loc_q := [some (.ref 66), some (fI 0), some (fI 1)]) rfl rfl (Nat.le_of_ble_eq_true rfl) rfl ?_
    refine ik_Wk 2 (pc_q := 123) (loc_q := [some (.ref 66), some (fI 0), some (fI 1)]) (st_q := [fI 1]) (h_q := h_622) (cl_q := 0) (sl_q := 0) rfl ?_
    refine fw_bi rfl (by decide +kernel) ?_
    refine fw_ic_ge rfl rfl (by omega) (by omega) (by omega) (by omega) (fun hc4 => absurd hc4 (by omega)) (fun hc4 => ?_)
    refine ik_Wk 1 (pc_q := 129) (loc_q := [some (.ref 66), some (fI 0), some (fI 1)]) (st_q := [.ref 66]) (h_q := h_622) (cl_q := 0) (sl_q := 0) rfl ?_
    refine fw_gf rfl rfl g_622_66 rfl ?_
    refine ik_Wk 2 (pc_q := 134) (loc_q := [some (.ref 66), some (fI 0), some (fI 1)]) (st_q := [fI 0, fI 1, .ref 70]) (h_q := h_622) (cl_q := 0) (sl_q := 0) rfl ?_
    refine fx_ias (z := 1) rfl g_622_70 (by decide +kernel) (Nat.le_of_ble_eq_true rfl) (by decide +kernel) ?_
    intro h_623 e_623 f_623 l_623
    have k_623 : cL h_623 := l_623.trans k_622
    have fr_623 := hfr_wb fr_622 f_623 l_623 rfl
    clear l_623
    have g_623_66 := (f_623 66 (Nat.ne_of_beq_eq_false rfl)).trans g_622_66
    have g_623_67 := (f_623 67 (Nat.ne_of_beq_eq_false rfl)).trans g_622_67
    have g_623_68 := (f_623 68 (Nat.ne_of_beq_eq_false rfl)).trans g_622_68
    have g_623_69 := (f_623 69 (Nat.ne_of_beq_eq_false rfl)).trans g_622_69
    have g_623_71 := (f_623 71 (Nat.ne_of_beq_eq_false rfl)).trans g_622_71
    have g_623_72 := (f_623 72 (Nat.ne_of_beq_eq_false rfl)).trans g_622_72
    have g_623_73 := (f_623 73 (Nat.ne_of_beq_eq_false rfl)).trans g_622_73
    have g_623_74 := (f_623 74 (Nat.ne_of_beq_eq_false rfl)).trans g_622_74
    have g_623_75 := (f_623 75 (Nat.ne_of_beq_eq_false rfl)).trans g_622_75
    have g_623_76 := (f_623 76 (Nat.ne_of_beq_eq_false rfl)).trans g_622_76
    have g_623_90 := (f_623 90 (Nat.ne_of_beq_eq_false rfl)).trans g_622_90
    have g_623_93 := (f_623 93 (Nat.ne_of_beq_eq_false rfl)).trans g_622_93
    have g_623_70 : cE h_623 70 (.inl (.int, fA [0, 0, fa, kb, pb, fb])) := e_623
    refine fw_inc (a := 1) (loc_q := [some (.ref 66), some (fI 0), some (fI 2)]) rfl rfl (Nat.le_of_ble_eq_true rfl) rfl ?_
    refine ik_Wk 2 (pc_q := 123) (loc_q := [some (.ref 66), some (fI 0), some (fI 2)]) (st_q := [fI 2]) (h_q := h_623) (cl_q := 0) (sl_q := 0) rfl ?_
    refine fw_bi rfl (by decide +kernel) ?_
    refine fw_ic_ge rfl rfl (by omega) (by omega) (by omega) (by omega) (fun hc5 => absurd hc5 (by omega)) (fun hc5 => ?_)
    refine ik_Wk 1 (pc_q := 129) (loc_q := [some (.ref 66), some (fI 0), some (fI 2)]) (st_q := [.ref 66]) (h_q := h_623) (cl_q := 0) (sl_q := 0) rfl ?_
    refine fw_gf rfl rfl g_623_66 rfl ?_
    refine ik_Wk 2 (pc_q := 134) (loc_q := [some (.ref 66), some (fI 0), some (fI 2)]) (st_q := [fI 0, fI 2, .ref 70]) (h_q := h_623) (cl_q := 0) (sl_q := 0) rfl ?_
    refine fx_ias (z := 2) rfl g_623_70 (by decide +kernel) (Nat.le_of_ble_eq_true rfl) (by decide +kernel) ?_
    intro h_624 e_624 f_624 l_624
    have k_624 : cL h_624 := l_624.trans k_623
    have fr_624 := hfr_wb fr_623 f_624 l_624 rfl
    clear l_624
    have g_624_66 := (f_624 66 (Nat.ne_of_beq_eq_false rfl)).trans g_623_66
    have g_624_67 := (f_624 67 (Nat.ne_of_beq_eq_false rfl)).trans g_623_67
    have g_624_68 := (f_624 68 (Nat.ne_of_beq_eq_false rfl)).trans g_623_68
    have g_624_69 := (f_624 69 (Nat.ne_of_beq_eq_false rfl)).trans g_623_69
    have g_624_71 := (f_624 71 (Nat.ne_of_beq_eq_false rfl)).trans g_623_71
    have g_624_72 := (f_624 72 (Nat.ne_of_beq_eq_false rfl)).trans g_623_72
    have g_624_73 := (f_624 73 (Nat.ne_of_beq_eq_false rfl)).trans g_623_73
    have g_624_74 := (f_624 74 (Nat.ne_of_beq_eq_false rfl)).trans g_623_74
    have g_624_75 := (f_624 75 (Nat.ne_of_beq_eq_false rfl)).trans g_623_75
    have g_624_76 := (f_624 76 (Nat.ne_of_beq_eq_false rfl)).trans g_623_76
    have g_624_90 := (f_624 90 (Nat.ne_of_beq_eq_false rfl)).trans g_623_90
    have g_624_93 := (f_624 93 (Nat.ne_of_beq_eq_false rfl)).trans g_623_93
    have g_624_70 : cE h_624 70 (.inl (.int, fA [0, 0, 0, kb, pb, fb])) := e_624
    refine fw_inc (a := 2) (loc_q := [some (.ref 66), some (fI 0), some (fI 3)]) rfl rfl (Nat.le_of_ble_eq_true rfl) rfl ?_
    refine ik_Wk 2 (pc_q := 123) (loc_q := [some (.ref 66), some (fI 0), some (fI 3)]) (st_q := [fI 3]) (h_q := h_624) (cl_q := 0) (sl_q := 0) rfl ?_
    refine fw_bi rfl (by decide +kernel) ?_
    refine fw_ic_ge rfl rfl (by omega) (by omega) (by omega) (by omega) (fun hc6 => absurd hc6 (by omega)) (fun hc6 => ?_)
    refine ik_Wk 1 (pc_q := 129) (loc_q := [some (.ref 66), some (fI 0), some (fI 3)]) (st_q := [.ref 66]) (h_q := h_624) (cl_q := 0) (sl_q := 0) rfl ?_
    refine fw_gf rfl rfl g_624_66 rfl ?_
    refine ik_Wk 2 (pc_q := 134) (loc_q := [some (.ref 66), some (fI 0), some (fI 3)]) (st_q := [fI 0, fI 3, .ref 70]) (h_q := h_624) (cl_q := 0) (sl_q := 0) rfl ?_
    refine fx_ias (z := 3) rfl g_624_70 (by decide +kernel) (Nat.le_of_ble_eq_true rfl) (by decide +kernel) ?_
    intro h_625 e_625 f_625 l_625
    have k_625 : cL h_625 := l_625.trans k_624
    have fr_625 := hfr_wb fr_624 f_625 l_625 rfl
    clear l_625
    have g_625_66 := (f_625 66 (Nat.ne_of_beq_eq_false rfl)).trans g_624_66
    have g_625_67 := (f_625 67 (Nat.ne_of_beq_eq_false rfl)).trans g_624_67
    have g_625_68 := (f_625 68 (Nat.ne_of_beq_eq_false rfl)).trans g_624_68
    have g_625_69 := (f_625 69 (Nat.ne_of_beq_eq_false rfl)).trans g_624_69
    have g_625_71 := (f_625 71 (Nat.ne_of_beq_eq_false rfl)).trans g_624_71
    have g_625_72 := (f_625 72 (Nat.ne_of_beq_eq_false rfl)).trans g_624_72
    have g_625_73 := (f_625 73 (Nat.ne_of_beq_eq_false rfl)).trans g_624_73
    have g_625_74 := (f_625 74 (Nat.ne_of_beq_eq_false rfl)).trans g_624_74
    have g_625_75 := (f_625 75 (Nat.ne_of_beq_eq_false rfl)).trans g_624_75
    have g_625_76 := (f_625 76 (Nat.ne_of_beq_eq_false rfl)).trans g_624_76
    have g_625_90 := (f_625 90 (Nat.ne_of_beq_eq_false rfl)).trans g_624_90
    have g_625_93 := (f_625 93 (Nat.ne_of_beq_eq_false rfl)).trans g_624_93
    have g_625_70 : cE h_625 70 (.inl (.int, fA [0, 0, 0, 0, pb, fb])) := e_625
    refine fw_inc (a := 3) (loc_q := [some (.ref 66), some (fI 0), some (fI 4)]) rfl rfl (Nat.le_of_ble_eq_true rfl) rfl ?_
    refine ik_Wk 2 (pc_q := 123) (loc_q := [some (.ref 66), some (fI 0), some (fI 4)]) (st_q := [fI 4]) (h_q := h_625) (cl_q := 0) (sl_q := 0) rfl ?_
    refine fw_bi rfl (by decide +kernel) ?_
    refine fw_ic_ge rfl rfl (by omega) (by omega) (by omega) (by omega) (fun hc7 => absurd hc7 (by omega)) (fun hc7 => ?_)
    refine ik_Wk 1 (pc_q := 129) (loc_q := [some (.ref 66), some (fI 0), some (fI 4)]) (st_q := [.ref 66]) (h_q := h_625) (cl_q := 0) (sl_q := 0) rfl ?_
    refine fw_gf rfl rfl g_625_66 rfl ?_
    refine ik_Wk 2 (pc_q := 134) (loc_q := [some (.ref 66), some (fI 0), some (fI 4)]) (st_q := [fI 0, fI 4, .ref 70]) (h_q := h_625) (cl_q := 0) (sl_q := 0) rfl ?_
    refine fx_ias (z := 4) rfl g_625_70 (by decide +kernel) (Nat.le_of_ble_eq_true rfl) (by decide +kernel) ?_
    intro h_626 e_626 f_626 l_626
    have k_626 : cL h_626 := l_626.trans k_625
    have fr_626 := hfr_wb fr_625 f_626 l_626 rfl
    clear l_626
    have g_626_66 := (f_626 66 (Nat.ne_of_beq_eq_false rfl)).trans g_625_66
    have g_626_67 := (f_626 67 (Nat.ne_of_beq_eq_false rfl)).trans g_625_67
    have g_626_68 := (f_626 68 (Nat.ne_of_beq_eq_false rfl)).trans g_625_68
    have g_626_69 := (f_626 69 (Nat.ne_of_beq_eq_false rfl)).trans g_625_69
    have g_626_71 := (f_626 71 (Nat.ne_of_beq_eq_false rfl)).trans g_625_71
    have g_626_72 := (f_626 72 (Nat.ne_of_beq_eq_false rfl)).trans g_625_72
    have g_626_73 := (f_626 73 (Nat.ne_of_beq_eq_false rfl)).trans g_625_73
    have g_626_74 := (f_626 74 (Nat.ne_of_beq_eq_false rfl)).trans g_625_74
    have g_626_75 := (f_626 75 (Nat.ne_of_beq_eq_false rfl)).trans g_625_75
    have g_626_76 := (f_626 76 (Nat.ne_of_beq_eq_false rfl)).trans g_625_76
    have g_626_90 := (f_626 90 (Nat.ne_of_beq_eq_false rfl)).trans g_625_90
    have g_626_93 := (f_626 93 (Nat.ne_of_beq_eq_false rfl)).trans g_625_93
    have g_626_70 : cE h_626 70 (.inl (.int, fA [0, 0, 0, 0, 0, fb])) := e_626
    refine fw_inc (a := 4) (loc_q := [some (.ref 66), some (fI 0), some (fI 5)]) rfl rfl (Nat.le_of_ble_eq_true rfl) rfl ?_
    refine ik_Wk 2 (pc_q := 123) (loc_q := [some (.ref 66), some (fI 0), some (fI 5)]) (st_q := [fI 5]) (h_q := h_626) (cl_q := 0) (sl_q := 0) rfl ?_
    refine fw_bi rfl (by decide +kernel) ?_
    refine fw_ic_ge rfl rfl (by omega) (by omega) (by omega) (by omega) (fun hc8 => absurd hc8 (by omega)) (fun hc8 => ?_)
    refine ik_Wk 1 (pc_q := 129) (loc_q := [some (.ref 66), some (fI 0), some (fI 5)]) (st_q := [.ref 66]) (h_q := h_626) (cl_q := 0) (sl_q := 0) rfl ?_
    refine fw_gf rfl rfl g_626_66 rfl ?_
    refine ik_Wk 2 (pc_q := 134) (loc_q := [some (.ref 66), some (fI 0), some (fI 5)]) (st_q := [fI 0, fI 5, .ref 70]) (h_q := h_626) (cl_q := 0) (sl_q := 0) rfl ?_
    refine fx_ias (z := 5) rfl g_626_70 (by decide +kernel) (Nat.le_of_ble_eq_true rfl) (by decide +kernel) ?_
    intro h_627 e_627 f_627 l_627
    have k_627 : cL h_627 := l_627.trans k_626
    have fr_627 := hfr_wb fr_626 f_627 l_627 rfl
    clear l_627
    have g_627_66 := (f_627 66 (Nat.ne_of_beq_eq_false rfl)).trans g_626_66
    have g_627_67 := (f_627 67 (Nat.ne_of_beq_eq_false rfl)).trans g_626_67
    have g_627_68 := (f_627 68 (Nat.ne_of_beq_eq_false rfl)).trans g_626_68
    have g_627_69 := (f_627 69 (Nat.ne_of_beq_eq_false rfl)).trans g_626_69
    have g_627_71 := (f_627 71 (Nat.ne_of_beq_eq_false rfl)).trans g_626_71
    have g_627_72 := (f_627 72 (Nat.ne_of_beq_eq_false rfl)).trans g_626_72
    have g_627_73 := (f_627 73 (Nat.ne_of_beq_eq_false rfl)).trans g_626_73
    have g_627_74 := (f_627 74 (Nat.ne_of_beq_eq_false rfl)).trans g_626_74
    have g_627_75 := (f_627 75 (Nat.ne_of_beq_eq_false rfl)).trans g_626_75
    have g_627_76 := (f_627 76 (Nat.ne_of_beq_eq_false rfl)).trans g_626_76
    have g_627_90 := (f_627 90 (Nat.ne_of_beq_eq_false rfl)).trans g_626_90
    have g_627_93 := (f_627 93 (Nat.ne_of_beq_eq_false rfl)).trans g_626_93
    have g_627_70 : cE h_627 70 (.inl (.int, fA [0, 0, 0, 0, 0, 0])) := e_627
    refine fw_inc (a := 5) (loc_q := [some (.ref 66), some (fI 0), some (fI 6)]) rfl rfl (Nat.le_of_ble_eq_true rfl) rfl ?_
    refine ik_Wk 2 (pc_q := 123) (loc_q := [some (.ref 66), some (fI 0), some (fI 6)]) (st_q := [fI 6]) (h_q := h_627) (cl_q := 0) (sl_q := 0) rfl ?_
    refine fw_bi rfl (by decide +kernel) ?_
    refine fw_ic_ge rfl rfl (by omega) (by omega) (by omega) (by omega) (fun hc9 => ?_) (fun hc9 => absurd hc9 (by omega))
    refine ik_Wk 2 (pc_q := 143) (loc_q := [some (.ref 66), some (fI 0), some (fI 6)]) (st_q := [fI 0, .ref 66]) (h_q := h_627) (cl_q := 0) (sl_q := 0) rfl ?_
    refine fx_pf rfl rfl g_627_66 (Nat.le_of_ble_eq_true rfl) rfl rfl ?_
    intro h_628 e_628 f_628 l_628
    have k_628 : cL h_628 := l_628.trans k_627
    have fr_628 := hfr_wb fr_627 f_628 l_628 rfl
    clear l_628
    have g_628_67 := (f_628 67 (Nat.ne_of_beq_eq_false rfl)).trans g_627_67
    have g_628_68 := (f_628 68 (Nat.ne_of_beq_eq_false rfl)).trans g_627_68
    have g_628_69 := (f_628 69 (Nat.ne_of_beq_eq_false rfl)).trans g_627_69
    have g_628_70 := (f_628 70 (Nat.ne_of_beq_eq_false rfl)).trans g_627_70
    have g_628_71 := (f_628 71 (Nat.ne_of_beq_eq_false rfl)).trans g_627_71
    have g_628_72 := (f_628 72 (Nat.ne_of_beq_eq_false rfl)).trans g_627_72
    have g_628_73 := (f_628 73 (Nat.ne_of_beq_eq_false rfl)).trans g_627_73
    have g_628_74 := (f_628 74 (Nat.ne_of_beq_eq_false rfl)).trans g_627_74
    have g_628_75 := (f_628 75 (Nat.ne_of_beq_eq_false rfl)).trans g_627_75
    have g_628_76 := (f_628 76 (Nat.ne_of_beq_eq_false rfl)).trans g_627_76
    have g_628_90 := (f_628 90 (Nat.ne_of_beq_eq_false rfl)).trans g_627_90
    have g_628_93 := (f_628 93 (Nat.ne_of_beq_eq_false rfl)).trans g_627_93
    have g_628_66 : cE h_628 66 (.inr (10, (fI q_616.1 :: .ref 67 :: .ref 68 :: .ref 69 :: fI 0 :: .ref 70 :: .ref 71 :: fI (f 7) :: fI (f 8) :: .ref 72 :: fI 0 :: fI (-1) :: fI a0'_616 :: fJ sd'_616 :: fI we'_616 :: fI nu'_616 :: fI na'_616 :: fI q_616.1 :: .ref 73 :: .ref 74 :: .ref 75 :: .ref 76 :: .ref 77 :: .ref 78 :: fI (f 24) :: .ref 79 :: .ref 80 :: .ref 81 :: .ref 82 :: .ref 83 :: .ref 84 :: .ref 85 :: fJ (f 32) :: fJ (f 33) :: .ref 86 :: .ref 87 :: fI (f 36) :: .ref 88 :: .ref 89 :: .ref 90 :: .ref 91 :: .ref 92 :: .ref 93 :: []))) := e_628
    refine ik_Wk 2 (pc_q := 148) (loc_q := [some (.ref 66), some (fI 0), some (fI 6)]) (st_q := [fI 0, .ref 66]) (h_q := h_628) (cl_q := 0) (sl_q := 0) rfl ?_
    refine fx_pf rfl rfl g_628_66 (Nat.le_of_ble_eq_true rfl) rfl rfl ?_
    intro h_629 e_629 f_629 l_629
    have k_629 : cL h_629 := l_629.trans k_628
    have fr_629 := hfr_wb fr_628 f_629 l_629 rfl
    clear l_629
    have g_629_67 := (f_629 67 (Nat.ne_of_beq_eq_false rfl)).trans g_628_67
    have g_629_68 := (f_629 68 (Nat.ne_of_beq_eq_false rfl)).trans g_628_68
    have g_629_69 := (f_629 69 (Nat.ne_of_beq_eq_false rfl)).trans g_628_69
    have g_629_70 := (f_629 70 (Nat.ne_of_beq_eq_false rfl)).trans g_628_70
    have g_629_71 := (f_629 71 (Nat.ne_of_beq_eq_false rfl)).trans g_628_71
    have g_629_72 := (f_629 72 (Nat.ne_of_beq_eq_false rfl)).trans g_628_72
    have g_629_73 := (f_629 73 (Nat.ne_of_beq_eq_false rfl)).trans g_628_73
    have g_629_74 := (f_629 74 (Nat.ne_of_beq_eq_false rfl)).trans g_628_74
    have g_629_75 := (f_629 75 (Nat.ne_of_beq_eq_false rfl)).trans g_628_75
    have g_629_76 := (f_629 76 (Nat.ne_of_beq_eq_false rfl)).trans g_628_76
    have g_629_90 := (f_629 90 (Nat.ne_of_beq_eq_false rfl)).trans g_628_90
    have g_629_93 := (f_629 93 (Nat.ne_of_beq_eq_false rfl)).trans g_628_93
    have g_629_66 : cE h_629 66 (.inr (10, (fI q_616.1 :: .ref 67 :: .ref 68 :: .ref 69 :: fI 0 :: .ref 70 :: .ref 71 :: fI (f 7) :: fI (f 8) :: .ref 72 :: fI 0 :: fI (-1) :: fI a0'_616 :: fJ sd'_616 :: fI we'_616 :: fI nu'_616 :: fI na'_616 :: fI q_616.1 :: .ref 73 :: .ref 74 :: .ref 75 :: .ref 76 :: .ref 77 :: .ref 78 :: fI (f 24) :: .ref 79 :: .ref 80 :: .ref 81 :: .ref 82 :: .ref 83 :: .ref 84 :: .ref 85 :: fJ (f 32) :: fJ (f 33) :: .ref 86 :: .ref 87 :: fI 0 :: .ref 88 :: .ref 89 :: .ref 90 :: .ref 91 :: .ref 92 :: .ref 93 :: []))) := e_629
    refine ik_Wk 1 (pc_q := 152) (loc_q := [some (.ref 66), some (fI 0), some (fI 6)]) (st_q := [.ref 66]) (h_q := h_629) (cl_q := 0) (sl_q := 0) rfl ?_
    refine fw_gf rfl rfl g_629_66 rfl ?_
    refine ik_Wk 2 (pc_q := 157) (loc_q := [some (.ref 66), some (fI 0), some (fI 6)]) (st_q := [fI 0, fI 0, .ref 90]) (h_q := h_629) (cl_q := 0) (sl_q := 0) rfl ?_
    refine fx_ias (z := 0) rfl g_629_90 (by decide +kernel) (Nat.le_of_ble_eq_true rfl) (by decide +kernel) ?_
    intro h_630 e_630 f_630 l_630
    have k_630 : cL h_630 := l_630.trans k_629
    have fr_630 := hfr_wb fr_629 f_630 l_630 rfl
    clear l_630
    have g_630_66 := (f_630 66 (Nat.ne_of_beq_eq_false rfl)).trans g_629_66
    have g_630_67 := (f_630 67 (Nat.ne_of_beq_eq_false rfl)).trans g_629_67
    have g_630_68 := (f_630 68 (Nat.ne_of_beq_eq_false rfl)).trans g_629_68
    have g_630_69 := (f_630 69 (Nat.ne_of_beq_eq_false rfl)).trans g_629_69
    have g_630_70 := (f_630 70 (Nat.ne_of_beq_eq_false rfl)).trans g_629_70
    have g_630_71 := (f_630 71 (Nat.ne_of_beq_eq_false rfl)).trans g_629_71
    have g_630_72 := (f_630 72 (Nat.ne_of_beq_eq_false rfl)).trans g_629_72
    have g_630_73 := (f_630 73 (Nat.ne_of_beq_eq_false rfl)).trans g_629_73
    have g_630_74 := (f_630 74 (Nat.ne_of_beq_eq_false rfl)).trans g_629_74
    have g_630_75 := (f_630 75 (Nat.ne_of_beq_eq_false rfl)).trans g_629_75
    have g_630_76 := (f_630 76 (Nat.ne_of_beq_eq_false rfl)).trans g_629_76
    have g_630_93 := (f_630 93 (Nat.ne_of_beq_eq_false rfl)).trans g_629_93
    have g_630_90 : cE h_630 90 (.inl (.int, fA [0, n1])) := e_630
    refine ik_Wk 1 (pc_q := 159) (loc_q := [some (.ref 66), some (fI 0), some (fI 6)]) (st_q := [.ref 66]) (h_q := h_630) (cl_q := 0) (sl_q := 0) rfl ?_
    refine fw_gf rfl rfl g_630_66 rfl ?_
    refine ik_Wk 2 (pc_q := 164) (loc_q := [some (.ref 66), some (fI 0), some (fI 6)]) (st_q := [fI 0, fI 1, .ref 90]) (h_q := h_630) (cl_q := 0) (sl_q := 0) rfl ?_
    refine fx_ias (z := 1) rfl g_630_90 (by decide +kernel) (Nat.le_of_ble_eq_true rfl) (by decide +kernel) ?_
    intro h_631 e_631 f_631 l_631
    have k_631 : cL h_631 := l_631.trans k_630
    have fr_631 := hfr_wb fr_630 f_631 l_631 rfl
    clear l_631
    have g_631_66 := (f_631 66 (Nat.ne_of_beq_eq_false rfl)).trans g_630_66
    have g_631_67 := (f_631 67 (Nat.ne_of_beq_eq_false rfl)).trans g_630_67
    have g_631_68 := (f_631 68 (Nat.ne_of_beq_eq_false rfl)).trans g_630_68
    have g_631_69 := (f_631 69 (Nat.ne_of_beq_eq_false rfl)).trans g_630_69
    have g_631_70 := (f_631 70 (Nat.ne_of_beq_eq_false rfl)).trans g_630_70
    have g_631_71 := (f_631 71 (Nat.ne_of_beq_eq_false rfl)).trans g_630_71
    have g_631_72 := (f_631 72 (Nat.ne_of_beq_eq_false rfl)).trans g_630_72
    have g_631_73 := (f_631 73 (Nat.ne_of_beq_eq_false rfl)).trans g_630_73
    have g_631_74 := (f_631 74 (Nat.ne_of_beq_eq_false rfl)).trans g_630_74
    have g_631_75 := (f_631 75 (Nat.ne_of_beq_eq_false rfl)).trans g_630_75
    have g_631_76 := (f_631 76 (Nat.ne_of_beq_eq_false rfl)).trans g_630_76
    have g_631_93 := (f_631 93 (Nat.ne_of_beq_eq_false rfl)).trans g_630_93
    have g_631_90 : cE h_631 90 (.inl (.int, fA [0, 0])) := e_631
    refine ik_Wk 1 (pc_q := 166) (loc_q := [some (.ref 66), some (fI 0), some (fI 6)]) (st_q := [.ref 66]) (h_q := h_631) (cl_q := 0) (sl_q := 0) rfl ?_
    refine fw_gf rfl rfl g_631_66 rfl ?_
    refine ik_Wk 2 (pc_q := 171) (loc_q := [some (.ref 66), some (fI 0), some (fI 6)]) (st_q := [fI 0, fI 0, .ref 93]) (h_q := h_631) (cl_q := 0) (sl_q := 0) rfl ?_
    refine fx_bsb (z := 0) (v := 0) rfl g_631_93 (by decide +kernel) (Nat.le_of_ble_eq_true rfl) (by decide +kernel) (by decide +kernel) ?_
    intro h_632 e_632 f_632 l_632
    have k_632 : cL h_632 := l_632.trans k_631
    have fr_632 := hfr_wb fr_631 f_632 l_632 rfl
    clear l_632
    have g_632_66 := (f_632 66 (Nat.ne_of_beq_eq_false rfl)).trans g_631_66
    have g_632_67 := (f_632 67 (Nat.ne_of_beq_eq_false rfl)).trans g_631_67
    have g_632_68 := (f_632 68 (Nat.ne_of_beq_eq_false rfl)).trans g_631_68
    have g_632_69 := (f_632 69 (Nat.ne_of_beq_eq_false rfl)).trans g_631_69
    have g_632_70 := (f_632 70 (Nat.ne_of_beq_eq_false rfl)).trans g_631_70
    have g_632_71 := (f_632 71 (Nat.ne_of_beq_eq_false rfl)).trans g_631_71
    have g_632_72 := (f_632 72 (Nat.ne_of_beq_eq_false rfl)).trans g_631_72
    have g_632_73 := (f_632 73 (Nat.ne_of_beq_eq_false rfl)).trans g_631_73
    have g_632_74 := (f_632 74 (Nat.ne_of_beq_eq_false rfl)).trans g_631_74
    have g_632_75 := (f_632 75 (Nat.ne_of_beq_eq_false rfl)).trans g_631_75
    have g_632_76 := (f_632 76 (Nat.ne_of_beq_eq_false rfl)).trans g_631_76
    have g_632_90 := (f_632 90 (Nat.ne_of_beq_eq_false rfl)).trans g_631_90
    have g_632_93 : cE h_632 93 (.inl (.boolean, fA [0, t1])) := e_632
    refine ik_Wk 1 (pc_q := 173) (loc_q := [some (.ref 66), some (fI 0), some (fI 6)]) (st_q := [.ref 66]) (h_q := h_632) (cl_q := 0) (sl_q := 0) rfl ?_
    refine fw_gf rfl rfl g_632_66 rfl ?_
    refine ik_Wk 2 (pc_q := 178) (loc_q := [some (.ref 66), some (fI 0), some (fI 6)]) (st_q := [fI 0, fI 1, .ref 93]) (h_q := h_632) (cl_q := 0) (sl_q := 0) rfl ?_
    refine fx_bsb (z := 1) (v := 0) rfl g_632_93 (by decide +kernel) (Nat.le_of_ble_eq_true rfl) (by decide +kernel) (by decide +kernel) ?_
    intro h_633 e_633 f_633 l_633
    have k_633 : cL h_633 := l_633.trans k_632
    have fr_633 := hfr_wb fr_632 f_633 l_633 rfl
    clear l_633
    have g_633_66 := (f_633 66 (Nat.ne_of_beq_eq_false rfl)).trans g_632_66
    have g_633_67 := (f_633 67 (Nat.ne_of_beq_eq_false rfl)).trans g_632_67
    have g_633_68 := (f_633 68 (Nat.ne_of_beq_eq_false rfl)).trans g_632_68
    have g_633_69 := (f_633 69 (Nat.ne_of_beq_eq_false rfl)).trans g_632_69
    have g_633_70 := (f_633 70 (Nat.ne_of_beq_eq_false rfl)).trans g_632_70
    have g_633_71 := (f_633 71 (Nat.ne_of_beq_eq_false rfl)).trans g_632_71
    have g_633_72 := (f_633 72 (Nat.ne_of_beq_eq_false rfl)).trans g_632_72
    have g_633_73 := (f_633 73 (Nat.ne_of_beq_eq_false rfl)).trans g_632_73
    have g_633_74 := (f_633 74 (Nat.ne_of_beq_eq_false rfl)).trans g_632_74
    have g_633_75 := (f_633 75 (Nat.ne_of_beq_eq_false rfl)).trans g_632_75
    have g_633_76 := (f_633 76 (Nat.ne_of_beq_eq_false rfl)).trans g_632_76
    have g_633_90 := (f_633 90 (Nat.ne_of_beq_eq_false rfl)).trans g_632_90
    have g_633_93 : cE h_633 93 (.inl (.boolean, fA [0, 0])) := e_633
    refine ik_Wk 1 (pc_q := 180) (loc_q := [some (.ref 66), some (fI 0), some (fI 6)]) (st_q := [.ref 66]) (h_q := h_633) (cl_q := 0) (sl_q := 0) rfl ?_
    refine fw_call 194 1 0 [.ref 66] [] rfl rfl rfl (Nat.le_of_ble_eq_true rfl) rfl rfl (fw_rec k_633 rfl g_633_66 rfl (Nat.le_of_ble_eq_true rfl)) (cr_begin (mi := f 7) (ka := 0) (pa := 0) (fa := 0) (kb := 0) (pb := 0) (fb := 0) (xa := xa) (xb := xb) (f := fun j => ((q_616.1 :: 0 :: 0 :: 0 :: 0 :: 0 :: 0 :: 0 :: f 8 :: 0 :: 0 :: (-1) :: a0'_616 :: sd'_616 :: we'_616 :: nu'_616 :: na'_616 :: q_616.1 :: 0 :: 0 :: 0 :: 0 :: 0 :: 0 :: f 24 :: 0 :: 0 :: 0 :: 0 :: 0 :: 0 :: 0 :: f 32 :: f 33 :: 0 :: 0 :: 0 :: 0 :: 0 :: 0 :: 0 :: 0 :: 0 :: []) : List Int).getD j 0) (by omega) (by omega) g_633_66 g_633_70 g_633_71 k_633) ?_
    rintro _ h_634 ⟨rfl, e_634_66, e_634_71, F_634⟩
    have k_634 : cL h_634 := F_634.1.trans k_633
    have fr_634 := hfr_cb fr_633 F_634 rfl
    have g_634_67 := (hfr_g F_634 67 rfl).trans g_633_67
    have g_634_68 := (hfr_g F_634 68 rfl).trans g_633_68
    have g_634_69 := (hfr_g F_634 69 rfl).trans g_633_69
    have g_634_70 := (hfr_g F_634 70 rfl).trans g_633_70
    have g_634_72 := (hfr_g F_634 72 rfl).trans g_633_72
    have g_634_73 := (hfr_g F_634 73 rfl).trans g_633_73
    have g_634_74 := (hfr_g F_634 74 rfl).trans g_633_74
    have g_634_75 := (hfr_g F_634 75 rfl).trans g_633_75
    have g_634_76 := (hfr_g F_634 76 rfl).trans g_633_76
    have g_634_90 := (hfr_g F_634 90 rfl).trans g_633_90
    have g_634_93 := (hfr_g F_634 93 rfl).trans g_633_93
    have g_634_66 : cE h_634 66 (.inr (10, (fI q_616.1 :: .ref 67 :: .ref 68 :: .ref 69 :: fI 0 :: .ref 70 :: .ref 71 :: fI 0 :: fI (f 8) :: .ref 72 :: fI 0 :: fI (-1) :: fI a0'_616 :: fJ sd'_616 :: fI we'_616 :: fI nu'_616 :: fI na'_616 :: fI q_616.1 :: .ref 73 :: .ref 74 :: .ref 75 :: .ref 76 :: .ref 77 :: .ref 78 :: fI (f 24) :: .ref 79 :: .ref 80 :: .ref 81 :: .ref 82 :: .ref 83 :: .ref 84 :: .ref 85 :: fJ (f 32) :: fJ (f 33) :: .ref 86 :: .ref 87 :: fI 0 :: .ref 88 :: .ref 89 :: .ref 90 :: .ref 91 :: .ref 92 :: .ref 93 :: []))) := e_634_66
    have g_634_71 : cE h_634 71 (.inl (.int, fA [mx_sp 0 0, mx_sp 0 0])) := e_634_71
    refine ik_Wk 0 (pc_q := 183) (loc_q := [some (.ref 66), some (fI 0), some (fI 6)]) (st_q := []) (h_q := h_634) (cl_q := 0) (sl_q := 0) rfl ?_
    refine ik_Wk 1 (pc_q := 184) (loc_q := [some (.ref 66), some (fI 0), some (fI 6)]) (st_q := [.ref 66]) (h_q := h_634) (cl_q := 0) (sl_q := 0) rfl ?_
    refine fw_gf rfl rfl g_634_66 rfl ?_
    exact ik_Wret rfl rfl ⟨_, _, rfl, rfl, rfl, rfl, Or.inr ⟨q_616, a0'_616, sd'_616, we'_616, nu'_616, na'_616, M'_616, R'_616, O'_616, A'_616, c2_621, rfl, g_634_66, g_634_72, m_621_72, g_634_73, m_621_73, g_634_74, m_621_74, g_634_75, m_621_75, g_634_76, m_621_76, g_634_67, m_621_67, g_634_68, m_621_68, g_634_69, m_621_69, g_634_70, g_634_71, g_634_90, g_634_93, p_616_0, p_616_1, p_616_2, p_616_3, hm_621, fr_634⟩⟩

end
