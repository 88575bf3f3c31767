noncomputable section
/-! a stream taken over (written by wip/fx/u23.py) -/
theorem zq_pl {q : Int × List (List zM)} (h1 : zrows q.2) (h2 : q.1 = 0 ∧ q.2 = [] ∨ q.1 = (q.2.length : Int) + 1) : 0 ≤ q.1 ∧ q.1 ≤ 12 := by
  have := h1.1
  rcases h2 with w | w <;> omega
theorem zq_c {q : Int × List (List zM)} {C : List Int} (h2 : q.1 = 0 ∧ q.2 = [] ∨ q.1 = (q.2.length : Int) + 1 ∧ C.getD q.2.length 0 = 0) (h : 1 ≤ q.1) : C.getD (q.1 - 1).toNat 0 = 0 := by
  rcases h2 with w | w
  · omega
  · rw [show (q.1 - 1).toNat = q.2.length by omega]; exact w.2
theorem mj_gs_G {cn go ch : List Int} {x : Nat} {pl : Int} (hp : (x : Int) < pl - 1) (hr : mx_rw pl cn go ch) : mj_gs (mx_w cn go ch 0 (x : Nat)) = mj_GG cn go x := by
  have r := (hr (x : Nat) (by omega) hp).1
  rw [Int.toNat_natCast] at r
  have e : mx_w cn go ch 0 (x : Nat) = mx_wr go ch 0 (x : Nat) (cn.getD x 0).toNat := by
    have g0 : mx_g ch 0 (x : Nat) = 0 := by unfold mx_g; rw [Nat.zero_testBit]; rfl
    unfold mx_w
    rw [g0]
    rfl
  rw [e]
  unfold mj_gs mj_GG
  have el : (mx_wr go ch 0 (x : Nat) (cn.getD x 0).toNat).length = (cn.getD x 0).toNat := by
    unfold mx_wr
    rw [List.length_map, List.length_range]
  rw [el]
  have key : ∀ j, j ≤ (cn.getD x 0).toNat → mj_gj (mx_wr go ch 0 (x : Nat) (cn.getD x 0).toNat) j = mj_G cn go x j := by
    intro j
    induction j with
    | zero => intro _; rfl
    | succ j ih =>
      intro h
      show mj_gj _ j ||| 1 <<< ((mx_wr go ch 0 (x : Nat) (cn.getD x 0).toNat).getD j ((0 : Int), (0 : Int))).1.toNat = mj_G cn go x j ||| 1 <<< (go.getD (4 * x + j) 0).toNat
      rw [ih (by omega)]
      have e2 : ((mx_wr go ch 0 (x : Nat) (cn.getD x 0).toNat).getD j (0, 0)).1 = go.getD (4 * x + j) 0 := by
        unfold mx_wr
        rw [List.getD_eq_getElem?_getD, List.getElem?_map, List.getElem?_range (by omega)]
        show go.getD (4 * ((x : Nat) : Int) + (j : Nat)).toNat 0 = _
        rw [show (4 * ((x : Nat) : Int) + (j : Nat)).toNat = 4 * x + j by omega]
      rw [e2]
  exact key _ (Nat.le_refl _)
theorem mj_rd_c {G G' : Nat → Nat} {x : Nat} : ∀ p, (∀ i, i < p → G' i = G i) → mj_rd G' p x = mj_rd G p x := by
  intro p
  induction p with
  | zero => intro _; rfl
  | succ p ih =>
    intro h
    show mj_sp G' (mj_rd G' p x) p = mj_sp G (mj_rd G p x) p
    rw [ih (fun i hi => h i (by omega))]
    unfold mj_sp
    rw [h p (by omega)]
theorem mj_rn_c {G G' : Nat → Nat} {br x : Nat} (h : ∀ i, i < br → G' i = G i) : ∀ n, mj_rn G' br n x = mj_rn G br n x := by
  intro n
  induction n with
  | zero => rfl
  | succ n ih => show mj_rd G' br (mj_rn G' br n x) = mj_rd G br (mj_rn G br n x); rw [ih, mj_rd_c br h]
theorem mj_lg_c {G G' : Nat → Nat} {pl : Int} (h : ∀ i : Nat, (i : Int) < pl - 1 → G' i = G i) : mj_lg pl G' = mj_lg pl G := by
  unfold mj_lg
  rw [mj_rn_c (G := G) (G' := G') (fun i hi => h i (by omega))]
theorem mj_lg_w {cn go ch : List Int} {pl : Int} (hr : mx_rw pl cn go ch) : mj_lg pl (fun p => mj_gs ((fun x => mx_w cn go ch 0 x) (p : Nat))) = mj_lost pl cn go := by
  rw [mj_lost_lg]
  exact mj_lg_c fun i hi => mj_gs_G hi hr
theorem mj_lost_al {pl : Int} {cn go ch cn' go' ch' : List Int} (hr : mx_rw pl cn go ch) (h : mx_al pl cn go ch cn' go' ch') : mj_lost pl cn' go' = mj_lost pl cn go := by
  rw [mj_lost_lg, mj_lost_lg]
  refine mj_lg_c fun i hi => ?_
  have a := h (i : Nat) (by omega) hi
  have r := (hr (i : Nat) (by omega) hi).1
  rw [Int.toNat_natCast] at a r
  unfold mj_GG
  rw [a.1]
  have key : ∀ j, j ≤ (cn.getD i 0).toNat → mj_G cn' go' i j = mj_G cn go i j := by
    intro j
    induction j with
    | zero => intro _; rfl
    | succ j ih =>
      intro hj
      show mj_G cn' go' i j ||| 1 <<< (go'.getD (4 * i + j) 0).toNat = mj_G cn go i j ||| 1 <<< (go.getD (4 * i + j) 0).toNat
      rw [ih (by omega)]
      have z := (a.2 (j : Nat) (by omega) (by omega)).1
      rw [show (4 * ((i : Nat) : Int) + (j : Nat)).toNat = 4 * i + j by omega] at z
      rw [z]
  exact key _ (Nat.le_refl _)
theorem cp_stream {h : List ik_E} {tn : Int} {cu : Int} {fl : Int} {fp : Int} {rpl : Int} {T : List Int} {C : List Int} {G : List Int} {P : List Int} {B : List Int} {y : Int → Int} {pl : Int} {st : Int} {lo : Int} {mi : Int} {dr : Int} {r : Int} {n0 : Int} {n1 : Int} {ka : Int} {pa : Int} {fa : Int} {kb : Int} {pb : Int} {fb : Int} {xa : Int} {xb : Int} {cn : List Int} {go : List Int} {ch : List Int} {wg : List Int} {wc : List Int} {we : List Int} {ta0 : Int} {tm0 : Int} {td0 : Int} {ts0 : Int} {ta1 : Int} {tm1 : Int} {td1 : Int} {ts1 : Int} (q0 : ∀ i : Int, 0 ≤ i → i < tn → -128 ≤ T.getD i.toNat 0 ∧ T.getD i.toNat 0 ≤ 127) (q1 : 0 ≤ tn ∧ tn ≤ 500) (q2 : ∀ i : Int, 0 ≤ i → i < tn → y i = T.getD i.toNat 0 % 256) (h0 : cE h 0 (.inr (9, [.ref 1, .ref 7, .ref 14, .ref 17, .ref 45, .ref 51, .ref 54, .ref 57]))) (h1 : cE h 1 (.inr (6, [.ref 2, fI tn, fI cu, fI fl, fI fp, fI rpl, .ref 3, .ref 4, .ref 5, .ref 6]))) (h2 : cE h 2 (.inl (.byte, fA T))) (n2 : T.length = 500) (h3 : cE h 3 (.inl (.int, fA C))) (n3 : C.length = 12) (h4 : cE h 4 (.inl (.int, fA G))) (n4 : G.length = 48) (h5 : cE h 5 (.inl (.int, fA P))) (n5 : P.length = 48) (h6 : cE h 6 (.inl (.int, fA B))) (n6 : B.length = 48) (h7 : cE h 7 (.inr (0, [fI pl, fI st, fI lo, .ref 8, .ref 9, .ref 10, .ref 11, .ref 12, .ref 13]))) (h8 : cE h 8 (.inl (.int, fA cn))) (n8 : cn.length = 12) (h9 : cE h 9 (.inl (.int, fA go))) (n9 : go.length = 48) (h10 : cE h 10 (.inl (.int, fA ch))) (n10 : ch.length = 48) (h11 : cE h 11 (.inl (.int, fA wg))) (n11 : wg.length = 60) (h12 : cE h 12 (.inl (.int, fA wc))) (n12 : wc.length = 60) (h13 : cE h 13 (.inl (.int, fA we))) (n13 : we.length = 12) (h14 : cE h 14 (.inr (1, [.ref 7, .ref 15, .ref 16, fI mi, fJ dr]))) (h15 : cE h 15 (.inl (.int, fA [ka, pa, fa, kb, pb, fb]))) (h16 : cE h 16 (.inl (.int, fA [xa, xb]))) (h51 : cE h 51 (.inr (7, [.ref 7, fI r, .ref 52, .ref 53]))) (h54 : cE h 54 (.inr (4, [.ref 55, .ref 56]))) (h56 : cE h 56 (.inl (.int, fA [n0, n1]))) (h57 : cE h 57 (.inl (.object "SlowerCork$Image", [.ref 58, .ref 62]))) (h58 : cE h 58 (.inr (3, [fI ta0, .ref 59, .ref 60, fI tm0, fJ td0, fI ts0, .ref 61]))) (h62 : cE h 62 (.inr (3, [fI ta1, .ref 63, .ref 64, fI tm1, fJ td1, fI ts1, .ref 65]))) (hl : h.length = 94) : ik_F 91 [.ref 0] h (fun rv h' => (∃ (e : Int × Int) (cu' : Int) (rpl' : Int) (C' : List Int) (G' : List Int) (P' : List Int) (B' : List Int), rv = [fI (-10 - e.1)] ∧ cE h' 1 (.inr (6, [.ref 2, fI 0, fI cu', fI e.1, fI e.2, fI rpl', .ref 3, .ref 4, .ref 5, .ref 6])) ∧ cE h' 2 (.inl (.byte, fA T)) ∧ T.length = 500 ∧ cE h' 3 (.inl (.int, fA C')) ∧ C'.length = 12 ∧ cE h' 4 (.inl (.int, fA G')) ∧ G'.length = 48 ∧ cE h' 5 (.inl (.int, fA P')) ∧ P'.length = 48 ∧ cE h' 6 (.inl (.int, fA B')) ∧ B'.length = 48 ∧ cE h' 7 (.inr (0, [fI pl, fI st, fI lo, .ref 8, .ref 9, .ref 10, .ref 11, .ref 12, .ref 13])) ∧ cE h' 8 (.inl (.int, fA cn)) ∧ cn.length = 12 ∧ cE h' 9 (.inl (.int, fA go)) ∧ go.length = 48 ∧ cE h' 10 (.inl (.int, fA ch)) ∧ ch.length = 48 ∧ cE h' 11 (.inl (.int, fA wg)) ∧ wg.length = 60 ∧ cE h' 12 (.inl (.int, fA wc)) ∧ wc.length = 60 ∧ cE h' 13 (.inl (.int, fA we)) ∧ we.length = 12 ∧ cE h' 14 (.inr (1, [.ref 7, .ref 15, .ref 16, fI mi, fJ dr])) ∧ cE h' 15 (.inl (.int, fA [ka, pa, fa, kb, pb, fb])) ∧ cE h' 16 (.inl (.int, fA [xa, xb])) ∧ cE h' 51 (.inr (7, [.ref 7, fI r, .ref 52, .ref 53])) ∧ cE h' 56 (.inl (.int, fA [n0, n1])) ∧ cE h' 58 (.inr (3, [fI ta0, .ref 59, .ref 60, fI tm0, fJ td0, fI ts0, .ref 61])) ∧ cE h' 62 (.inr (3, [fI ta1, .ref 63, .ref 64, fI tm1, fJ td1, fI ts1, .ref 65])) ∧ (zall y tn = .inl e) ∧ hfr [1, 2, 3, 4, 5, 6, 7, 8, 9, 10, 11, 12, 13, 14, 15, 16, 51, 56, 58, 62] h h') ∨ (∃ (q : Int × List (List zM)) (cu' : Int) (C' : List Int) (G' : List Int) (P' : List Int) (B' : List Int) (wg' : List Int) (wc' : List Int) (we' : List Int), rv = [fI q.1] ∧ cE h' 1 (.inr (6, [.ref 2, fI 0, fI cu', fI 0, fI (-1), fI q.1, .ref 3, .ref 4, .ref 5, .ref 6])) ∧ cE h' 2 (.inl (.byte, fA T)) ∧ T.length = 500 ∧ cE h' 3 (.inl (.int, fA C')) ∧ C'.length = 12 ∧ cE h' 4 (.inl (.int, fA G')) ∧ G'.length = 48 ∧ cE h' 5 (.inl (.int, fA P')) ∧ P'.length = 48 ∧ cE h' 6 (.inl (.int, fA B')) ∧ B'.length = 48 ∧ cE h' 7 (.inr (0, [fI q.1, fI 0, fI ((mj_lost q.1 C' G' : Nat) : Int), .ref 8, .ref 9, .ref 10, .ref 11, .ref 12, .ref 13])) ∧ cE h' 8 (.inl (.int, fA C')) ∧ C'.length = 12 ∧ cE h' 9 (.inl (.int, fA G')) ∧ G'.length = 48 ∧ cE h' 10 (.inl (.int, fA P')) ∧ P'.length = 48 ∧ cE h' 11 (.inl (.int, fA wg')) ∧ wg'.length = 60 ∧ cE h' 12 (.inl (.int, fA wc')) ∧ wc'.length = 60 ∧ cE h' 13 (.inl (.int, fA we')) ∧ we'.length = 12 ∧ cE h' 14 (.inr (1, [.ref 7, .ref 15, .ref 16, fI 0, fJ dr])) ∧ cE h' 15 (.inl (.int, fA [0, 0, 0, 0, 0, 0])) ∧ cE h' 16 (.inl (.int, fA [0, 0])) ∧ cE h' 51 (.inr (7, [.ref 7, fI 0, .ref 52, .ref 53])) ∧ cE h' 56 (.inl (.int, fA [0, 0])) ∧ cE h' 58 (.inr (3, [fI 0, .ref 59, .ref 60, fI tm0, fJ td0, fI ts0, .ref 61])) ∧ cE h' 62 (.inr (3, [fI 0, .ref 63, .ref 64, fI tm1, fJ td1, fI ts1, .ref 65])) ∧ (zall y tn = .inr q) ∧ (zH C' G' P' B' q.2) ∧ (zrows q.2) ∧ (q.1 = 0 ∧ q.2 = [] ∨ q.1 = (q.2.length : Int) + 1 ∧ C'.getD q.2.length 0 = 0) ∧ (∀ x : Int, 0 ≤ x → x < q.1 - 1 → mx_wy wg' wc' we' x (mx_w C' G' P' 0 x)) ∧ hfr [1, 2, 3, 4, 5, 6, 7, 8, 9, 10, 11, 12, 13, 14, 15, 16, 51, 56, 58, 62] h h')) := by
  refine ik_Wk 1 (pc' := 1) (loc' := [some (.ref 0), none, none]) (st' := [.ref 0]) (h' := h) (cl' := 0) (sl' := 0) rfl ?_
  refine fw_gf rfl rfl h0 rfl ?_
  refine fw_call 56 1 0 [.ref 1] [] rfl rfl rfl (by decide) rfl rfl (fw_rec hl rfl h1 rfl (by decide)) (cs_readText (tn := tn) (cu := cu) (fl := fl) (fp := fp) (rpl := rpl) (T := T) (C := C) (G := G) (P := P) (B := B) q0 (by omega) q2 h1 h2 n2 h3 n3 h4 n4 h5 n5 h6 n6 hl) ?_
  rintro _ h_588 (⟨e_588, cu'_588, rpl'_588, C'_588, G'_588, P'_588, B'_588, rfl, e_588_1, e_588_2, m_588_2, e_588_3, m_588_3, e_588_4, m_588_4, e_588_5, m_588_5, e_588_6, m_588_6, p_588_0, F_588⟩ | ⟨q_588, cu'_588, C'_588, G'_588, P'_588, B'_588, rfl, e_588_1, e_588_2, m_588_2, e_588_3, m_588_3, e_588_4, m_588_4, e_588_5, m_588_5, e_588_6, m_588_6, p_588_0, p_588_1, p_588_2, p_588_3, F_588⟩)
  · have k_588 := F_588.1.trans hl
    have fr_588 := hfr_c (hfr_refl [1, 2, 3, 4, 5, 6, 7, 8, 9, 10, 11, 12, 13, 14, 15, 16, 51, 56, 58, 62] h) F_588 (by decide)
    have g_588_0 := (F_588.2 0 (by decide +kernel)).trans h0
    have g_588_7 := (F_588.2 7 (by decide +kernel)).trans h7
    have g_588_8 := (F_588.2 8 (by decide +kernel)).trans h8
    have g_588_9 := (F_588.2 9 (by decide +kernel)).trans h9
    have g_588_10 := (F_588.2 10 (by decide +kernel)).trans h10
    have g_588_11 := (F_588.2 11 (by decide +kernel)).trans h11
    have g_588_12 := (F_588.2 12 (by decide +kernel)).trans h12
    have g_588_13 := (F_588.2 13 (by decide +kernel)).trans h13
    have g_588_14 := (F_588.2 14 (by decide +kernel)).trans h14
    have g_588_15 := (F_588.2 15 (by decide +kernel)).trans h15
    have g_588_16 := (F_588.2 16 (by decide +kernel)).trans h16
    have g_588_51 := (F_588.2 51 (by decide +kernel)).trans h51
    have g_588_54 := (F_588.2 54 (by decide +kernel)).trans h54
    have g_588_56 := (F_588.2 56 (by decide +kernel)).trans h56
    have g_588_57 := (F_588.2 57 (by decide +kernel)).trans h57
    have g_588_58 := (F_588.2 58 (by decide +kernel)).trans h58
    have g_588_62 := (F_588.2 62 (by decide +kernel)).trans h62
    have g_588_1 : cE h_588 1 (.inr (6, [.ref 2, fI 0, fI cu'_588, fI e_588.1, fI e_588.2, fI rpl'_588, .ref 3, .ref 4, .ref 5, .ref 6])) := e_588_1
    have g_588_2 : cE h_588 2 (.inl (.byte, fA T)) := e_588_2
    have g_588_3 : cE h_588 3 (.inl (.int, fA C'_588)) := e_588_3
    have g_588_4 : cE h_588 4 (.inl (.int, fA G'_588)) := e_588_4
    have g_588_5 : cE h_588 5 (.inl (.int, fA P'_588)) := e_588_5
    have g_588_6 : cE h_588 6 (.inl (.int, fA B'_588)) := e_588_6
    refine ik_Wk 0 (pc' := 7) (loc' := [some (.ref 0), none, none]) (st' := [fI e_588.1]) (h' := h_588) (cl' := 0) (sl' := 0) rfl ?_
    have ze_588 := zall_f q1.1 q1.2 p_588_0
    have zb_588 := zall_b q1.1 q1.2 p_588_0
    refine ik_Wk 2 (pc' := 9) (loc' := [some (.ref 0), some (fI e_588.1), none]) (st' := [fI e_588.1]) (h' := h_588) (cl' := 0) (sl' := 0) rfl ?_
    refine fw_if_eq rfl rfl (by omega) (by omega) (fun hc1 => absurd hc1 (by omega)) (fun hc1 => ?_)
    refine fw_bi rfl (by decide) ?_
    refine ik_Wk 1 (pc' := 15) (loc' := [some (.ref 0), some (fI e_588.1), none]) (st' := [fI e_588.1, fI (-10)]) (h' := h_588) (cl' := 0) (sl' := 0) rfl ?_
    refine fw_sub rfl ?_
    exact ik_Wret rfl rfl ⟨_, _, rfl, rfl, rfl, rfl, Or.inl ⟨e_588, cu'_588, rpl'_588, C'_588, G'_588, P'_588, B'_588, rfl, g_588_1, g_588_2, m_588_2, g_588_3, m_588_3, g_588_4, m_588_4, g_588_5, m_588_5, g_588_6, m_588_6, g_588_7, g_588_8, n8, g_588_9, n9, g_588_10, n10, g_588_11, n11, g_588_12, n12, g_588_13, n13, g_588_14, g_588_15, g_588_16, g_588_51, g_588_56, g_588_58, g_588_62, p_588_0, fr_588⟩⟩
  · have k_588 := F_588.1.trans hl
    have fr_588 := hfr_c (hfr_refl [1, 2, 3, 4, 5, 6, 7, 8, 9, 10, 11, 12, 13, 14, 15, 16, 51, 56, 58, 62] h) F_588 (by decide)
    have g_588_0 := (F_588.2 0 (by decide +kernel)).trans h0
    have g_588_7 := (F_588.2 7 (by decide +kernel)).trans h7
    have g_588_8 := (F_588.2 8 (by decide +kernel)).trans h8
    have g_588_9 := (F_588.2 9 (by decide +kernel)).trans h9
    have g_588_10 := (F_588.2 10 (by decide +kernel)).trans h10
    have g_588_11 := (F_588.2 11 (by decide +kernel)).trans h11
    have g_588_12 := (F_588.2 12 (by decide +kernel)).trans h12
    have g_588_13 := (F_588.2 13 (by decide +kernel)).trans h13
    have g_588_14 := (F_588.2 14 (by decide +kernel)).trans h14
    have g_588_15 := (F_588.2 15 (by decide +kernel)).trans h15
    have g_588_16 := (F_588.2 16 (by decide +kernel)).trans h16
    have g_588_51 := (F_588.2 51 (by decide +kernel)).trans h51
    have g_588_54 := (F_588.2 54 (by decide +kernel)).trans h54
    have g_588_56 := (F_588.2 56 (by decide +kernel)).trans h56
    have g_588_57 := (F_588.2 57 (by decide +kernel)).trans h57
    have g_588_58 := (F_588.2 58 (by decide +kernel)).trans h58
    have g_588_62 := (F_588.2 62 (by decide +kernel)).trans h62
    have g_588_1 : cE h_588 1 (.inr (6, [.ref 2, fI 0, fI cu'_588, fI 0, fI (-1), fI q_588.1, .ref 3, .ref 4, .ref 5, .ref 6])) := e_588_1
    have g_588_2 : cE h_588 2 (.inl (.byte, fA T)) := e_588_2
    have g_588_3 : cE h_588 3 (.inl (.int, fA C'_588)) := e_588_3
    have g_588_4 : cE h_588 4 (.inl (.int, fA G'_588)) := e_588_4
    have g_588_5 : cE h_588 5 (.inl (.int, fA P'_588)) := e_588_5
    have g_588_6 : cE h_588 6 (.inl (.int, fA B'_588)) := e_588_6
    refine ik_Wk 0 (pc' := 7) (loc' := [some (.ref 0), none, none]) (st' := [fI 0]) (h' := h_588) (cl' := 0) (sl' := 0) rfl ?_
    have hq_588 := zq_pl p_588_2 (p_588_3.imp (fun w => w) (fun w => w.1))
    have hw_588 := mx_rw_z p_588_0 p_588_2 p_588_1
    refine ik_Wk 2 (pc' := 9) (loc' := [some (.ref 0), some (fI 0), none]) (st' := [fI 0]) (h' := h_588) (cl' := 0) (sl' := 0) rfl ?_
    refine fw_if_eq rfl rfl (by omega) (by omega) (fun hc2 => ?_) (fun hc2 => absurd hc2 (by omega))
    refine ik_Wk 1 (pc' := 18) (loc' := [some (.ref 0), some (fI 0), none]) (st' := [.ref 0]) (h' := h_588) (cl' := 0) (sl' := 0) rfl ?_
    refine fw_gf rfl rfl g_588_0 rfl ?_
    refine ik_Wk 1 (pc' := 22) (loc' := [some (.ref 0), some (fI 0), none]) (st' := [.ref 0, .ref 7]) (h' := h_588) (cl' := 0) (sl' := 0) rfl ?_
    refine fw_gf rfl rfl g_588_0 rfl ?_
    refine ik_Wc 8 2 0 [.ref 7, .ref 1] [] rfl rfl rfl (by decide) rfl rfl (fw_rec k_588 rfl g_588_7 rfl (by decide)) ?_
    refine ik_Wk 0 (pc' := 0) (loc' := [some (.ref 7), some (.ref 1)]) (st' := []) (h' := h_588) (cl' := 0) (sl' := 0) rfl ?_
    refine ik_Wk 2 (pc' := 2) (loc' := [some (.ref 7), some (.ref 1)]) (st' := [.ref 1, .ref 7]) (h' := h_588) (cl' := 0) (sl' := 0) rfl ?_
    refine fw_gf rfl rfl g_588_1 rfl ?_
    refine fx_pf rfl rfl g_588_7 (Nat.le_of_ble_eq_true rfl) rfl rfl ?_
    intro h_589 e_589 f_589 l_589
    have k_589 := l_589.trans k_588
    have fr_589 := hfr_w fr_588 f_589 l_589 (by decide)
    have g_589_0 := (f_589 0 (by decide)).trans g_588_0
    have g_589_1 := (f_589 1 (by decide)).trans g_588_1
    have g_589_2 := (f_589 2 (by decide)).trans g_588_2
    have g_589_3 := (f_589 3 (by decide)).trans g_588_3
    have g_589_4 := (f_589 4 (by decide)).trans g_588_4
    have g_589_5 := (f_589 5 (by decide)).trans g_588_5
    have g_589_6 := (f_589 6 (by decide)).trans g_588_6
    have g_589_8 := (f_589 8 (by decide)).trans g_588_8
    have g_589_9 := (f_589 9 (by decide)).trans g_588_9
    have g_589_10 := (f_589 10 (by decide)).trans g_588_10
    have g_589_11 := (f_589 11 (by decide)).trans g_588_11
    have g_589_12 := (f_589 12 (by decide)).trans g_588_12
    have g_589_13 := (f_589 13 (by decide)).trans g_588_13
    have g_589_14 := (f_589 14 (by decide)).trans g_588_14
    have g_589_15 := (f_589 15 (by decide)).trans g_588_15
    have g_589_16 := (f_589 16 (by decide)).trans g_588_16
    have g_589_51 := (f_589 51 (by decide)).trans g_588_51
    have g_589_54 := (f_589 54 (by decide)).trans g_588_54
    have g_589_56 := (f_589 56 (by decide)).trans g_588_56
    have g_589_57 := (f_589 57 (by decide)).trans g_588_57
    have g_589_58 := (f_589 58 (by decide)).trans g_588_58
    have g_589_62 := (f_589 62 (by decide)).trans g_588_62
    have g_589_7 : cE h_589 7 (.inr (0, [fI q_588.1, fI st, fI lo, .ref 8, .ref 9, .ref 10, .ref 11, .ref 12, .ref 13])) := e_589
    refine ik_Wk 2 (pc' := 10) (loc' := [some (.ref 7), some (.ref 1)]) (st' := [fI 0, .ref 7]) (h' := h_589) (cl' := 0) (sl' := 0) rfl ?_
    refine fx_pf rfl rfl g_589_7 (Nat.le_of_ble_eq_true rfl) rfl rfl ?_
    intro h_590 e_590 f_590 l_590
    have k_590 := l_590.trans k_589
    have fr_590 := hfr_w fr_589 f_590 l_590 (by decide)
    have g_590_0 := (f_590 0 (by decide)).trans g_589_0
    have g_590_1 := (f_590 1 (by decide)).trans g_589_1
    have g_590_2 := (f_590 2 (by decide)).trans g_589_2
    have g_590_3 := (f_590 3 (by decide)).trans g_589_3
    have g_590_4 := (f_590 4 (by decide)).trans g_589_4
    have g_590_5 := (f_590 5 (by decide)).trans g_589_5
    have g_590_6 := (f_590 6 (by decide)).trans g_589_6
    have g_590_8 := (f_590 8 (by decide)).trans g_589_8
    have g_590_9 := (f_590 9 (by decide)).trans g_589_9
    have g_590_10 := (f_590 10 (by decide)).trans g_589_10
    have g_590_11 := (f_590 11 (by decide)).trans g_589_11
    have g_590_12 := (f_590 12 (by decide)).trans g_589_12
    have g_590_13 := (f_590 13 (by decide)).trans g_589_13
    have g_590_14 := (f_590 14 (by decide)).trans g_589_14
    have g_590_15 := (f_590 15 (by decide)).trans g_589_15
    have g_590_16 := (f_590 16 (by decide)).trans g_589_16
    have g_590_51 := (f_590 51 (by decide)).trans g_589_51
    have g_590_54 := (f_590 54 (by decide)).trans g_589_54
    have g_590_56 := (f_590 56 (by decide)).trans g_589_56
    have g_590_57 := (f_590 57 (by decide)).trans g_589_57
    have g_590_58 := (f_590 58 (by decide)).trans g_589_58
    have g_590_62 := (f_590 62 (by decide)).trans g_589_62
    have g_590_7 : cE h_590 7 (.inr (0, [fI q_588.1, fI 0, fI lo, .ref 8, .ref 9, .ref 10, .ref 11, .ref 12, .ref 13])) := e_590
    refine ik_Wk 1 (pc' := 14) (loc' := [some (.ref 7), some (.ref 1)]) (st' := [.ref 1]) (h' := h_590) (cl' := 0) (sl' := 0) rfl ?_
    refine fw_gf rfl rfl g_590_1 rfl ?_
    refine ik_Wk 2 (pc' := 19) (loc' := [some (.ref 7), some (.ref 1)]) (st' := [.ref 7, fI 0, .ref 3]) (h' := h_590) (cl' := 0) (sl' := 0) rfl ?_
    refine fw_gf rfl rfl g_590_7 rfl ?_
    refine ik_Wk 2 (pc' := 24) (loc' := [some (.ref 7), some (.ref 1)]) (st' := [.ref 7, fI 0, .ref 8, fI 0, .ref 3]) (h' := h_590) (cl' := 0) (sl' := 0) rfl ?_
    refine fw_gf rfl rfl g_590_7 rfl ?_
    refine fx_aln rfl g_590_8 ((fA_len _).trans n8) (by decide) ?_
    refine fx_cpy rfl rfl rfl g_590_3 g_590_8 (by decide) (by decide) m_588_3 n8 (by decide) ⟨Nat.le_of_ble_eq_true rfl, Nat.le_of_ble_eq_true rfl, Nat.le_of_ble_eq_true rfl⟩ ?_
    intro h_591 e_591 f_591 l_591
    have k_591 := l_591.trans k_590
    have fr_591 := hfr_w fr_590 f_591 l_591 (by decide)
    have g_591_0 := (f_591 0 (by decide)).trans g_590_0
    have g_591_1 := (f_591 1 (by decide)).trans g_590_1
    have g_591_2 := (f_591 2 (by decide)).trans g_590_2
    have g_591_3 := (f_591 3 (by decide)).trans g_590_3
    have g_591_4 := (f_591 4 (by decide)).trans g_590_4
    have g_591_5 := (f_591 5 (by decide)).trans g_590_5
    have g_591_6 := (f_591 6 (by decide)).trans g_590_6
    have g_591_7 := (f_591 7 (by decide)).trans g_590_7
    have g_591_9 := (f_591 9 (by decide)).trans g_590_9
    have g_591_10 := (f_591 10 (by decide)).trans g_590_10
    have g_591_11 := (f_591 11 (by decide)).trans g_590_11
    have g_591_12 := (f_591 12 (by decide)).trans g_590_12
    have g_591_13 := (f_591 13 (by decide)).trans g_590_13
    have g_591_14 := (f_591 14 (by decide)).trans g_590_14
    have g_591_15 := (f_591 15 (by decide)).trans g_590_15
    have g_591_16 := (f_591 16 (by decide)).trans g_590_16
    have g_591_51 := (f_591 51 (by decide)).trans g_590_51
    have g_591_54 := (f_591 54 (by decide)).trans g_590_54
    have g_591_56 := (f_591 56 (by decide)).trans g_590_56
    have g_591_57 := (f_591 57 (by decide)).trans g_590_57
    have g_591_58 := (f_591 58 (by decide)).trans g_590_58
    have g_591_62 := (f_591 62 (by decide)).trans g_590_62
    have g_591_8 : cE h_591 8 (.inl (.int, fA C'_588)) := e_591
    refine ik_Wk 1 (pc' := 32) (loc' := [some (.ref 7), some (.ref 1)]) (st' := [.ref 1]) (h' := h_591) (cl' := 0) (sl' := 0) rfl ?_
    refine fw_gf rfl rfl g_591_1 rfl ?_
    refine ik_Wk 2 (pc' := 37) (loc' := [some (.ref 7), some (.ref 1)]) (st' := [.ref 7, fI 0, .ref 4]) (h' := h_591) (cl' := 0) (sl' := 0) rfl ?_
    refine fw_gf rfl rfl g_591_7 rfl ?_
    refine ik_Wk 2 (pc' := 42) (loc' := [some (.ref 7), some (.ref 1)]) (st' := [.ref 7, fI 0, .ref 9, fI 0, .ref 4]) (h' := h_591) (cl' := 0) (sl' := 0) rfl ?_
    refine fw_gf rfl rfl g_591_7 rfl ?_
    refine fx_aln rfl g_591_9 ((fA_len _).trans n9) (by decide) ?_
    refine fx_cpy rfl rfl rfl g_591_4 g_591_9 (by decide) (by decide) m_588_4 n9 (by decide) ⟨Nat.le_of_ble_eq_true rfl, Nat.le_of_ble_eq_true rfl, Nat.le_of_ble_eq_true rfl⟩ ?_
    intro h_592 e_592 f_592 l_592
    have k_592 := l_592.trans k_591
    have fr_592 := hfr_w fr_591 f_592 l_592 (by decide)
    have g_592_0 := (f_592 0 (by decide)).trans g_591_0
    have g_592_1 := (f_592 1 (by decide)).trans g_591_1
    have g_592_2 := (f_592 2 (by decide)).trans g_591_2
    have g_592_3 := (f_592 3 (by decide)).trans g_591_3
    have g_592_4 := (f_592 4 (by decide)).trans g_591_4
    have g_592_5 := (f_592 5 (by decide)).trans g_591_5
    have g_592_6 := (f_592 6 (by decide)).trans g_591_6
    have g_592_7 := (f_592 7 (by decide)).trans g_591_7
    have g_592_8 := (f_592 8 (by decide)).trans g_591_8
    have g_592_10 := (f_592 10 (by decide)).trans g_591_10
    have g_592_11 := (f_592 11 (by decide)).trans g_591_11
    have g_592_12 := (f_592 12 (by decide)).trans g_591_12
    have g_592_13 := (f_592 13 (by decide)).trans g_591_13
    have g_592_14 := (f_592 14 (by decide)).trans g_591_14
    have g_592_15 := (f_592 15 (by decide)).trans g_591_15
    have g_592_16 := (f_592 16 (by decide)).trans g_591_16
    have g_592_51 := (f_592 51 (by decide)).trans g_591_51
    have g_592_54 := (f_592 54 (by decide)).trans g_591_54
    have g_592_56 := (f_592 56 (by decide)).trans g_591_56
    have g_592_57 := (f_592 57 (by decide)).trans g_591_57
    have g_592_58 := (f_592 58 (by decide)).trans g_591_58
    have g_592_62 := (f_592 62 (by decide)).trans g_591_62
    have g_592_9 : cE h_592 9 (.inl (.int, fA G'_588)) := e_592
    refine ik_Wk 1 (pc' := 50) (loc' := [some (.ref 7), some (.ref 1)]) (st' := [.ref 1]) (h' := h_592) (cl' := 0) (sl' := 0) rfl ?_
    refine fw_gf rfl rfl g_592_1 rfl ?_
    refine ik_Wk 2 (pc' := 55) (loc' := [some (.ref 7), some (.ref 1)]) (st' := [.ref 7, fI 0, .ref 5]) (h' := h_592) (cl' := 0) (sl' := 0) rfl ?_
    refine fw_gf rfl rfl g_592_7 rfl ?_
    refine ik_Wk 2 (pc' := 60) (loc' := [some (.ref 7), some (.ref 1)]) (st' := [.ref 7, fI 0, .ref 10, fI 0, .ref 5]) (h' := h_592) (cl' := 0) (sl' := 0) rfl ?_
    refine fw_gf rfl rfl g_592_7 rfl ?_
    refine fx_aln rfl g_592_10 ((fA_len _).trans n10) (by decide) ?_
    refine fx_cpy rfl rfl rfl g_592_5 g_592_10 (by decide) (by decide) m_588_5 n10 (by decide) ⟨Nat.le_of_ble_eq_true rfl, Nat.le_of_ble_eq_true rfl, Nat.le_of_ble_eq_true rfl⟩ ?_
    intro h_593 e_593 f_593 l_593
    have k_593 := l_593.trans k_592
    have fr_593 := hfr_w fr_592 f_593 l_593 (by decide)
    have g_593_0 := (f_593 0 (by decide)).trans g_592_0
    have g_593_1 := (f_593 1 (by decide)).trans g_592_1
    have g_593_2 := (f_593 2 (by decide)).trans g_592_2
    have g_593_3 := (f_593 3 (by decide)).trans g_592_3
    have g_593_4 := (f_593 4 (by decide)).trans g_592_4
    have g_593_5 := (f_593 5 (by decide)).trans g_592_5
    have g_593_6 := (f_593 6 (by decide)).trans g_592_6
    have g_593_7 := (f_593 7 (by decide)).trans g_592_7
    have g_593_8 := (f_593 8 (by decide)).trans g_592_8
    have g_593_9 := (f_593 9 (by decide)).trans g_592_9
    have g_593_11 := (f_593 11 (by decide)).trans g_592_11
    have g_593_12 := (f_593 12 (by decide)).trans g_592_12
    have g_593_13 := (f_593 13 (by decide)).trans g_592_13
    have g_593_14 := (f_593 14 (by decide)).trans g_592_14
    have g_593_15 := (f_593 15 (by decide)).trans g_592_15
    have g_593_16 := (f_593 16 (by decide)).trans g_592_16
    have g_593_51 := (f_593 51 (by decide)).trans g_592_51
    have g_593_54 := (f_593 54 (by decide)).trans g_592_54
    have g_593_56 := (f_593 56 (by decide)).trans g_592_56
    have g_593_57 := (f_593 57 (by decide)).trans g_592_57
    have g_593_58 := (f_593 58 (by decide)).trans g_592_58
    have g_593_62 := (f_593 62 (by decide)).trans g_592_62
    have g_593_10 : cE h_593 10 (.inl (.int, fA P'_588)) := e_593
    refine ik_Wk 1 (pc' := 68) (loc' := [some (.ref 7), some (.ref 1)]) (st' := [.ref 7]) (h' := h_593) (cl' := 0) (sl' := 0) rfl ?_
    refine fw_call 11 1 0 [.ref 7] [] rfl rfl rfl (by decide) rfl rfl (fw_rec k_593 rfl g_593_7 rfl (by decide)) (cs_settleAll (pl := q_588.1) (lo := lo) (s := 0) (cn := C'_588) (go := G'_588) (ch := P'_588) (wg := wg) (wc := wc) (we := we) (by omega) (by omega) hw_588 (fun w => zq_c p_588_3 w) (fun _ => Nat.zero_testBit _) g_593_7 g_593_8 m_588_3 g_593_9 m_588_4 g_593_10 m_588_5 g_593_11 n11 g_593_12 n12 g_593_13 n13 k_593) ?_
    rintro _ h_594 ⟨wg'_594, wc'_594, we'_594, rfl, e_594_11, m_594_11, e_594_12, m_594_12, e_594_13, m_594_13, p_594_0, F_594⟩
    have k_594 := F_594.1.trans k_593
    have fr_594 := hfr_c fr_593 F_594 (by decide)
    have g_594_0 := (F_594.2 0 (by decide +kernel)).trans g_593_0
    have g_594_1 := (F_594.2 1 (by decide +kernel)).trans g_593_1
    have g_594_2 := (F_594.2 2 (by decide +kernel)).trans g_593_2
    have g_594_3 := (F_594.2 3 (by decide +kernel)).trans g_593_3
    have g_594_4 := (F_594.2 4 (by decide +kernel)).trans g_593_4
    have g_594_5 := (F_594.2 5 (by decide +kernel)).trans g_593_5
    have g_594_6 := (F_594.2 6 (by decide +kernel)).trans g_593_6
    have g_594_7 := (F_594.2 7 (by decide +kernel)).trans g_593_7
    have g_594_8 := (F_594.2 8 (by decide +kernel)).trans g_593_8
    have g_594_9 := (F_594.2 9 (by decide +kernel)).trans g_593_9
    have g_594_10 := (F_594.2 10 (by decide +kernel)).trans g_593_10
    have g_594_14 := (F_594.2 14 (by decide +kernel)).trans g_593_14
    have g_594_15 := (F_594.2 15 (by decide +kernel)).trans g_593_15
    have g_594_16 := (F_594.2 16 (by decide +kernel)).trans g_593_16
    have g_594_51 := (F_594.2 51 (by decide +kernel)).trans g_593_51
    have g_594_54 := (F_594.2 54 (by decide +kernel)).trans g_593_54
    have g_594_56 := (F_594.2 56 (by decide +kernel)).trans g_593_56
    have g_594_57 := (F_594.2 57 (by decide +kernel)).trans g_593_57
    have g_594_58 := (F_594.2 58 (by decide +kernel)).trans g_593_58
    have g_594_62 := (F_594.2 62 (by decide +kernel)).trans g_593_62
    have g_594_11 : cE h_594 11 (.inl (.int, fA wg'_594)) := e_594_11
    have g_594_12 : cE h_594 12 (.inl (.int, fA wc'_594)) := e_594_12
    have g_594_13 : cE h_594 13 (.inl (.int, fA we'_594)) := e_594_13
    refine ik_Wk 0 (pc' := 71) (loc' := [some (.ref 7), some (.ref 1)]) (st' := []) (h' := h_594) (cl' := 0) (sl' := 0) rfl ?_
    refine ik_Wk 2 (pc' := 73) (loc' := [some (.ref 7), some (.ref 1)]) (st' := [.ref 7, .ref 7]) (h' := h_594) (cl' := 0) (sl' := 0) rfl ?_
    refine fw_call 9 1 0 [.ref 7] [.ref 7] rfl rfl rfl (by decide) rfl rfl (fw_rec k_594 rfl g_594_7 rfl (by decide)) (cs_findLost (pl := q_588.1) (lo := lo) (s := 0) (wg := wg'_594) (wc := wc'_594) (we := we'_594) (W := (fun x => mx_w C'_588 G'_588 P'_588 0 x)) (by omega) p_594_0 (mx_rw_ok hw_588 _) g_594_7 g_594_11 m_594_11 g_594_12 m_594_12 g_594_13 m_594_13 k_594) ?_
    rintro _ h_595 ⟨rfl, F_595⟩
    have k_595 := F_595.1.trans k_594
    have fr_595 := hfr_c fr_594 F_595 (by decide)
    have g_595_0 := (F_595.2 0 (by decide +kernel)).trans g_594_0
    have g_595_1 := (F_595.2 1 (by decide +kernel)).trans g_594_1
    have g_595_2 := (F_595.2 2 (by decide +kernel)).trans g_594_2
    have g_595_3 := (F_595.2 3 (by decide +kernel)).trans g_594_3
    have g_595_4 := (F_595.2 4 (by decide +kernel)).trans g_594_4
    have g_595_5 := (F_595.2 5 (by decide +kernel)).trans g_594_5
    have g_595_6 := (F_595.2 6 (by decide +kernel)).trans g_594_6
    have g_595_7 := (F_595.2 7 (by decide +kernel)).trans g_594_7
    have g_595_8 := (F_595.2 8 (by decide +kernel)).trans g_594_8
    have g_595_9 := (F_595.2 9 (by decide +kernel)).trans g_594_9
    have g_595_10 := (F_595.2 10 (by decide +kernel)).trans g_594_10
    have g_595_11 := (F_595.2 11 (by decide +kernel)).trans g_594_11
    have g_595_12 := (F_595.2 12 (by decide +kernel)).trans g_594_12
    have g_595_13 := (F_595.2 13 (by decide +kernel)).trans g_594_13
    have g_595_14 := (F_595.2 14 (by decide +kernel)).trans g_594_14
    have g_595_15 := (F_595.2 15 (by decide +kernel)).trans g_594_15
    have g_595_16 := (F_595.2 16 (by decide +kernel)).trans g_594_16
    have g_595_51 := (F_595.2 51 (by decide +kernel)).trans g_594_51
    have g_595_54 := (F_595.2 54 (by decide +kernel)).trans g_594_54
    have g_595_56 := (F_595.2 56 (by decide +kernel)).trans g_594_56
    have g_595_57 := (F_595.2 57 (by decide +kernel)).trans g_594_57
    have g_595_58 := (F_595.2 58 (by decide +kernel)).trans g_594_58
    have g_595_62 := (F_595.2 62 (by decide +kernel)).trans g_594_62
    refine ik_Wk 0 (pc' := 76) (loc' := [some (.ref 7), some (.ref 1)]) (st' := [fI ((mj_lg q_588.1 (fun p => mj_gs ((fun x => mx_w C'_588 G'_588 P'_588 0 x) (p : Nat))) : Nat) : Int), .ref 7]) (h' := h_595) (cl' := 0) (sl' := 0) rfl ?_
    rw [mj_lg_w hw_588]
    refine fx_pf rfl rfl g_595_7 (Nat.le_of_ble_eq_true rfl) rfl rfl ?_
    intro h_596 e_596 f_596 l_596
    have k_596 := l_596.trans k_595
    have fr_596 := hfr_w fr_595 f_596 l_596 (by decide)
    have g_596_0 := (f_596 0 (by decide)).trans g_595_0
    have g_596_1 := (f_596 1 (by decide)).trans g_595_1
    have g_596_2 := (f_596 2 (by decide)).trans g_595_2
    have g_596_3 := (f_596 3 (by decide)).trans g_595_3
    have g_596_4 := (f_596 4 (by decide)).trans g_595_4
    have g_596_5 := (f_596 5 (by decide)).trans g_595_5
    have g_596_6 := (f_596 6 (by decide)).trans g_595_6
    have g_596_8 := (f_596 8 (by decide)).trans g_595_8
    have g_596_9 := (f_596 9 (by decide)).trans g_595_9
    have g_596_10 := (f_596 10 (by decide)).trans g_595_10
    have g_596_11 := (f_596 11 (by decide)).trans g_595_11
    have g_596_12 := (f_596 12 (by decide)).trans g_595_12
    have g_596_13 := (f_596 13 (by decide)).trans g_595_13
    have g_596_14 := (f_596 14 (by decide)).trans g_595_14
    have g_596_15 := (f_596 15 (by decide)).trans g_595_15
    have g_596_16 := (f_596 16 (by decide)).trans g_595_16
    have g_596_51 := (f_596 51 (by decide)).trans g_595_51
    have g_596_54 := (f_596 54 (by decide)).trans g_595_54
    have g_596_56 := (f_596 56 (by decide)).trans g_595_56
    have g_596_57 := (f_596 57 (by decide)).trans g_595_57
    have g_596_58 := (f_596 58 (by decide)).trans g_595_58
    have g_596_62 := (f_596 62 (by decide)).trans g_595_62
    have g_596_7 : cE h_596 7 (.inr (0, [fI q_588.1, fI 0, fI ((mj_lost q_588.1 C'_588 G'_588 : Nat) : Int), .ref 8, .ref 9, .ref 10, .ref 11, .ref 12, .ref 13])) := e_596
    refine ik_Wret rfl rfl ⟨_, _, rfl, rfl, ?_⟩
    refine ik_Wk 0 (pc' := 28) (loc' := [some (.ref 0), some (fI 0), none]) (st' := []) (h' := h_596) (cl' := 0) (sl' := 0) rfl ?_
    refine ik_Wk 1 (pc' := 29) (loc' := [some (.ref 0), some (fI 0), none]) (st' := [.ref 0]) (h' := h_596) (cl' := 0) (sl' := 0) rfl ?_
    refine fw_gf rfl rfl g_596_0 rfl ?_
    refine ik_Wc 22 1 0 [.ref 14] [] rfl rfl rfl (by decide) rfl rfl (fw_rec k_596 rfl g_596_14 rfl (by decide)) ?_
    refine ik_Wk 0 (pc' := 0) (loc' := [some (.ref 14)]) (st' := []) (h' := h_596) (cl' := 0) (sl' := 0) rfl ?_
    refine ik_Wk 1 (pc' := 1) (loc' := [some (.ref 14)]) (st' := [.ref 14]) (h' := h_596) (cl' := 0) (sl' := 0) rfl ?_
    refine fw_gf rfl rfl g_596_14 rfl ?_
    refine ik_Wk 1 (pc' := 5) (loc' := [some (.ref 14)]) (st' := [fI 0, .ref 15]) (h' := h_596) (cl' := 0) (sl' := 0) rfl ?_
    refine ik_Wc 225 2 3 [.ref 15, fI 0] [] rfl rfl rfl (by decide) rfl rfl (fw_sta k_596 rfl (by decide)) ?_
    refine ik_Wk 0 (pc' := 0) (loc' := [some (.ref 15), some (fI 0), none, none]) (st' := []) (h' := h_596) (cl' := 0) (sl' := 0) rfl ?_
    refine ik_Wk 3 (pc' := 3) (loc' := [some (.ref 15), some (fI 0), some (fI 0), none]) (st' := [.ref 15]) (h' := h_596) (cl' := 0) (sl' := 0) rfl ?_
    refine fx_aln (L := 6) rfl g_596_15 rfl (by decide) ?_
    refine ik_Wk 3 (pc' := 7) (loc' := [some (.ref 15), some (fI 0), some (fI 0), some (fI 6)]) (st' := [fI 6, fI 0]) (h' := h_596) (cl' := 0) (sl' := 0) rfl ?_
    refine fw_ic_ge rfl rfl (by omega) (by omega) (by omega) (by omega) (fun hc3 => absurd hc3 (by omega)) (fun hc3 => ?_)
    refine ik_Wk 3 (pc' := 13) (loc' := [some (.ref 15), some (fI 0), some (fI 0), some (fI 6)]) (st' := [fI 0, fI 0, .ref 15]) (h' := h_596) (cl' := 0) (sl' := 0) rfl ?_
    refine fx_ias (z := 0) rfl g_596_15 (by decide) (Nat.le_of_ble_eq_true rfl) (by decide) ?_
    intro h_597 e_597 f_597 l_597
    have k_597 := l_597.trans k_596
    have fr_597 := hfr_w fr_596 f_597 l_597 (by decide)
    have g_597_0 := (f_597 0 (by decide)).trans g_596_0
    have g_597_1 := (f_597 1 (by decide)).trans g_596_1
    have g_597_2 := (f_597 2 (by decide)).trans g_596_2
    have g_597_3 := (f_597 3 (by decide)).trans g_596_3
    have g_597_4 := (f_597 4 (by decide)).trans g_596_4
    have g_597_5 := (f_597 5 (by decide)).trans g_596_5
    have g_597_6 := (f_597 6 (by decide)).trans g_596_6
    have g_597_7 := (f_597 7 (by decide)).trans g_596_7
    have g_597_8 := (f_597 8 (by decide)).trans g_596_8
    have g_597_9 := (f_597 9 (by decide)).trans g_596_9
    have g_597_10 := (f_597 10 (by decide)).trans g_596_10
    have g_597_11 := (f_597 11 (by decide)).trans g_596_11
    have g_597_12 := (f_597 12 (by decide)).trans g_596_12
    have g_597_13 := (f_597 13 (by decide)).trans g_596_13
    have g_597_14 := (f_597 14 (by decide)).trans g_596_14
    have g_597_16 := (f_597 16 (by decide)).trans g_596_16
    have g_597_51 := (f_597 51 (by decide)).trans g_596_51
    have g_597_54 := (f_597 54 (by decide)).trans g_596_54
    have g_597_56 := (f_597 56 (by decide)).trans g_596_56
    have g_597_57 := (f_597 57 (by decide)).trans g_596_57
    have g_597_58 := (f_597 58 (by decide)).trans g_596_58
    have g_597_62 := (f_597 62 (by decide)).trans g_596_62
    have g_597_15 : cE h_597 15 (.inl (.int, fA [0, pa, fa, kb, pb, fb])) := e_597
    refine fw_inc (a := 0) (loc' := [some (.ref 15), some (fI 0), some (fI 1), some (fI 6)]) rfl rfl (Nat.le_of_ble_eq_true rfl) rfl ?_
    refine ik_Wk 3 (pc' := 7) (loc' := [some (.ref 15), some (fI 0), some (fI 1), some (fI 6)]) (st' := [fI 6, fI 1]) (h' := h_597) (cl' := 0) (sl' := 0) rfl ?_
    refine fw_ic_ge rfl rfl (by omega) (by omega) (by omega) (by omega) (fun hc4 => absurd hc4 (by omega)) (fun hc4 => ?_)
    refine ik_Wk 3 (pc' := 13) (loc' := [some (.ref 15), some (fI 0), some (fI 1), some (fI 6)]) (st' := [fI 0, fI 1, .ref 15]) (h' := h_597) (cl' := 0) (sl' := 0) rfl ?_
    refine fx_ias (z := 1) rfl g_597_15 (by decide) (Nat.le_of_ble_eq_true rfl) (by decide) ?_
    intro h_598 e_598 f_598 l_598
    have k_598 := l_598.trans k_597
    have fr_598 := hfr_w fr_597 f_598 l_598 (by decide)
    have g_598_0 := (f_598 0 (by decide)).trans g_597_0
    have g_598_1 := (f_598 1 (by decide)).trans g_597_1
    have g_598_2 := (f_598 2 (by decide)).trans g_597_2
    have g_598_3 := (f_598 3 (by decide)).trans g_597_3
    have g_598_4 := (f_598 4 (by decide)).trans g_597_4
    have g_598_5 := (f_598 5 (by decide)).trans g_597_5
    have g_598_6 := (f_598 6 (by decide)).trans g_597_6
    have g_598_7 := (f_598 7 (by decide)).trans g_597_7
    have g_598_8 := (f_598 8 (by decide)).trans g_597_8
    have g_598_9 := (f_598 9 (by decide)).trans g_597_9
    have g_598_10 := (f_598 10 (by decide)).trans g_597_10
    have g_598_11 := (f_598 11 (by decide)).trans g_597_11
    have g_598_12 := (f_598 12 (by decide)).trans g_597_12
    have g_598_13 := (f_598 13 (by decide)).trans g_597_13
    have g_598_14 := (f_598 14 (by decide)).trans g_597_14
    have g_598_16 := (f_598 16 (by decide)).trans g_597_16
    have g_598_51 := (f_598 51 (by decide)).trans g_597_51
    have g_598_54 := (f_598 54 (by decide)).trans g_597_54
    have g_598_56 := (f_598 56 (by decide)).trans g_597_56
    have g_598_57 := (f_598 57 (by decide)).trans g_597_57
    have g_598_58 := (f_598 58 (by decide)).trans g_597_58
    have g_598_62 := (f_598 62 (by decide)).trans g_597_62
    have g_598_15 : cE h_598 15 (.inl (.int, fA [0, 0, fa, kb, pb, fb])) := e_598
    refine fw_inc (a := 1) (loc' := [some (.ref 15), some (fI 0), some (fI 2), some (fI 6)]) rfl rfl (Nat.le_of_ble_eq_true rfl) rfl ?_
    refine ik_Wk 3 (pc' := 7) (loc' := [some (.ref 15), some (fI 0), some (fI 2), some (fI 6)]) (st' := [fI 6, fI 2]) (h' := h_598) (cl' := 0) (sl' := 0) rfl ?_
    refine fw_ic_ge rfl rfl (by omega) (by omega) (by omega) (by omega) (fun hc5 => absurd hc5 (by omega)) (fun hc5 => ?_)
    refine ik_Wk 3 (pc' := 13) (loc' := [some (.ref 15), some (fI 0), some (fI 2), some (fI 6)]) (st' := [fI 0, fI 2, .ref 15]) (h' := h_598) (cl' := 0) (sl' := 0) rfl ?_
    refine fx_ias (z := 2) rfl g_598_15 (by decide) (Nat.le_of_ble_eq_true rfl) (by decide) ?_
    intro h_599 e_599 f_599 l_599
    have k_599 := l_599.trans k_598
    have fr_599 := hfr_w fr_598 f_599 l_599 (by decide)
    have g_599_0 := (f_599 0 (by decide)).trans g_598_0
    have g_599_1 := (f_599 1 (by decide)).trans g_598_1
    have g_599_2 := (f_599 2 (by decide)).trans g_598_2
    have g_599_3 := (f_599 3 (by decide)).trans g_598_3
    have g_599_4 := (f_599 4 (by decide)).trans g_598_4
    have g_599_5 := (f_599 5 (by decide)).trans g_598_5
    have g_599_6 := (f_599 6 (by decide)).trans g_598_6
    have g_599_7 := (f_599 7 (by decide)).trans g_598_7
    have g_599_8 := (f_599 8 (by decide)).trans g_598_8
    have g_599_9 := (f_599 9 (by decide)).trans g_598_9
    have g_599_10 := (f_599 10 (by decide)).trans g_598_10
    have g_599_11 := (f_599 11 (by decide)).trans g_598_11
    have g_599_12 := (f_599 12 (by decide)).trans g_598_12
    have g_599_13 := (f_599 13 (by decide)).trans g_598_13
    have g_599_14 := (f_599 14 (by decide)).trans g_598_14
    have g_599_16 := (f_599 16 (by decide)).trans g_598_16
    have g_599_51 := (f_599 51 (by decide)).trans g_598_51
    have g_599_54 := (f_599 54 (by decide)).trans g_598_54
    have g_599_56 := (f_599 56 (by decide)).trans g_598_56
    have g_599_57 := (f_599 57 (by decide)).trans g_598_57
    have g_599_58 := (f_599 58 (by decide)).trans g_598_58
    have g_599_62 := (f_599 62 (by decide)).trans g_598_62
    have g_599_15 : cE h_599 15 (.inl (.int, fA [0, 0, 0, kb, pb, fb])) := e_599
    refine fw_inc (a := 2) (loc' := [some (.ref 15), some (fI 0), some (fI 3), some (fI 6)]) rfl rfl (Nat.le_of_ble_eq_true rfl) rfl ?_
    refine ik_Wk 3 (pc' := 7) (loc' := [some (.ref 15), some (fI 0), some (fI 3), some (fI 6)]) (st' := [fI 6, fI 3]) (h' := h_599) (cl' := 0) (sl' := 0) rfl ?_
    refine fw_ic_ge rfl rfl (by omega) (by omega) (by omega) (by omega) (fun hc6 => absurd hc6 (by omega)) (fun hc6 => ?_)
    refine ik_Wk 3 (pc' := 13) (loc' := [some (.ref 15), some (fI 0), some (fI 3), some (fI 6)]) (st' := [fI 0, fI 3, .ref 15]) (h' := h_599) (cl' := 0) (sl' := 0) rfl ?_
    refine fx_ias (z := 3) rfl g_599_15 (by decide) (Nat.le_of_ble_eq_true rfl) (by decide) ?_
    intro h_600 e_600 f_600 l_600
    have k_600 := l_600.trans k_599
    have fr_600 := hfr_w fr_599 f_600 l_600 (by decide)
    have g_600_0 := (f_600 0 (by decide)).trans g_599_0
    have g_600_1 := (f_600 1 (by decide)).trans g_599_1
    have g_600_2 := (f_600 2 (by decide)).trans g_599_2
    have g_600_3 := (f_600 3 (by decide)).trans g_599_3
    have g_600_4 := (f_600 4 (by decide)).trans g_599_4
    have g_600_5 := (f_600 5 (by decide)).trans g_599_5
    have g_600_6 := (f_600 6 (by decide)).trans g_599_6
    have g_600_7 := (f_600 7 (by decide)).trans g_599_7
    have g_600_8 := (f_600 8 (by decide)).trans g_599_8
    have g_600_9 := (f_600 9 (by decide)).trans g_599_9
    have g_600_10 := (f_600 10 (by decide)).trans g_599_10
    have g_600_11 := (f_600 11 (by decide)).trans g_599_11
    have g_600_12 := (f_600 12 (by decide)).trans g_599_12
    have g_600_13 := (f_600 13 (by decide)).trans g_599_13
    have g_600_14 := (f_600 14 (by decide)).trans g_599_14
    have g_600_16 := (f_600 16 (by decide)).trans g_599_16
    have g_600_51 := (f_600 51 (by decide)).trans g_599_51
    have g_600_54 := (f_600 54 (by decide)).trans g_599_54
    have g_600_56 := (f_600 56 (by decide)).trans g_599_56
    have g_600_57 := (f_600 57 (by decide)).trans g_599_57
    have g_600_58 := (f_600 58 (by decide)).trans g_599_58
    have g_600_62 := (f_600 62 (by decide)).trans g_599_62
    have g_600_15 : cE h_600 15 (.inl (.int, fA [0, 0, 0, 0, pb, fb])) := e_600
    refine fw_inc (a := 3) (loc' := [some (.ref 15), some (fI 0), some (fI 4), some (fI 6)]) rfl rfl (Nat.le_of_ble_eq_true rfl) rfl ?_
    refine ik_Wk 3 (pc' := 7) (loc' := [some (.ref 15), some (fI 0), some (fI 4), some (fI 6)]) (st' := [fI 6, fI 4]) (h' := h_600) (cl' := 0) (sl' := 0) rfl ?_
    refine fw_ic_ge rfl rfl (by omega) (by omega) (by omega) (by omega) (fun hc7 => absurd hc7 (by omega)) (fun hc7 => ?_)
    refine ik_Wk 3 (pc' := 13) (loc' := [some (.ref 15), some (fI 0), some (fI 4), some (fI 6)]) (st' := [fI 0, fI 4, .ref 15]) (h' := h_600) (cl' := 0) (sl' := 0) rfl ?_
    refine fx_ias (z := 4) rfl g_600_15 (by decide) (Nat.le_of_ble_eq_true rfl) (by decide) ?_
    intro h_601 e_601 f_601 l_601
    have k_601 := l_601.trans k_600
    have fr_601 := hfr_w fr_600 f_601 l_601 (by decide)
    have g_601_0 := (f_601 0 (by decide)).trans g_600_0
    have g_601_1 := (f_601 1 (by decide)).trans g_600_1
    have g_601_2 := (f_601 2 (by decide)).trans g_600_2
    have g_601_3 := (f_601 3 (by decide)).trans g_600_3
    have g_601_4 := (f_601 4 (by decide)).trans g_600_4
    have g_601_5 := (f_601 5 (by decide)).trans g_600_5
    have g_601_6 := (f_601 6 (by decide)).trans g_600_6
    have g_601_7 := (f_601 7 (by decide)).trans g_600_7
    have g_601_8 := (f_601 8 (by decide)).trans g_600_8
    have g_601_9 := (f_601 9 (by decide)).trans g_600_9
    have g_601_10 := (f_601 10 (by decide)).trans g_600_10
    have g_601_11 := (f_601 11 (by decide)).trans g_600_11
    have g_601_12 := (f_601 12 (by decide)).trans g_600_12
    have g_601_13 := (f_601 13 (by decide)).trans g_600_13
    have g_601_14 := (f_601 14 (by decide)).trans g_600_14
    have g_601_16 := (f_601 16 (by decide)).trans g_600_16
    have g_601_51 := (f_601 51 (by decide)).trans g_600_51
    have g_601_54 := (f_601 54 (by decide)).trans g_600_54
    have g_601_56 := (f_601 56 (by decide)).trans g_600_56
    have g_601_57 := (f_601 57 (by decide)).trans g_600_57
    have g_601_58 := (f_601 58 (by decide)).trans g_600_58
    have g_601_62 := (f_601 62 (by decide)).trans g_600_62
    have g_601_15 : cE h_601 15 (.inl (.int, fA [0, 0, 0, 0, 0, fb])) := e_601
    refine fw_inc (a := 4) (loc' := [some (.ref 15), some (fI 0), some (fI 5), some (fI 6)]) rfl rfl (Nat.le_of_ble_eq_true rfl) rfl ?_
    refine ik_Wk 3 (pc' := 7) (loc' := [some (.ref 15), some (fI 0), some (fI 5), some (fI 6)]) (st' := [fI 6, fI 5]) (h' := h_601) (cl' := 0) (sl' := 0) rfl ?_
    refine fw_ic_ge rfl rfl (by omega) (by omega) (by omega) (by omega) (fun hc8 => absurd hc8 (by omega)) (fun hc8 => ?_)
    refine ik_Wk 3 (pc' := 13) (loc' := [some (.ref 15), some (fI 0), some (fI 5), some (fI 6)]) (st' := [fI 0, fI 5, .ref 15]) (h' := h_601) (cl' := 0) (sl' := 0) rfl ?_
    refine fx_ias (z := 5) rfl g_601_15 (by decide) (Nat.le_of_ble_eq_true rfl) (by decide) ?_
    intro h_602 e_602 f_602 l_602
    have k_602 := l_602.trans k_601
    have fr_602 := hfr_w fr_601 f_602 l_602 (by decide)
    have g_602_0 := (f_602 0 (by decide)).trans g_601_0
    have g_602_1 := (f_602 1 (by decide)).trans g_601_1
    have g_602_2 := (f_602 2 (by decide)).trans g_601_2
    have g_602_3 := (f_602 3 (by decide)).trans g_601_3
    have g_602_4 := (f_602 4 (by decide)).trans g_601_4
    have g_602_5 := (f_602 5 (by decide)).trans g_601_5
    have g_602_6 := (f_602 6 (by decide)).trans g_601_6
    have g_602_7 := (f_602 7 (by decide)).trans g_601_7
    have g_602_8 := (f_602 8 (by decide)).trans g_601_8
    have g_602_9 := (f_602 9 (by decide)).trans g_601_9
    have g_602_10 := (f_602 10 (by decide)).trans g_601_10
    have g_602_11 := (f_602 11 (by decide)).trans g_601_11
    have g_602_12 := (f_602 12 (by decide)).trans g_601_12
    have g_602_13 := (f_602 13 (by decide)).trans g_601_13
    have g_602_14 := (f_602 14 (by decide)).trans g_601_14
    have g_602_16 := (f_602 16 (by decide)).trans g_601_16
    have g_602_51 := (f_602 51 (by decide)).trans g_601_51
    have g_602_54 := (f_602 54 (by decide)).trans g_601_54
    have g_602_56 := (f_602 56 (by decide)).trans g_601_56
    have g_602_57 := (f_602 57 (by decide)).trans g_601_57
    have g_602_58 := (f_602 58 (by decide)).trans g_601_58
    have g_602_62 := (f_602 62 (by decide)).trans g_601_62
    have g_602_15 : cE h_602 15 (.inl (.int, fA [0, 0, 0, 0, 0, 0])) := e_602
    refine fw_inc (a := 5) (loc' := [some (.ref 15), some (fI 0), some (fI 6), some (fI 6)]) rfl rfl (Nat.le_of_ble_eq_true rfl) rfl ?_
    refine ik_Wk 3 (pc' := 7) (loc' := [some (.ref 15), some (fI 0), some (fI 6), some (fI 6)]) (st' := [fI 6, fI 6]) (h' := h_602) (cl' := 0) (sl' := 0) rfl ?_
    refine fw_ic_ge rfl rfl (by omega) (by omega) (by omega) (by omega) (fun hc9 => ?_) (fun hc9 => absurd hc9 (by omega))
    refine ik_Wret rfl rfl ⟨_, _, rfl, rfl, ?_⟩
    refine ik_Wk 0 (pc' := 8) (loc' := [some (.ref 14)]) (st' := []) (h' := h_602) (cl' := 0) (sl' := 0) rfl ?_
    refine ik_Wk 1 (pc' := 9) (loc' := [some (.ref 14)]) (st' := [.ref 14]) (h' := h_602) (cl' := 0) (sl' := 0) rfl ?_
    refine fw_call 23 1 0 [.ref 14] [] rfl rfl rfl (by decide) rfl rfl (fw_rec k_602 rfl g_602_14 rfl (by decide)) (cs_restart (mi := mi) (ka := 0) (pa := 0) (fa := 0) (kb := 0) (pb := 0) (fb := 0) (xa := xa) (xb := xb) (sd := dr) (by omega) (by omega) g_602_14 g_602_15 g_602_16 k_602) ?_
    rintro _ h_603 ⟨rfl, e_603_14, e_603_16, F_603⟩
    have k_603 := F_603.1.trans k_602
    have fr_603 := hfr_c fr_602 F_603 (by decide)
    have g_603_0 := (F_603.2 0 (by decide +kernel)).trans g_602_0
    have g_603_1 := (F_603.2 1 (by decide +kernel)).trans g_602_1
    have g_603_2 := (F_603.2 2 (by decide +kernel)).trans g_602_2
    have g_603_3 := (F_603.2 3 (by decide +kernel)).trans g_602_3
    have g_603_4 := (F_603.2 4 (by decide +kernel)).trans g_602_4
    have g_603_5 := (F_603.2 5 (by decide +kernel)).trans g_602_5
    have g_603_6 := (F_603.2 6 (by decide +kernel)).trans g_602_6
    have g_603_7 := (F_603.2 7 (by decide +kernel)).trans g_602_7
    have g_603_8 := (F_603.2 8 (by decide +kernel)).trans g_602_8
    have g_603_9 := (F_603.2 9 (by decide +kernel)).trans g_602_9
    have g_603_10 := (F_603.2 10 (by decide +kernel)).trans g_602_10
    have g_603_11 := (F_603.2 11 (by decide +kernel)).trans g_602_11
    have g_603_12 := (F_603.2 12 (by decide +kernel)).trans g_602_12
    have g_603_13 := (F_603.2 13 (by decide +kernel)).trans g_602_13
    have g_603_15 := (F_603.2 15 (by decide +kernel)).trans g_602_15
    have g_603_51 := (F_603.2 51 (by decide +kernel)).trans g_602_51
    have g_603_54 := (F_603.2 54 (by decide +kernel)).trans g_602_54
    have g_603_56 := (F_603.2 56 (by decide +kernel)).trans g_602_56
    have g_603_57 := (F_603.2 57 (by decide +kernel)).trans g_602_57
    have g_603_58 := (F_603.2 58 (by decide +kernel)).trans g_602_58
    have g_603_62 := (F_603.2 62 (by decide +kernel)).trans g_602_62
    have g_603_14 : cE h_603 14 (.inr (1, [.ref 7, .ref 15, .ref 16, fI 0, fJ dr])) := e_603_14
    have g_603_16 : cE h_603 16 (.inl (.int, fA [mx_sp 0 0, mx_sp 0 0])) := e_603_16
    refine ik_Wk 0 (pc' := 12) (loc' := [some (.ref 14)]) (st' := []) (h' := h_603) (cl' := 0) (sl' := 0) rfl ?_
    refine ik_Wret rfl rfl ⟨_, _, rfl, rfl, ?_⟩
    refine ik_Wk 0 (pc' := 35) (loc' := [some (.ref 0), some (fI 0), none]) (st' := []) (h' := h_603) (cl' := 0) (sl' := 0) rfl ?_
    refine ik_Wk 1 (pc' := 36) (loc' := [some (.ref 0), some (fI 0), none]) (st' := [.ref 0]) (h' := h_603) (cl' := 0) (sl' := 0) rfl ?_
    refine fw_gf rfl rfl g_603_0 rfl ?_
    refine ik_Wk 1 (pc' := 40) (loc' := [some (.ref 0), some (fI 0), none]) (st' := [fI 0, .ref 51]) (h' := h_603) (cl' := 0) (sl' := 0) rfl ?_
    refine fx_pf rfl rfl g_603_51 (Nat.le_of_ble_eq_true rfl) rfl rfl ?_
    intro h_604 e_604 f_604 l_604
    have k_604 := l_604.trans k_603
    have fr_604 := hfr_w fr_603 f_604 l_604 (by decide)
    have g_604_0 := (f_604 0 (by decide)).trans g_603_0
    have g_604_1 := (f_604 1 (by decide)).trans g_603_1
    have g_604_2 := (f_604 2 (by decide)).trans g_603_2
    have g_604_3 := (f_604 3 (by decide)).trans g_603_3
    have g_604_4 := (f_604 4 (by decide)).trans g_603_4
    have g_604_5 := (f_604 5 (by decide)).trans g_603_5
    have g_604_6 := (f_604 6 (by decide)).trans g_603_6
    have g_604_7 := (f_604 7 (by decide)).trans g_603_7
    have g_604_8 := (f_604 8 (by decide)).trans g_603_8
    have g_604_9 := (f_604 9 (by decide)).trans g_603_9
    have g_604_10 := (f_604 10 (by decide)).trans g_603_10
    have g_604_11 := (f_604 11 (by decide)).trans g_603_11
    have g_604_12 := (f_604 12 (by decide)).trans g_603_12
    have g_604_13 := (f_604 13 (by decide)).trans g_603_13
    have g_604_14 := (f_604 14 (by decide)).trans g_603_14
    have g_604_15 := (f_604 15 (by decide)).trans g_603_15
    have g_604_16 := (f_604 16 (by decide)).trans g_603_16
    have g_604_54 := (f_604 54 (by decide)).trans g_603_54
    have g_604_56 := (f_604 56 (by decide)).trans g_603_56
    have g_604_57 := (f_604 57 (by decide)).trans g_603_57
    have g_604_58 := (f_604 58 (by decide)).trans g_603_58
    have g_604_62 := (f_604 62 (by decide)).trans g_603_62
    have g_604_51 : cE h_604 51 (.inr (7, [.ref 7, fI 0, .ref 52, .ref 53])) := e_604
    refine ik_Wk 1 (pc' := 44) (loc' := [some (.ref 0), some (fI 0), none]) (st' := [.ref 0]) (h' := h_604) (cl' := 0) (sl' := 0) rfl ?_
    refine fw_gf rfl rfl g_604_0 rfl ?_
    refine ik_Wc 37 1 0 [.ref 54] [] rfl rfl rfl (by decide) rfl rfl (fw_rec k_604 rfl g_604_54 rfl (by decide)) ?_
    refine ik_Wk 0 (pc' := 0) (loc' := [some (.ref 54)]) (st' := []) (h' := h_604) (cl' := 0) (sl' := 0) rfl ?_
    refine ik_Wk 1 (pc' := 1) (loc' := [some (.ref 54)]) (st' := [.ref 54]) (h' := h_604) (cl' := 0) (sl' := 0) rfl ?_
    refine fw_gf rfl rfl g_604_54 rfl ?_
    refine ik_Wk 2 (pc' := 6) (loc' := [some (.ref 54)]) (st' := [fI 0, fI 0, .ref 56]) (h' := h_604) (cl' := 0) (sl' := 0) rfl ?_
    refine fx_ias (z := 0) rfl g_604_56 (by decide) (Nat.le_of_ble_eq_true rfl) (by decide) ?_
    intro h_605 e_605 f_605 l_605
    have k_605 := l_605.trans k_604
    have fr_605 := hfr_w fr_604 f_605 l_605 (by decide)
    have g_605_0 := (f_605 0 (by decide)).trans g_604_0
    have g_605_1 := (f_605 1 (by decide)).trans g_604_1
    have g_605_2 := (f_605 2 (by decide)).trans g_604_2
    have g_605_3 := (f_605 3 (by decide)).trans g_604_3
    have g_605_4 := (f_605 4 (by decide)).trans g_604_4
    have g_605_5 := (f_605 5 (by decide)).trans g_604_5
    have g_605_6 := (f_605 6 (by decide)).trans g_604_6
    have g_605_7 := (f_605 7 (by decide)).trans g_604_7
    have g_605_8 := (f_605 8 (by decide)).trans g_604_8
    have g_605_9 := (f_605 9 (by decide)).trans g_604_9
    have g_605_10 := (f_605 10 (by decide)).trans g_604_10
    have g_605_11 := (f_605 11 (by decide)).trans g_604_11
    have g_605_12 := (f_605 12 (by decide)).trans g_604_12
    have g_605_13 := (f_605 13 (by decide)).trans g_604_13
    have g_605_14 := (f_605 14 (by decide)).trans g_604_14
    have g_605_15 := (f_605 15 (by decide)).trans g_604_15
    have g_605_16 := (f_605 16 (by decide)).trans g_604_16
    have g_605_51 := (f_605 51 (by decide)).trans g_604_51
    have g_605_54 := (f_605 54 (by decide)).trans g_604_54
    have g_605_57 := (f_605 57 (by decide)).trans g_604_57
    have g_605_58 := (f_605 58 (by decide)).trans g_604_58
    have g_605_62 := (f_605 62 (by decide)).trans g_604_62
    have g_605_56 : cE h_605 56 (.inl (.int, fA [0, n1])) := e_605
    refine ik_Wk 1 (pc' := 8) (loc' := [some (.ref 54)]) (st' := [.ref 54]) (h' := h_605) (cl' := 0) (sl' := 0) rfl ?_
    refine fw_gf rfl rfl g_605_54 rfl ?_
    refine ik_Wk 2 (pc' := 13) (loc' := [some (.ref 54)]) (st' := [fI 0, fI 1, .ref 56]) (h' := h_605) (cl' := 0) (sl' := 0) rfl ?_
    refine fx_ias (z := 1) rfl g_605_56 (by decide) (Nat.le_of_ble_eq_true rfl) (by decide) ?_
    intro h_606 e_606 f_606 l_606
    have k_606 := l_606.trans k_605
    have fr_606 := hfr_w fr_605 f_606 l_606 (by decide)
    have g_606_0 := (f_606 0 (by decide)).trans g_605_0
    have g_606_1 := (f_606 1 (by decide)).trans g_605_1
    have g_606_2 := (f_606 2 (by decide)).trans g_605_2
    have g_606_3 := (f_606 3 (by decide)).trans g_605_3
    have g_606_4 := (f_606 4 (by decide)).trans g_605_4
    have g_606_5 := (f_606 5 (by decide)).trans g_605_5
    have g_606_6 := (f_606 6 (by decide)).trans g_605_6
    have g_606_7 := (f_606 7 (by decide)).trans g_605_7
    have g_606_8 := (f_606 8 (by decide)).trans g_605_8
    have g_606_9 := (f_606 9 (by decide)).trans g_605_9
    have g_606_10 := (f_606 10 (by decide)).trans g_605_10
    have g_606_11 := (f_606 11 (by decide)).trans g_605_11
    have g_606_12 := (f_606 12 (by decide)).trans g_605_12
    have g_606_13 := (f_606 13 (by decide)).trans g_605_13
    have g_606_14 := (f_606 14 (by decide)).trans g_605_14
    have g_606_15 := (f_606 15 (by decide)).trans g_605_15
    have g_606_16 := (f_606 16 (by decide)).trans g_605_16
    have g_606_51 := (f_606 51 (by decide)).trans g_605_51
    have g_606_54 := (f_606 54 (by decide)).trans g_605_54
    have g_606_57 := (f_606 57 (by decide)).trans g_605_57
    have g_606_58 := (f_606 58 (by decide)).trans g_605_58
    have g_606_62 := (f_606 62 (by decide)).trans g_605_62
    have g_606_56 : cE h_606 56 (.inl (.int, fA [0, 0])) := e_606
    refine ik_Wret rfl rfl ⟨_, _, rfl, rfl, ?_⟩
    refine ik_Wk 0 (pc' := 50) (loc' := [some (.ref 0), some (fI 0), none]) (st' := []) (h' := h_606) (cl' := 0) (sl' := 0) rfl ?_
    refine ik_Wk 4 (pc' := 54) (loc' := [some (.ref 0), some (fI 0), some (fI 0)]) (st' := [.ref 0, fI 0]) (h' := h_606) (cl' := 0) (sl' := 0) rfl ?_
    refine fw_gf rfl rfl g_606_0 rfl ?_
    refine fx_aln (L := 2) rfl g_606_57 (rfl : [(.ref 58 : Value), (.ref 62 : Value)].length = 2) (by decide) ?_
    refine fw_ic_ge rfl rfl (by omega) (by omega) (by omega) (by omega) (fun hc10 => absurd hc10 (by omega)) (fun hc10 => ?_)
    refine ik_Wk 1 (pc' := 62) (loc' := [some (.ref 0), some (fI 0), some (fI 0)]) (st' := [.ref 0]) (h' := h_606) (cl' := 0) (sl' := 0) rfl ?_
    refine fw_gf rfl rfl g_606_0 rfl ?_
    refine ik_Wk 1 (pc' := 66) (loc' := [some (.ref 0), some (fI 0), some (fI 0)]) (st' := [fI 0, .ref 57]) (h' := h_606) (cl' := 0) (sl' := 0) rfl ?_
    refine fx_aal (z := 0) rfl g_606_57 (by decide) (by decide) rfl ?_
    refine ik_Wk 1 (pc' := 68) (loc' := [some (.ref 0), some (fI 0), some (fI 0)]) (st' := [fI 0, .ref 58]) (h' := h_606) (cl' := 0) (sl' := 0) rfl ?_
    refine fx_pf rfl rfl g_606_58 (Nat.le_of_ble_eq_true rfl) rfl rfl ?_
    intro h_607 e_607 f_607 l_607
    have k_607 := l_607.trans k_606
    have fr_607 := hfr_w fr_606 f_607 l_607 (by decide)
    have g_607_0 := (f_607 0 (by decide)).trans g_606_0
    have g_607_1 := (f_607 1 (by decide)).trans g_606_1
    have g_607_2 := (f_607 2 (by decide)).trans g_606_2
    have g_607_3 := (f_607 3 (by decide)).trans g_606_3
    have g_607_4 := (f_607 4 (by decide)).trans g_606_4
    have g_607_5 := (f_607 5 (by decide)).trans g_606_5
    have g_607_6 := (f_607 6 (by decide)).trans g_606_6
    have g_607_7 := (f_607 7 (by decide)).trans g_606_7
    have g_607_8 := (f_607 8 (by decide)).trans g_606_8
    have g_607_9 := (f_607 9 (by decide)).trans g_606_9
    have g_607_10 := (f_607 10 (by decide)).trans g_606_10
    have g_607_11 := (f_607 11 (by decide)).trans g_606_11
    have g_607_12 := (f_607 12 (by decide)).trans g_606_12
    have g_607_13 := (f_607 13 (by decide)).trans g_606_13
    have g_607_14 := (f_607 14 (by decide)).trans g_606_14
    have g_607_15 := (f_607 15 (by decide)).trans g_606_15
    have g_607_16 := (f_607 16 (by decide)).trans g_606_16
    have g_607_51 := (f_607 51 (by decide)).trans g_606_51
    have g_607_54 := (f_607 54 (by decide)).trans g_606_54
    have g_607_56 := (f_607 56 (by decide)).trans g_606_56
    have g_607_57 := (f_607 57 (by decide)).trans g_606_57
    have g_607_62 := (f_607 62 (by decide)).trans g_606_62
    have g_607_58 : cE h_607 58 (.inr (3, [fI 0, .ref 59, .ref 60, fI tm0, fJ td0, fI ts0, .ref 61])) := e_607
    refine fw_inc (a := 0) (loc' := [some (.ref 0), some (fI 0), some (fI 1)]) rfl rfl (Nat.le_of_ble_eq_true rfl) rfl ?_
    refine ik_Wk 3 (pc' := 54) (loc' := [some (.ref 0), some (fI 0), some (fI 1)]) (st' := [.ref 0, fI 1]) (h' := h_607) (cl' := 0) (sl' := 0) rfl ?_
    refine fw_gf rfl rfl g_607_0 rfl ?_
    refine fx_aln (L := 2) rfl g_607_57 (rfl : [(.ref 58 : Value), (.ref 62 : Value)].length = 2) (by decide) ?_
    refine fw_ic_ge rfl rfl (by omega) (by omega) (by omega) (by omega) (fun hc11 => absurd hc11 (by omega)) (fun hc11 => ?_)
    refine ik_Wk 1 (pc' := 62) (loc' := [some (.ref 0), some (fI 0), some (fI 1)]) (st' := [.ref 0]) (h' := h_607) (cl' := 0) (sl' := 0) rfl ?_
    refine fw_gf rfl rfl g_607_0 rfl ?_
    refine ik_Wk 1 (pc' := 66) (loc' := [some (.ref 0), some (fI 0), some (fI 1)]) (st' := [fI 1, .ref 57]) (h' := h_607) (cl' := 0) (sl' := 0) rfl ?_
    refine fx_aal (z := 1) rfl g_607_57 (by decide) (by decide) rfl ?_
    refine ik_Wk 1 (pc' := 68) (loc' := [some (.ref 0), some (fI 0), some (fI 1)]) (st' := [fI 0, .ref 62]) (h' := h_607) (cl' := 0) (sl' := 0) rfl ?_
    refine fx_pf rfl rfl g_607_62 (Nat.le_of_ble_eq_true rfl) rfl rfl ?_
    intro h_608 e_608 f_608 l_608
    have k_608 := l_608.trans k_607
    have fr_608 := hfr_w fr_607 f_608 l_608 (by decide)
    have g_608_0 := (f_608 0 (by decide)).trans g_607_0
    have g_608_1 := (f_608 1 (by decide)).trans g_607_1
    have g_608_2 := (f_608 2 (by decide)).trans g_607_2
    have g_608_3 := (f_608 3 (by decide)).trans g_607_3
    have g_608_4 := (f_608 4 (by decide)).trans g_607_4
    have g_608_5 := (f_608 5 (by decide)).trans g_607_5
    have g_608_6 := (f_608 6 (by decide)).trans g_607_6
    have g_608_7 := (f_608 7 (by decide)).trans g_607_7
    have g_608_8 := (f_608 8 (by decide)).trans g_607_8
    have g_608_9 := (f_608 9 (by decide)).trans g_607_9
    have g_608_10 := (f_608 10 (by decide)).trans g_607_10
    have g_608_11 := (f_608 11 (by decide)).trans g_607_11
    have g_608_12 := (f_608 12 (by decide)).trans g_607_12
    have g_608_13 := (f_608 13 (by decide)).trans g_607_13
    have g_608_14 := (f_608 14 (by decide)).trans g_607_14
    have g_608_15 := (f_608 15 (by decide)).trans g_607_15
    have g_608_16 := (f_608 16 (by decide)).trans g_607_16
    have g_608_51 := (f_608 51 (by decide)).trans g_607_51
    have g_608_54 := (f_608 54 (by decide)).trans g_607_54
    have g_608_56 := (f_608 56 (by decide)).trans g_607_56
    have g_608_57 := (f_608 57 (by decide)).trans g_607_57
    have g_608_58 := (f_608 58 (by decide)).trans g_607_58
    have g_608_62 : cE h_608 62 (.inr (3, [fI 0, .ref 63, .ref 64, fI tm1, fJ td1, fI ts1, .ref 65])) := e_608
    refine fw_inc (a := 1) (loc' := [some (.ref 0), some (fI 0), some (fI 2)]) rfl rfl (Nat.le_of_ble_eq_true rfl) rfl ?_
    refine ik_Wk 3 (pc' := 54) (loc' := [some (.ref 0), some (fI 0), some (fI 2)]) (st' := [.ref 0, fI 2]) (h' := h_608) (cl' := 0) (sl' := 0) rfl ?_
    refine fw_gf rfl rfl g_608_0 rfl ?_
    refine fx_aln (L := 2) rfl g_608_57 (rfl : [(.ref 58 : Value), (.ref 62 : Value)].length = 2) (by decide) ?_
    refine fw_ic_ge rfl rfl (by omega) (by omega) (by omega) (by omega) (fun hc12 => ?_) (fun hc12 => absurd hc12 (by omega))
    refine ik_Wk 1 (pc' := 78) (loc' := [some (.ref 0), some (fI 0), some (fI 2)]) (st' := [.ref 0]) (h' := h_608) (cl' := 0) (sl' := 0) rfl ?_
    refine fw_gf rfl rfl g_608_0 rfl ?_
    refine fw_gf rfl rfl g_608_7 rfl ?_
    exact ik_Wret rfl rfl ⟨_, _, rfl, rfl, rfl, rfl, Or.inr ⟨q_588, cu'_588, C'_588, G'_588, P'_588, B'_588, wg'_594, wc'_594, we'_594, rfl, g_608_1, g_608_2, m_588_2, g_608_3, m_588_3, g_608_4, m_588_4, g_608_5, m_588_5, g_608_6, m_588_6, g_608_7, g_608_8, m_588_3, g_608_9, m_588_4, g_608_10, m_588_5, g_608_11, m_594_11, g_608_12, m_594_12, g_608_13, m_594_13, g_608_14, g_608_15, g_608_16, g_608_51, g_608_56, g_608_58, g_608_62, p_588_0, p_588_1, p_588_2, p_588_3, p_594_0, fr_608⟩⟩

theorem rp_streamM {h : List ik_E} {f : Nat → Int} {tn : Int} {fp : Int} {a0 : Int} {sd : Int} {we : Int} {nu : Int} {na : Int} {rp : Int} {ka : Int} {pa : Int} {fa : Int} {kb : Int} {pb : Int} {fb : Int} {xa : Int} {xb : Int} {cn : List Int} {go : List Int} {ch : List Int} {T : List Int} {M : List Int} {Rq : List Int} {O : List Int} {A : List Int} {y : Int → Int} {n0 : Int} {n1 : Int} {t0 : Int} {t1 : Int} (q0 : ∀ i : Int, 0 ≤ i → i < tn → 0 ≤ T.getD i.toNat 0 ∧ T.getD i.toNat 0 ≤ 255) (q1 : 0 ≤ tn ∧ tn ≤ 500) (q2 : ∀ i : Int, 0 ≤ i → i < tn → y i = T.getD i.toNat 0) (q : Int × List (List zM)) (a1 : Int) (sd1 : Int) (we1 : Int) (nu1 : Int) (na1 : Int) (M1 : List Int) (R1 : List Int) (O1 : List Int) (A1 : List Int) {R : List Value → List ik_E → Prop} (K : ∀ (w : List ik_E) (i2 : Int) (w66 : cE w 66 (.inr (10, [fI q.1, .ref 67, .ref 68, .ref 69, fI (f 4), .ref 70, .ref 71, fI (f 7), fI (f 8), .ref 72, fI 0, fI (-1), fI a1, fJ sd1, fI we1, fI nu1, fI na1, fI q.1, .ref 73, .ref 74, .ref 75, .ref 76, .ref 77, .ref 78, fI (f 24), .ref 79, .ref 80, .ref 81, .ref 82, .ref 83, .ref 84, .ref 85, fJ (f 32), fJ (f 33), .ref 86, .ref 87, fI (f 36), .ref 88, .ref 89, .ref 90, .ref 91, .ref 92, .ref 93]))) (w67 : cE w 67 (.inl (.int, fA cn))) (nw_67 : cn.length = 12) (w68 : cE w 68 (.inl (.int, fA R1))) (nw_68 : R1.length = 48) (w69 : cE w 69 (.inl (.int, fA O1))) (nw_69 : O1.length = 48) (w70 : cE w 70 (.inl (.int, fA [ka, pa, fa, kb, pb, fb]))) (w71 : cE w 71 (.inl (.int, fA [xa, xb]))) (w72 : cE w 72 (.inl (.int, fA T))) (nw_72 : T.length = 500) (w73 : cE w 73 (.inl (.int, fA M1))) (nw_73 : M1.length = 12) (w74 : cE w 74 (.inl (.int, fA R1))) (nw_74 : R1.length = 48) (w75 : cE w 75 (.inl (.int, fA O1))) (nw_75 : O1.length = 48) (w76 : cE w 76 (.inl (.int, fA A1))) (nw_76 : A1.length = 48) (w90 : cE w 90 (.inl (.int, fA [n0, n1]))) (w93 : cE w 93 (.inl (.boolean, fA [t0, t1]))) (wl : w.length = 94) (F : hfr [66, 67, 68, 69, 70, 71, 72, 73, 74, 75, 76, 90, 93] h w) , ik_G 147 80 [some (.ref 66), some (fI 0), some (fI i2)] [] w R) : ∀ (k : Nat) (i : Int) (g1 : List Int) (o1 : List Int) (u : List ik_E) (u66 : cE u 66 (.inr (10, [fI q.1, .ref 67, .ref 68, .ref 69, fI (f 4), .ref 70, .ref 71, fI (f 7), fI (f 8), .ref 72, fI 0, fI (-1), fI a1, fJ sd1, fI we1, fI nu1, fI na1, fI q.1, .ref 73, .ref 74, .ref 75, .ref 76, .ref 77, .ref 78, fI (f 24), .ref 79, .ref 80, .ref 81, .ref 82, .ref 83, .ref 84, .ref 85, fJ (f 32), fJ (f 33), .ref 86, .ref 87, fI (f 36), .ref 88, .ref 89, .ref 90, .ref 91, .ref 92, .ref 93]))) (u67 : cE u 67 (.inl (.int, fA cn))) (n67 : cn.length = 12) (u68 : cE u 68 (.inl (.int, fA g1))) (n68 : g1.length = 48) (u69 : cE u 69 (.inl (.int, fA o1))) (n69 : o1.length = 48) (u70 : cE u 70 (.inl (.int, fA [ka, pa, fa, kb, pb, fb]))) (u71 : cE u 71 (.inl (.int, fA [xa, xb]))) (u72 : cE u 72 (.inl (.int, fA T))) (n72 : T.length = 500) (u73 : cE u 73 (.inl (.int, fA M1))) (n73 : M1.length = 12) (u74 : cE u 74 (.inl (.int, fA R1))) (n74 : R1.length = 48) (u75 : cE u 75 (.inl (.int, fA O1))) (n75 : O1.length = 48) (u76 : cE u 76 (.inl (.int, fA A1))) (n76 : A1.length = 48) (u90 : cE u 90 (.inl (.int, fA [n0, n1]))) (u93 : cE u 93 (.inl (.boolean, fA [t0, t1]))) (ul : u.length = 94) (F : hfr [66, 67, 68, 69, 70, 71, 72, 73, 74, 75, 76, 90, 93] h u) (hi : 0 ≤ i ∧ i ≤ 48) (hg : ∀ j : Nat, (j : Int) < i → g1.getD j 0 = R1.getD j 0) (ho : ∀ j : Nat, (j : Int) < i → o1.getD j 0 = O1.getD j 0) (hk : 48 - i < (k : Int)), ik_G 147 44 [some (.ref 66), some (fI 0), some (fI i)] [] u R := by
  intro k
  induction k with
  | zero => intro i g1 o1 u u66 u67 n67 u68 n68 u69 n69 u70 u71 u72 n72 u73 n73 u74 n74 u75 n75 u76 n76 u90 u93 ul F hi hg ho hk; omega
  | succ k ih =>
    intro i g1 o1 u u66 u67 n67 u68 n68 u69 n69 u70 u71 u72 n72 u73 n73 u74 n74 u75 n75 u76 n76 u90 u93 ul F hi hg ho hk
    refine ik_Wk 1 (pc' := 45) (loc' := [some (.ref 66), some (fI 0), some (fI i)]) (st' := [fI i]) (h' := u) (cl' := 0) (sl' := 0) rfl ?_
    refine fw_bi rfl (by decide) ?_
    refine fw_ic_ge rfl rfl (by omega) (by omega) (by omega) (by omega) (fun hc1 => ?_) (fun hc1 => ?_)
    · have e1 : g1 = R1 := mx_ext (by rw [n68, n74]) (fun j => by
        rcases Nat.lt_or_ge j 48 with z | z
        · exact hg j (by omega)
        · rw [mi_out (by omega), mi_out (by omega)])
      have e2 : o1 = O1 := mx_ext (by rw [n69, n75]) (fun j => by
        rcases Nat.lt_or_ge j 48 with z | z
        · exact ho j (by omega)
        · rw [mi_out (by omega), mi_out (by omega)])
      subst e1 e2
      exact K u i u66 u67 n67 u68 n68 u69 n69 u70 u71 u72 n72 u73 n73 u74 n74 u75 n75 u76 n76 u90 u93 ul F
    · refine ik_Wk 1 (pc' := 51) (loc' := [some (.ref 66), some (fI 0), some (fI i)]) (st' := [.ref 66]) (h' := u) (cl' := 0) (sl' := 0) rfl ?_
      refine fw_gf rfl rfl u66 rfl ?_
      refine ik_Wk 2 (pc' := 56) (loc' := [some (.ref 66), some (fI 0), some (fI i)]) (st' := [.ref 66, fI i, .ref 68]) (h' := u) (cl' := 0) (sl' := 0) rfl ?_
      refine fw_gf rfl rfl u66 rfl ?_
      refine ik_Wk 1 (pc' := 60) (loc' := [some (.ref 66), some (fI 0), some (fI i)]) (st' := [fI i, .ref 74, fI i, .ref 68]) (h' := u) (cl' := 0) (sl' := 0) rfl ?_
      refine fw_ial rfl u74 (by omega) (by omega) (by omega) ?_
      have hl2 : (g1.set i.toNat (R1.getD i.toNat 0)).length = 48 := (List.length_set ..).trans n68
      refine fx_ias rfl u68 (by omega) (by omega) (by omega) ?_
      intro h_609 e_609 f_609 l_609
      have k_609 := l_609.trans ul
      have fr_609 := hfr_w F f_609 l_609 (by decide)
      have g_609_66 := (f_609 66 (by decide)).trans u66
      have g_609_67 := (f_609 67 (by decide)).trans u67
      have g_609_69 := (f_609 69 (by decide)).trans u69
      have g_609_70 := (f_609 70 (by decide)).trans u70
      have g_609_71 := (f_609 71 (by decide)).trans u71
      have g_609_72 := (f_609 72 (by decide)).trans u72
      have g_609_73 := (f_609 73 (by decide)).trans u73
      have g_609_74 := (f_609 74 (by decide)).trans u74
      have g_609_75 := (f_609 75 (by decide)).trans u75
      have g_609_76 := (f_609 76 (by decide)).trans u76
      have g_609_90 := (f_609 90 (by decide)).trans u90
      have g_609_93 := (f_609 93 (by decide)).trans u93
      have g_609_68 : cE h_609 68 (.inl (.int, fA (g1.set i.toNat (R1.getD i.toNat 0)))) := e_609
      refine ik_Wk 1 (pc' := 63) (loc' := [some (.ref 66), some (fI 0), some (fI i)]) (st' := [.ref 66]) (h' := h_609) (cl' := 0) (sl' := 0) rfl ?_
      refine fw_gf rfl rfl g_609_66 rfl ?_
      refine ik_Wk 2 (pc' := 68) (loc' := [some (.ref 66), some (fI 0), some (fI i)]) (st' := [.ref 66, fI i, .ref 69]) (h' := h_609) (cl' := 0) (sl' := 0) rfl ?_
      refine fw_gf rfl rfl g_609_66 rfl ?_
      refine ik_Wk 1 (pc' := 72) (loc' := [some (.ref 66), some (fI 0), some (fI i)]) (st' := [fI i, .ref 75, fI i, .ref 69]) (h' := h_609) (cl' := 0) (sl' := 0) rfl ?_
      refine fw_ial rfl g_609_75 (by omega) (by omega) (by omega) ?_
      have hl3 : (o1.set i.toNat (O1.getD i.toNat 0)).length = 48 := (List.length_set ..).trans n69
      refine fx_ias rfl g_609_69 (by omega) (by omega) (by omega) ?_
      intro h_610 e_610 f_610 l_610
      have k_610 := l_610.trans k_609
      have fr_610 := hfr_w fr_609 f_610 l_610 (by decide)
      have g_610_66 := (f_610 66 (by decide)).trans g_609_66
      have g_610_67 := (f_610 67 (by decide)).trans g_609_67
      have g_610_68 := (f_610 68 (by decide)).trans g_609_68
      have g_610_70 := (f_610 70 (by decide)).trans g_609_70
      have g_610_71 := (f_610 71 (by decide)).trans g_609_71
      have g_610_72 := (f_610 72 (by decide)).trans g_609_72
      have g_610_73 := (f_610 73 (by decide)).trans g_609_73
      have g_610_74 := (f_610 74 (by decide)).trans g_609_74
      have g_610_75 := (f_610 75 (by decide)).trans g_609_75
      have g_610_76 := (f_610 76 (by decide)).trans g_609_76
      have g_610_90 := (f_610 90 (by decide)).trans g_609_90
      have g_610_93 := (f_610 93 (by decide)).trans g_609_93
      have g_610_69 : cE h_610 69 (.inl (.int, fA (o1.set i.toNat (O1.getD i.toNat 0)))) := e_610
      refine fw_inc (a := i) (loc' := [some (.ref 66), some (fI 0), some (fI (i + 1))]) rfl rfl (Nat.le_of_ble_eq_true rfl) rfl ?_
      refine ik_Wk 1 (pc' := 44) (loc' := [some (.ref 66), some (fI 0), some (fI (i + 1))]) (st' := []) (h' := h_610) (cl' := 0) (sl' := 0) rfl ?_
      have hg2 : ∀ j : Nat, (j : Int) < i + 1 → (g1.set i.toNat (R1.getD i.toNat 0)).getD j 0 = R1.getD j 0 := by
        intro j hj
        rw [fz_getD_set]
        by_cases z : j = i.toNat
        · rw [if_pos ⟨z, by omega⟩, z]
        · rw [if_neg (fun y => z y.1)]; exact hg j (by omega)
      have ho2 : ∀ j : Nat, (j : Int) < i + 1 → (o1.set i.toNat (O1.getD i.toNat 0)).getD j 0 = O1.getD j 0 := by
        intro j hj
        rw [fz_getD_set]
        by_cases z : j = i.toNat
        · rw [if_pos ⟨z, by omega⟩, z]
        · rw [if_neg (fun y => z y.1)]; exact ho j (by omega)
      exact ih (i + 1) (g1.set i.toNat (R1.getD i.toNat 0)) (o1.set i.toNat (O1.getD i.toNat 0)) h_610 g_610_66 g_610_67 n67 g_610_68 hl2 g_610_69 hl3 g_610_70 g_610_71 g_610_72 n72 g_610_73 n73 g_610_74 n74 g_610_75 n75 g_610_76 n76 g_610_90 g_610_93 k_610 fr_610 (by omega) hg2 ho2 (by omega)

theorem rp_streamN {h : List ik_E} {f : Nat → Int} {tn : Int} {fp : Int} {a0 : Int} {sd : Int} {we : Int} {nu : Int} {na : Int} {rp : Int} {ka : Int} {pa : Int} {fa : Int} {kb : Int} {pb : Int} {fb : Int} {xa : Int} {xb : Int} {cn : List Int} {go : List Int} {ch : List Int} {T : List Int} {M : List Int} {Rq : List Int} {O : List Int} {A : List Int} {y : Int → Int} {n0 : Int} {n1 : Int} {t0 : Int} {t1 : Int} (q0 : ∀ i : Int, 0 ≤ i → i < tn → 0 ≤ T.getD i.toNat 0 ∧ T.getD i.toNat 0 ≤ 255) (q1 : 0 ≤ tn ∧ tn ≤ 500) (q2 : ∀ i : Int, 0 ≤ i → i < tn → y i = T.getD i.toNat 0) (q : Int × List (List zM)) (a1 : Int) (sd1 : Int) (we1 : Int) (nu1 : Int) (na1 : Int) (M1 : List Int) (R1 : List Int) (O1 : List Int) (A1 : List Int) (hq : 0 ≤ q.1 ∧ q.1 ≤ 12) {R : List Value → List ik_E → Prop} (K : ∀ (w : List ik_E) (i2 : Int) (c2 : List Int) (w66 : cE w 66 (.inr (10, [fI q.1, .ref 67, .ref 68, .ref 69, fI (f 4), .ref 70, .ref 71, fI (f 7), fI (f 8), .ref 72, fI 0, fI (-1), fI a1, fJ sd1, fI we1, fI nu1, fI na1, fI q.1, .ref 73, .ref 74, .ref 75, .ref 76, .ref 77, .ref 78, fI (f 24), .ref 79, .ref 80, .ref 81, .ref 82, .ref 83, .ref 84, .ref 85, fJ (f 32), fJ (f 33), .ref 86, .ref 87, fI (f 36), .ref 88, .ref 89, .ref 90, .ref 91, .ref 92, .ref 93]))) (w67 : cE w 67 (.inl (.int, fA c2))) (nw_67 : c2.length = 12) (w68 : cE w 68 (.inl (.int, fA R1))) (nw_68 : R1.length = 48) (w69 : cE w 69 (.inl (.int, fA O1))) (nw_69 : O1.length = 48) (w70 : cE w 70 (.inl (.int, fA [ka, pa, fa, kb, pb, fb]))) (w71 : cE w 71 (.inl (.int, fA [xa, xb]))) (w72 : cE w 72 (.inl (.int, fA T))) (nw_72 : T.length = 500) (w73 : cE w 73 (.inl (.int, fA M1))) (nw_73 : M1.length = 12) (w74 : cE w 74 (.inl (.int, fA R1))) (nw_74 : R1.length = 48) (w75 : cE w 75 (.inl (.int, fA O1))) (nw_75 : O1.length = 48) (w76 : cE w 76 (.inl (.int, fA A1))) (nw_76 : A1.length = 48) (w90 : cE w 90 (.inl (.int, fA [n0, n1]))) (w93 : cE w 93 (.inl (.boolean, fA [t0, t1]))) (wl : w.length = 94) (F : hfr [66, 67, 68, 69, 70, 71, 72, 73, 74, 75, 76, 90, 93] h w) (hm : (∀ x : Int, 0 ≤ x → x < q.1 - 1 → c2.getD x.toNat 0 = M1.getD x.toNat 0) ∧ ∀ x : Nat, q.1 - 1 ≤ (x : Int) → c2.getD x 0 = 0), ik_G 147 120 [some (.ref 66), some (fI 0), some (fI i2)] [] w R) : ∀ (k : Nat) (i : Int) (c1 : List Int) (u : List ik_E) (u66 : cE u 66 (.inr (10, [fI q.1, .ref 67, .ref 68, .ref 69, fI (f 4), .ref 70, .ref 71, fI (f 7), fI (f 8), .ref 72, fI 0, fI (-1), fI a1, fJ sd1, fI we1, fI nu1, fI na1, fI q.1, .ref 73, .ref 74, .ref 75, .ref 76, .ref 77, .ref 78, fI (f 24), .ref 79, .ref 80, .ref 81, .ref 82, .ref 83, .ref 84, .ref 85, fJ (f 32), fJ (f 33), .ref 86, .ref 87, fI (f 36), .ref 88, .ref 89, .ref 90, .ref 91, .ref 92, .ref 93]))) (u67 : cE u 67 (.inl (.int, fA c1))) (n67 : c1.length = 12) (u68 : cE u 68 (.inl (.int, fA R1))) (n68 : R1.length = 48) (u69 : cE u 69 (.inl (.int, fA O1))) (n69 : O1.length = 48) (u70 : cE u 70 (.inl (.int, fA [ka, pa, fa, kb, pb, fb]))) (u71 : cE u 71 (.inl (.int, fA [xa, xb]))) (u72 : cE u 72 (.inl (.int, fA T))) (n72 : T.length = 500) (u73 : cE u 73 (.inl (.int, fA M1))) (n73 : M1.length = 12) (u74 : cE u 74 (.inl (.int, fA R1))) (n74 : R1.length = 48) (u75 : cE u 75 (.inl (.int, fA O1))) (n75 : O1.length = 48) (u76 : cE u 76 (.inl (.int, fA A1))) (n76 : A1.length = 48) (u90 : cE u 90 (.inl (.int, fA [n0, n1]))) (u93 : cE u 93 (.inl (.boolean, fA [t0, t1]))) (ul : u.length = 94) (F : hfr [66, 67, 68, 69, 70, 71, 72, 73, 74, 75, 76, 90, 93] h u) (hi : 0 ≤ i ∧ i ≤ 12) (hc : ∀ j : Nat, (j : Int) < i → c1.getD j 0 = if (j : Int) < q.1 - 1 then M1.getD j 0 else 0) (hk : 12 - i < (k : Int)), ik_G 147 82 [some (.ref 66), some (fI 0), some (fI i)] [] u R := by
  intro k
  induction k with
  | zero => intro i c1 u u66 u67 n67 u68 n68 u69 n69 u70 u71 u72 n72 u73 n73 u74 n74 u75 n75 u76 n76 u90 u93 ul F hi hc hk; omega
  | succ k ih =>
    intro i c1 u u66 u67 n67 u68 n68 u69 n69 u70 u71 u72 n72 u73 n73 u74 n74 u75 n75 u76 n76 u90 u93 ul F hi hc hk
    refine ik_Wk 1 (pc' := 83) (loc' := [some (.ref 66), some (fI 0), some (fI i)]) (st' := [fI i]) (h' := u) (cl' := 0) (sl' := 0) rfl ?_
    refine fw_bi rfl (by decide) ?_
    refine fw_ic_ge rfl rfl (by omega) (by omega) (by omega) (by omega) (fun hc1 => ?_) (fun hc1 => ?_)
    · have ei : i = 12 := by omega
      subst ei
      exact K u 12 c1 u66 u67 n67 u68 n68 u69 n69 u70 u71 u72 n72 u73 n73 u74 n74 u75 n75 u76 n76 u90 u93 ul F ⟨fun x h0 h1 => by rw [hc x.toNat (by omega), if_pos (by omega)], fun x hx => by
        rcases Nat.lt_or_ge x 12 with z | z
        · rw [hc x (by omega), if_neg (by omega)]
        · exact mi_out (by omega)⟩
    · refine ik_Wk 1 (pc' := 89) (loc' := [some (.ref 66), some (fI 0), some (fI i)]) (st' := [.ref 66]) (h' := u) (cl' := 0) (sl' := 0) rfl ?_
      refine fw_gf rfl rfl u66 rfl ?_
      refine ik_Wk 3 (pc' := 95) (loc' := [some (.ref 66), some (fI 0), some (fI i)]) (st' := [.ref 66, fI i, fI i, .ref 67]) (h' := u) (cl' := 0) (sl' := 0) rfl ?_
      refine fw_gf rfl rfl u66 rfl ?_
      refine ik_Wk 1 (pc' := 99) (loc' := [some (.ref 66), some (fI 0), some (fI i)]) (st' := [fI 1, fI q.1, fI i, fI i, .ref 67]) (h' := u) (cl' := 0) (sl' := 0) rfl ?_
      refine fw_sub rfl ?_
      refine fw_ic_ge rfl rfl (by omega) (by omega) (by omega) (by omega) (fun hc2 => ?_) (fun hc2 => ?_)
      · refine ik_Wk 1 (pc' := 113) (loc' := [some (.ref 66), some (fI 0), some (fI i)]) (st' := [fI 0, fI i, .ref 67]) (h' := u) (cl' := 0) (sl' := 0) rfl ?_
        have hl3 : (c1.set i.toNat 0).length = 12 := (List.length_set ..).trans n67
        refine fx_ias rfl u67 (by omega) (by omega) (by omega) ?_
        intro h_611 e_611 f_611 l_611
        have k_611 := l_611.trans ul
        have fr_611 := hfr_w F f_611 l_611 (by decide)
        have g_611_66 := (f_611 66 (by decide)).trans u66
        have g_611_68 := (f_611 68 (by decide)).trans u68
        have g_611_69 := (f_611 69 (by decide)).trans u69
        have g_611_70 := (f_611 70 (by decide)).trans u70
        have g_611_71 := (f_611 71 (by decide)).trans u71
        have g_611_72 := (f_611 72 (by decide)).trans u72
        have g_611_73 := (f_611 73 (by decide)).trans u73
        have g_611_74 := (f_611 74 (by decide)).trans u74
        have g_611_75 := (f_611 75 (by decide)).trans u75
        have g_611_76 := (f_611 76 (by decide)).trans u76
        have g_611_90 := (f_611 90 (by decide)).trans u90
        have g_611_93 := (f_611 93 (by decide)).trans u93
        have g_611_67 : cE h_611 67 (.inl (.int, fA (c1.set i.toNat 0))) := e_611
        refine fw_inc (a := i) (loc' := [some (.ref 66), some (fI 0), some (fI (i + 1))]) rfl rfl (Nat.le_of_ble_eq_true rfl) rfl ?_
        refine ik_Wk 1 (pc' := 82) (loc' := [some (.ref 66), some (fI 0), some (fI (i + 1))]) (st' := []) (h' := h_611) (cl' := 0) (sl' := 0) rfl ?_
        have hc2 : ∀ j : Nat, (j : Int) < i + 1 → (c1.set i.toNat 0).getD j 0 = if (j : Int) < q.1 - 1 then M1.getD j 0 else 0 := by
          intro j hj
          rw [fz_getD_set]
          by_cases z : j = i.toNat
          · rw [if_pos ⟨z, by omega⟩, z, if_neg (by omega)]
          · rw [if_neg (fun y => z y.1)]; exact hc j (by omega)
        exact ih (i + 1) (c1.set i.toNat 0) h_611 g_611_66 g_611_67 hl3 g_611_68 n68 g_611_69 n69 g_611_70 g_611_71 g_611_72 n72 g_611_73 n73 g_611_74 n74 g_611_75 n75 g_611_76 n76 g_611_90 g_611_93 k_611 fr_611 (by omega) hc2 (by omega)
      · refine ik_Wk 1 (pc' := 104) (loc' := [some (.ref 66), some (fI 0), some (fI i)]) (st' := [.ref 66, fI i, .ref 67]) (h' := u) (cl' := 0) (sl' := 0) rfl ?_
        refine fw_gf rfl rfl u66 rfl ?_
        refine ik_Wk 1 (pc' := 108) (loc' := [some (.ref 66), some (fI 0), some (fI i)]) (st' := [fI i, .ref 73, fI i, .ref 67]) (h' := u) (cl' := 0) (sl' := 0) rfl ?_
        refine fw_ial rfl u73 (by omega) (by omega) (by omega) ?_
        refine ik_Wk 1 (pc' := 113) (loc' := [some (.ref 66), some (fI 0), some (fI i)]) (st' := [fI (M1.getD i.toNat 0), fI i, .ref 67]) (h' := u) (cl' := 0) (sl' := 0) rfl ?_
        have hl4 : (c1.set i.toNat (M1.getD i.toNat 0)).length = 12 := (List.length_set ..).trans n67
        refine fx_ias rfl u67 (by omega) (by omega) (by omega) ?_
        intro h_612 e_612 f_612 l_612
        have k_612 := l_612.trans ul
        have fr_612 := hfr_w F f_612 l_612 (by decide)
        have g_612_66 := (f_612 66 (by decide)).trans u66
        have g_612_68 := (f_612 68 (by decide)).trans u68
        have g_612_69 := (f_612 69 (by decide)).trans u69
        have g_612_70 := (f_612 70 (by decide)).trans u70
        have g_612_71 := (f_612 71 (by decide)).trans u71
        have g_612_72 := (f_612 72 (by decide)).trans u72
        have g_612_73 := (f_612 73 (by decide)).trans u73
        have g_612_74 := (f_612 74 (by decide)).trans u74
        have g_612_75 := (f_612 75 (by decide)).trans u75
        have g_612_76 := (f_612 76 (by decide)).trans u76
        have g_612_90 := (f_612 90 (by decide)).trans u90
        have g_612_93 := (f_612 93 (by decide)).trans u93
        have g_612_67 : cE h_612 67 (.inl (.int, fA (c1.set i.toNat (M1.getD i.toNat 0)))) := e_612
        refine fw_inc (a := i) (loc' := [some (.ref 66), some (fI 0), some (fI (i + 1))]) rfl rfl (Nat.le_of_ble_eq_true rfl) rfl ?_
        refine ik_Wk 1 (pc' := 82) (loc' := [some (.ref 66), some (fI 0), some (fI (i + 1))]) (st' := []) (h' := h_612) (cl' := 0) (sl' := 0) rfl ?_
        have hc2 : ∀ j : Nat, (j : Int) < i + 1 → (c1.set i.toNat (M1.getD i.toNat 0)).getD j 0 = if (j : Int) < q.1 - 1 then M1.getD j 0 else 0 := by
          intro j hj
          rw [fz_getD_set]
          by_cases z : j = i.toNat
          · rw [if_pos ⟨z, by omega⟩, z, if_pos (by omega)]
          · rw [if_neg (fun y => z y.1)]; exact hc j (by omega)
        exact ih (i + 1) (c1.set i.toNat (M1.getD i.toNat 0)) h_612 g_612_66 g_612_67 hl4 g_612_68 n68 g_612_69 n69 g_612_70 g_612_71 g_612_72 n72 g_612_73 n73 g_612_74 n74 g_612_75 n75 g_612_76 n76 g_612_90 g_612_93 k_612 fr_612 (by omega) hc2 (by omega)

theorem rp_stream {h : List ik_E} {f : Nat → Int} {tn : Int} {fp : Int} {a0 : Int} {sd : Int} {we : Int} {nu : Int} {na : Int} {rp : Int} {ka : Int} {pa : Int} {fa : Int} {kb : Int} {pb : Int} {fb : Int} {xa : Int} {xb : Int} {cn : List Int} {go : List Int} {ch : List Int} {T : List Int} {M : List Int} {Rq : List Int} {O : List Int} {A : List Int} {y : Int → Int} {n0 : Int} {n1 : Int} {t0 : Int} {t1 : Int} (q0 : ∀ i : Int, 0 ≤ i → i < tn → 0 ≤ T.getD i.toNat 0 ∧ T.getD i.toNat 0 ≤ 255) (q1 : 0 ≤ tn ∧ tn ≤ 500) (q2 : ∀ i : Int, 0 ≤ i → i < tn → y i = T.getD i.toNat 0) (h66 : cE h 66 (.inr (10, [fI (f 0), .ref 67, .ref 68, .ref 69, fI (f 4), .ref 70, .ref 71, fI (f 7), fI (f 8), .ref 72, fI tn, fI fp, fI a0, fJ sd, fI we, fI nu, fI na, fI rp, .ref 73, .ref 74, .ref 75, .ref 76, .ref 77, .ref 78, fI (f 24), .ref 79, .ref 80, .ref 81, .ref 82, .ref 83, .ref 84, .ref 85, fJ (f 32), fJ (f 33), .ref 86, .ref 87, fI (f 36), .ref 88, .ref 89, .ref 90, .ref 91, .ref 92, .ref 93]))) (h67 : cE h 67 (.inl (.int, fA cn))) (n67 : cn.length = 12) (h68 : cE h 68 (.inl (.int, fA go))) (n68 : go.length = 48) (h69 : cE h 69 (.inl (.int, fA ch))) (n69 : ch.length = 48) (h70 : cE h 70 (.inl (.int, fA [ka, pa, fa, kb, pb, fb]))) (h71 : cE h 71 (.inl (.int, fA [xa, xb]))) (h72 : cE h 72 (.inl (.int, fA T))) (n72 : T.length = 500) (h73 : cE h 73 (.inl (.int, fA M))) (n73 : M.length = 12) (h74 : cE h 74 (.inl (.int, fA Rq))) (n74 : Rq.length = 48) (h75 : cE h 75 (.inl (.int, fA O))) (n75 : O.length = 48) (h76 : cE h 76 (.inl (.int, fA A))) (n76 : A.length = 48) (h90 : cE h 90 (.inl (.int, fA [n0, n1]))) (h93 : cE h 93 (.inl (.boolean, fA [t0, t1]))) (hl : h.length = 94) : ik_F 147 [.ref 66] h (fun rv h' => (∃ (e : Int × Int) (a0' : Int) (sd' : Int) (we' : Int) (nu' : Int) (na' : Int) (rp' : Int) (M' : List Int) (R' : List Int) (O' : List Int) (A' : List Int), rv = [fI (-10 - e.1)] ∧ cE h' 66 (.inr (10, [fI (f 0), .ref 67, .ref 68, .ref 69, fI (f 4), .ref 70, .ref 71, fI (f 7), fI (f 8), .ref 72, fI 0, fI e.2, fI a0', fJ sd', fI we', fI nu', fI na', fI rp', .ref 73, .ref 74, .ref 75, .ref 76, .ref 77, .ref 78, fI (f 24), .ref 79, .ref 80, .ref 81, .ref 82, .ref 83, .ref 84, .ref 85, fJ (f 32), fJ (f 33), .ref 86, .ref 87, fI (f 36), .ref 88, .ref 89, .ref 90, .ref 91, .ref 92, .ref 93])) ∧ cE h' 72 (.inl (.int, fA T)) ∧ T.length = 500 ∧ cE h' 73 (.inl (.int, fA M')) ∧ M'.length = 12 ∧ cE h' 74 (.inl (.int, fA R')) ∧ R'.length = 48 ∧ cE h' 75 (.inl (.int, fA O')) ∧ O'.length = 48 ∧ cE h' 76 (.inl (.int, fA A')) ∧ A'.length = 48 ∧ cE h' 67 (.inl (.int, fA cn)) ∧ cn.length = 12 ∧ cE h' 68 (.inl (.int, fA go)) ∧ go.length = 48 ∧ cE h' 69 (.inl (.int, fA ch)) ∧ ch.length = 48 ∧ cE h' 70 (.inl (.int, fA [ka, pa, fa, kb, pb, fb])) ∧ cE h' 71 (.inl (.int, fA [xa, xb])) ∧ cE h' 90 (.inl (.int, fA [n0, n1])) ∧ cE h' 93 (.inl (.boolean, fA [t0, t1])) ∧ (zall y tn = .inl e) ∧ hfr [66, 67, 68, 69, 70, 71, 72, 73, 74, 75, 76, 90, 93] h h') ∨ (∃ (q : Int × List (List zM)) (a0' : Int) (sd' : Int) (we' : Int) (nu' : Int) (na' : Int) (M' : List Int) (R' : List Int) (O' : List Int) (A' : List Int) (cn' : List Int), rv = [fI q.1] ∧ cE h' 66 (.inr (10, [fI q.1, .ref 67, .ref 68, .ref 69, fI 0, .ref 70, .ref 71, fI 0, fI (f 8), .ref 72, fI 0, fI (-1), fI a0', fJ sd', fI we', fI nu', fI na', fI q.1, .ref 73, .ref 74, .ref 75, .ref 76, .ref 77, .ref 78, fI (f 24), .ref 79, .ref 80, .ref 81, .ref 82, .ref 83, .ref 84, .ref 85, fJ (f 32), fJ (f 33), .ref 86, .ref 87, fI 0, .ref 88, .ref 89, .ref 90, .ref 91, .ref 92, .ref 93])) ∧ cE h' 72 (.inl (.int, fA T)) ∧ T.length = 500 ∧ cE h' 73 (.inl (.int, fA M')) ∧ M'.length = 12 ∧ cE h' 74 (.inl (.int, fA R')) ∧ R'.length = 48 ∧ cE h' 75 (.inl (.int, fA O')) ∧ O'.length = 48 ∧ cE h' 76 (.inl (.int, fA A')) ∧ A'.length = 48 ∧ cE h' 67 (.inl (.int, fA cn')) ∧ cn'.length = 12 ∧ cE h' 68 (.inl (.int, fA R')) ∧ R'.length = 48 ∧ cE h' 69 (.inl (.int, fA O')) ∧ O'.length = 48 ∧ cE h' 70 (.inl (.int, fA [0, 0, 0, 0, 0, 0])) ∧ cE h' 71 (.inl (.int, fA [0, 0])) ∧ cE h' 90 (.inl (.int, fA [0, 0])) ∧ cE h' 93 (.inl (.boolean, fA [0, 0])) ∧ (zall y tn = .inr q) ∧ (zH M' R' O' A' q.2) ∧ (zrows q.2) ∧ (q.1 = 0 ∧ q.2 = [] ∨ q.1 = (q.2.length : Int) + 1) ∧ ((∀ x : Int, 0 ≤ x → x < q.1 - 1 → cn'.getD x.toNat 0 = M'.getD x.toNat 0) ∧ ∀ x : Nat, q.1 - 1 ≤ (x : Int) → cn'.getD x 0 = 0) ∧ hfr [66, 67, 68, 69, 70, 71, 72, 73, 74, 75, 76, 90, 93] h h')) := by
  refine ik_Wk 2 (pc' := 2) (loc' := [some (.ref 66), none, none]) (st' := [fI (-1), .ref 66]) (h' := h) (cl' := 0) (sl' := 0) rfl ?_
  refine fx_pf rfl rfl h66 (Nat.le_of_ble_eq_true rfl) rfl rfl ?_
  intro h_613 e_613 f_613 l_613
  have k_613 := l_613.trans hl
  have fr_613 := hfr_w (hfr_refl [66, 67, 68, 69, 70, 71, 72, 73, 74, 75, 76, 90, 93] h) f_613 l_613 (by decide)
  have g_613_67 := (f_613 67 (by decide)).trans h67
  have g_613_68 := (f_613 68 (by decide)).trans h68
  have g_613_69 := (f_613 69 (by decide)).trans h69
  have g_613_70 := (f_613 70 (by decide)).trans h70
  have g_613_71 := (f_613 71 (by decide)).trans h71
  have g_613_72 := (f_613 72 (by decide)).trans h72
  have g_613_73 := (f_613 73 (by decide)).trans h73
  have g_613_74 := (f_613 74 (by decide)).trans h74
  have g_613_75 := (f_613 75 (by decide)).trans h75
  have g_613_76 := (f_613 76 (by decide)).trans h76
  have g_613_90 := (f_613 90 (by decide)).trans h90
  have g_613_93 := (f_613 93 (by decide)).trans h93
  have g_613_66 : cE h_613 66 (.inr (10, [fI (f 0), .ref 67, .ref 68, .ref 69, fI (f 4), .ref 70, .ref 71, fI (f 7), fI (f 8), .ref 72, fI tn, fI (-1), fI a0, fJ sd, fI we, fI nu, fI na, fI rp, .ref 73, .ref 74, .ref 75, .ref 76, .ref 77, .ref 78, fI (f 24), .ref 79, .ref 80, .ref 81, .ref 82, .ref 83, .ref 84, .ref 85, fJ (f 32), fJ (f 33), .ref 86, .ref 87, fI (f 36), .ref 88, .ref 89, .ref 90, .ref 91, .ref 92, .ref 93])) := e_613
  refine ik_Wk 2 (pc' := 7) (loc' := [some (.ref 66), none, none]) (st' := [fI 0, .ref 66]) (h' := h_613) (cl' := 0) (sl' := 0) rfl ?_
  refine fx_pf rfl rfl g_613_66 (Nat.le_of_ble_eq_true rfl) rfl rfl ?_
  intro h_614 e_614 f_614 l_614
  have k_614 := l_614.trans k_613
  have fr_614 := hfr_w fr_613 f_614 l_614 (by decide)
  have g_614_67 := (f_614 67 (by decide)).trans g_613_67
  have g_614_68 := (f_614 68 (by decide)).trans g_613_68
  have g_614_69 := (f_614 69 (by decide)).trans g_613_69
  have g_614_70 := (f_614 70 (by decide)).trans g_613_70
  have g_614_71 := (f_614 71 (by decide)).trans g_613_71
  have g_614_72 := (f_614 72 (by decide)).trans g_613_72
  have g_614_73 := (f_614 73 (by decide)).trans g_613_73
  have g_614_74 := (f_614 74 (by decide)).trans g_613_74
  have g_614_75 := (f_614 75 (by decide)).trans g_613_75
  have g_614_76 := (f_614 76 (by decide)).trans g_613_76
  have g_614_90 := (f_614 90 (by decide)).trans g_613_90
  have g_614_93 := (f_614 93 (by decide)).trans g_613_93
  have g_614_66 : cE h_614 66 (.inr (10, [fI (f 0), .ref 67, .ref 68, .ref 69, fI (f 4), .ref 70, .ref 71, fI (f 7), fI (f 8), .ref 72, fI tn, fI (-1), fI 0, fJ sd, fI we, fI nu, fI na, fI rp, .ref 73, .ref 74, .ref 75, .ref 76, .ref 77, .ref 78, fI (f 24), .ref 79, .ref 80, .ref 81, .ref 82, .ref 83, .ref 84, .ref 85, fJ (f 32), fJ (f 33), .ref 86, .ref 87, fI (f 36), .ref 88, .ref 89, .ref 90, .ref 91, .ref 92, .ref 93])) := e_614
  refine ik_Wk 2 (pc' := 12) (loc' := [some (.ref 66), none, none]) (st' := [fI 0, .ref 66]) (h' := h_614) (cl' := 0) (sl' := 0) rfl ?_
  refine fx_pf rfl rfl g_614_66 (Nat.le_of_ble_eq_true rfl) rfl rfl ?_
  intro h_615 e_615 f_615 l_615
  have k_615 := l_615.trans k_614
  have fr_615 := hfr_w fr_614 f_615 l_615 (by decide)
  have g_615_67 := (f_615 67 (by decide)).trans g_614_67
  have g_615_68 := (f_615 68 (by decide)).trans g_614_68
  have g_615_69 := (f_615 69 (by decide)).trans g_614_69
  have g_615_70 := (f_615 70 (by decide)).trans g_614_70
  have g_615_71 := (f_615 71 (by decide)).trans g_614_71
  have g_615_72 := (f_615 72 (by decide)).trans g_614_72
  have g_615_73 := (f_615 73 (by decide)).trans g_614_73
  have g_615_74 := (f_615 74 (by decide)).trans g_614_74
  have g_615_75 := (f_615 75 (by decide)).trans g_614_75
  have g_615_76 := (f_615 76 (by decide)).trans g_614_76
  have g_615_90 := (f_615 90 (by decide)).trans g_614_90
  have g_615_93 := (f_615 93 (by decide)).trans g_614_93
  have g_615_66 : cE h_615 66 (.inr (10, [fI (f 0), .ref 67, .ref 68, .ref 69, fI (f 4), .ref 70, .ref 71, fI (f 7), fI (f 8), .ref 72, fI tn, fI (-1), fI 0, fJ sd, fI we, fI nu, fI na, fI 0, .ref 73, .ref 74, .ref 75, .ref 76, .ref 77, .ref 78, fI (f 24), .ref 79, .ref 80, .ref 81, .ref 82, .ref 83, .ref 84, .ref 85, fJ (f 32), fJ (f 33), .ref 86, .ref 87, fI (f 36), .ref 88, .ref 89, .ref 90, .ref 91, .ref 92, .ref 93])) := e_615
  refine ik_Wk 1 (pc' := 16) (loc' := [some (.ref 66), none, none]) (st' := [.ref 66]) (h' := h_615) (cl' := 0) (sl' := 0) rfl ?_
  refine fw_call 145 1 0 [.ref 66] [] rfl rfl rfl (by decide) rfl rfl (fw_rec k_615 rfl g_615_66 rfl (by decide)) (cr_takeAll (f := fun j => ([f 0, 0, 0, 0, f 4, 0, 0, f 7, f 8, 0, 0, 0, 0, 0, 0, 0, 0, 0, 0, 0, 0, 0, 0, 0, f 24, 0, 0, 0, 0, 0, 0, 0, f 32, f 33, 0, 0, f 36, 0, 0, 0, 0, 0, 0] : List Int).getD j 0) (tn := tn) (fp := -1) (sd := sd) (we := we) (nu := nu) (na := na) (ka := ka) (pa := pa) (fa := fa) (kb := kb) (pb := pb) (fb := fb) (xa := xa) (xb := xb) (cn := cn) (go := go) (ch := ch) (T := T) (M := M) (R := Rq) (O := O) (A := A) q0 (by omega) q2 g_615_66 g_615_67 n67 g_615_68 n68 g_615_69 n69 g_615_70 g_615_71 g_615_72 n72 g_615_73 n73 g_615_74 n74 g_615_75 n75 g_615_76 n76 k_615) ?_
  rintro _ h_616 (⟨e_616, a0'_616, sd'_616, we'_616, nu'_616, na'_616, rp'_616, M'_616, R'_616, O'_616, A'_616, rfl, e_616_66, e_616_72, m_616_72, e_616_73, m_616_73, e_616_74, m_616_74, e_616_75, m_616_75, e_616_76, m_616_76, p_616_0, F_616⟩ | ⟨q_616, a0'_616, sd'_616, we'_616, nu'_616, na'_616, M'_616, R'_616, O'_616, A'_616, rfl, e_616_66, e_616_72, m_616_72, e_616_73, m_616_73, e_616_74, m_616_74, e_616_75, m_616_75, e_616_76, m_616_76, p_616_0, p_616_1, p_616_2, p_616_3, F_616⟩)
  · have k_616 := F_616.1.trans k_615
    have fr_616 := hfr_c fr_615 F_616 (by decide)
    have g_616_67 := (F_616.2 67 (by decide +kernel)).trans g_615_67
    have g_616_68 := (F_616.2 68 (by decide +kernel)).trans g_615_68
    have g_616_69 := (F_616.2 69 (by decide +kernel)).trans g_615_69
    have g_616_70 := (F_616.2 70 (by decide +kernel)).trans g_615_70
    have g_616_71 := (F_616.2 71 (by decide +kernel)).trans g_615_71
    have g_616_90 := (F_616.2 90 (by decide +kernel)).trans g_615_90
    have g_616_93 := (F_616.2 93 (by decide +kernel)).trans g_615_93
    have g_616_66 : cE h_616 66 (.inr (10, [fI (f 0), .ref 67, .ref 68, .ref 69, fI (f 4), .ref 70, .ref 71, fI (f 7), fI (f 8), .ref 72, fI tn, fI e_616.2, fI a0'_616, fJ sd'_616, fI we'_616, fI nu'_616, fI na'_616, fI rp'_616, .ref 73, .ref 74, .ref 75, .ref 76, .ref 77, .ref 78, fI (f 24), .ref 79, .ref 80, .ref 81, .ref 82, .ref 83, .ref 84, .ref 85, fJ (f 32), fJ (f 33), .ref 86, .ref 87, fI (f 36), .ref 88, .ref 89, .ref 90, .ref 91, .ref 92, .ref 93])) := e_616_66
    have g_616_72 : cE h_616 72 (.inl (.int, fA T)) := e_616_72
    have g_616_73 : cE h_616 73 (.inl (.int, fA M'_616)) := e_616_73
    have g_616_74 : cE h_616 74 (.inl (.int, fA R'_616)) := e_616_74
    have g_616_75 : cE h_616 75 (.inl (.int, fA O'_616)) := e_616_75
    have g_616_76 : cE h_616 76 (.inl (.int, fA A'_616)) := e_616_76
    refine ik_Wk 0 (pc' := 19) (loc' := [some (.ref 66), none, none]) (st' := [fI e_616.1]) (h' := h_616) (cl' := 0) (sl' := 0) rfl ?_
    have ze_616 := zall_f q1.1 q1.2 p_616_0
    have zb_616 := zall_b q1.1 q1.2 p_616_0
    refine ik_Wk 3 (pc' := 22) (loc' := [some (.ref 66), some (fI e_616.1), none]) (st' := [fI 0, .ref 66]) (h' := h_616) (cl' := 0) (sl' := 0) rfl ?_
    refine fx_pf rfl rfl g_616_66 (Nat.le_of_ble_eq_true rfl) rfl rfl ?_
    intro h_617 e_617 f_617 l_617
    have k_617 := l_617.trans k_616
    have fr_617 := hfr_w fr_616 f_617 l_617 (by decide)
    have g_617_67 := (f_617 67 (by decide)).trans g_616_67
    have g_617_68 := (f_617 68 (by decide)).trans g_616_68
    have g_617_69 := (f_617 69 (by decide)).trans g_616_69
    have g_617_70 := (f_617 70 (by decide)).trans g_616_70
    have g_617_71 := (f_617 71 (by decide)).trans g_616_71
    have g_617_72 := (f_617 72 (by decide)).trans g_616_72
    have g_617_73 := (f_617 73 (by decide)).trans g_616_73
    have g_617_74 := (f_617 74 (by decide)).trans g_616_74
    have g_617_75 := (f_617 75 (by decide)).trans g_616_75
    have g_617_76 := (f_617 76 (by decide)).trans g_616_76
    have g_617_90 := (f_617 90 (by decide)).trans g_616_90
    have g_617_93 := (f_617 93 (by decide)).trans g_616_93
    have g_617_66 : cE h_617 66 (.inr (10, [fI (f 0), .ref 67, .ref 68, .ref 69, fI (f 4), .ref 70, .ref 71, fI (f 7), fI (f 8), .ref 72, fI 0, fI e_616.2, fI a0'_616, fJ sd'_616, fI we'_616, fI nu'_616, fI na'_616, fI rp'_616, .ref 73, .ref 74, .ref 75, .ref 76, .ref 77, .ref 78, fI (f 24), .ref 79, .ref 80, .ref 81, .ref 82, .ref 83, .ref 84, .ref 85, fJ (f 32), fJ (f 33), .ref 86, .ref 87, fI (f 36), .ref 88, .ref 89, .ref 90, .ref 91, .ref 92, .ref 93])) := e_617
    refine ik_Wk 1 (pc' := 26) (loc' := [some (.ref 66), some (fI e_616.1), none]) (st' := [fI e_616.1]) (h' := h_617) (cl' := 0) (sl' := 0) rfl ?_
    refine fw_if_le rfl rfl (by omega) (by omega) (fun hc1 => absurd hc1 (by omega)) (fun hc1 => ?_)
    refine fw_bi rfl (by decide) ?_
    refine ik_Wk 1 (pc' := 32) (loc' := [some (.ref 66), some (fI e_616.1), none]) (st' := [fI e_616.1, fI (-10)]) (h' := h_617) (cl' := 0) (sl' := 0) rfl ?_
    refine fw_sub rfl ?_
    exact ik_Wret rfl rfl ⟨_, _, rfl, rfl, rfl, rfl, Or.inl ⟨e_616, a0'_616, sd'_616, we'_616, nu'_616, na'_616, rp'_616, M'_616, R'_616, O'_616, A'_616, rfl, g_617_66, g_617_72, m_616_72, g_617_73, m_616_73, g_617_74, m_616_74, g_617_75, m_616_75, g_617_76, m_616_76, g_617_67, n67, g_617_68, n68, g_617_69, n69, g_617_70, g_617_71, g_617_90, g_617_93, p_616_0, fr_617⟩⟩
  · have k_616 := F_616.1.trans k_615
    have fr_616 := hfr_c fr_615 F_616 (by decide)
    have g_616_67 := (F_616.2 67 (by decide +kernel)).trans g_615_67
    have g_616_68 := (F_616.2 68 (by decide +kernel)).trans g_615_68
    have g_616_69 := (F_616.2 69 (by decide +kernel)).trans g_615_69
    have g_616_70 := (F_616.2 70 (by decide +kernel)).trans g_615_70
    have g_616_71 := (F_616.2 71 (by decide +kernel)).trans g_615_71
    have g_616_90 := (F_616.2 90 (by decide +kernel)).trans g_615_90
    have g_616_93 := (F_616.2 93 (by decide +kernel)).trans g_615_93
    have g_616_66 : cE h_616 66 (.inr (10, [fI (f 0), .ref 67, .ref 68, .ref 69, fI (f 4), .ref 70, .ref 71, fI (f 7), fI (f 8), .ref 72, fI tn, fI (-1), fI a0'_616, fJ sd'_616, fI we'_616, fI nu'_616, fI na'_616, fI q_616.1, .ref 73, .ref 74, .ref 75, .ref 76, .ref 77, .ref 78, fI (f 24), .ref 79, .ref 80, .ref 81, .ref 82, .ref 83, .ref 84, .ref 85, fJ (f 32), fJ (f 33), .ref 86, .ref 87, fI (f 36), .ref 88, .ref 89, .ref 90, .ref 91, .ref 92, .ref 93])) := e_616_66
    have g_616_72 : cE h_616 72 (.inl (.int, fA T)) := e_616_72
    have g_616_73 : cE h_616 73 (.inl (.int, fA M'_616)) := e_616_73
    have g_616_74 : cE h_616 74 (.inl (.int, fA R'_616)) := e_616_74
    have g_616_75 : cE h_616 75 (.inl (.int, fA O'_616)) := e_616_75
    have g_616_76 : cE h_616 76 (.inl (.int, fA A'_616)) := e_616_76
    refine ik_Wk 0 (pc' := 19) (loc' := [some (.ref 66), none, none]) (st' := [fI 0]) (h' := h_616) (cl' := 0) (sl' := 0) rfl ?_
    have hq_616 := zq_pl p_616_2 p_616_3
    refine ik_Wk 3 (pc' := 22) (loc' := [some (.ref 66), some (fI 0), none]) (st' := [fI 0, .ref 66]) (h' := h_616) (cl' := 0) (sl' := 0) rfl ?_
    refine fx_pf rfl rfl g_616_66 (Nat.le_of_ble_eq_true rfl) rfl rfl ?_
    intro h_618 e_618 f_618 l_618
    have k_618 := l_618.trans k_616
    have fr_618 := hfr_w fr_616 f_618 l_618 (by decide)
    have g_618_67 := (f_618 67 (by decide)).trans g_616_67
    have g_618_68 := (f_618 68 (by decide)).trans g_616_68
    have g_618_69 := (f_618 69 (by decide)).trans g_616_69
    have g_618_70 := (f_618 70 (by decide)).trans g_616_70
    have g_618_71 := (f_618 71 (by decide)).trans g_616_71
    have g_618_72 := (f_618 72 (by decide)).trans g_616_72
    have g_618_73 := (f_618 73 (by decide)).trans g_616_73
    have g_618_74 := (f_618 74 (by decide)).trans g_616_74
    have g_618_75 := (f_618 75 (by decide)).trans g_616_75
    have g_618_76 := (f_618 76 (by decide)).trans g_616_76
    have g_618_90 := (f_618 90 (by decide)).trans g_616_90
    have g_618_93 := (f_618 93 (by decide)).trans g_616_93
    have g_618_66 : cE h_618 66 (.inr (10, [fI (f 0), .ref 67, .ref 68, .ref 69, fI (f 4), .ref 70, .ref 71, fI (f 7), fI (f 8), .ref 72, fI 0, fI (-1), fI a0'_616, fJ sd'_616, fI we'_616, fI nu'_616, fI na'_616, fI q_616.1, .ref 73, .ref 74, .ref 75, .ref 76, .ref 77, .ref 78, fI (f 24), .ref 79, .ref 80, .ref 81, .ref 82, .ref 83, .ref 84, .ref 85, fJ (f 32), fJ (f 33), .ref 86, .ref 87, fI (f 36), .ref 88, .ref 89, .ref 90, .ref 91, .ref 92, .ref 93])) := e_618
    refine ik_Wk 1 (pc' := 26) (loc' := [some (.ref 66), some (fI 0), none]) (st' := [fI 0]) (h' := h_618) (cl' := 0) (sl' := 0) rfl ?_
    refine fw_if_le rfl rfl (by omega) (by omega) (fun hc2 => ?_) (fun hc2 => absurd hc2 (by omega))
    refine ik_Wk 2 (pc' := 36) (loc' := [some (.ref 66), some (fI 0), none]) (st' := [.ref 66, .ref 66]) (h' := h_618) (cl' := 0) (sl' := 0) rfl ?_
    refine fw_gf rfl rfl g_618_66 rfl ?_
    refine fx_pf rfl rfl g_618_66 (Nat.le_of_ble_eq_true rfl) rfl rfl ?_
    intro h_619 e_619 f_619 l_619
    have k_619 := l_619.trans k_618
    have fr_619 := hfr_w fr_618 f_619 l_619 (by decide)
    have g_619_67 := (f_619 67 (by decide)).trans g_618_67
    have g_619_68 := (f_619 68 (by decide)).trans g_618_68
    have g_619_69 := (f_619 69 (by decide)).trans g_618_69
    have g_619_70 := (f_619 70 (by decide)).trans g_618_70
    have g_619_71 := (f_619 71 (by decide)).trans g_618_71
    have g_619_72 := (f_619 72 (by decide)).trans g_618_72
    have g_619_73 := (f_619 73 (by decide)).trans g_618_73
    have g_619_74 := (f_619 74 (by decide)).trans g_618_74
    have g_619_75 := (f_619 75 (by decide)).trans g_618_75
    have g_619_76 := (f_619 76 (by decide)).trans g_618_76
    have g_619_90 := (f_619 90 (by decide)).trans g_618_90
    have g_619_93 := (f_619 93 (by decide)).trans g_618_93
    have g_619_66 : cE h_619 66 (.inr (10, [fI q_616.1, .ref 67, .ref 68, .ref 69, fI (f 4), .ref 70, .ref 71, fI (f 7), fI (f 8), .ref 72, fI 0, fI (-1), fI a0'_616, fJ sd'_616, fI we'_616, fI nu'_616, fI na'_616, fI q_616.1, .ref 73, .ref 74, .ref 75, .ref 76, .ref 77, .ref 78, fI (f 24), .ref 79, .ref 80, .ref 81, .ref 82, .ref 83, .ref 84, .ref 85, fJ (f 32), fJ (f 33), .ref 86, .ref 87, fI (f 36), .ref 88, .ref 89, .ref 90, .ref 91, .ref 92, .ref 93])) := e_619
    refine ik_Wk 2 (pc' := 44) (loc' := [some (.ref 66), some (fI 0), some (fI 0)]) (st' := []) (h' := h_619) (cl' := 0) (sl' := 0) rfl ?_
    refine rp_streamM (f := f) (tn := tn) (fp := fp) (a0 := a0) (sd := sd) (we := we) (nu := nu) (na := na) (rp := rp) (ka := ka) (pa := pa) (fa := fa) (kb := kb) (pb := pb) (fb := fb) (xa := xa) (xb := xb) (cn := cn) (go := go) (ch := ch) (T := T) (M := M) (Rq := Rq) (O := O) (A := A) (y := y) (n0 := n0) (n1 := n1) (t0 := t0) (t1 := t1) q0 q1 q2 q_616 a0'_616 sd'_616 we'_616 nu'_616 na'_616 M'_616 R'_616 O'_616 A'_616 (R := (fun rv h' => (∃ (e : Int × Int) (a0' : Int) (sd' : Int) (we' : Int) (nu' : Int) (na' : Int) (rp' : Int) (M' : List Int) (R' : List Int) (O' : List Int) (A' : List Int), rv = [fI (-10 - e.1)] ∧ cE h' 66 (.inr (10, [fI (f 0), .ref 67, .ref 68, .ref 69, fI (f 4), .ref 70, .ref 71, fI (f 7), fI (f 8), .ref 72, fI 0, fI e.2, fI a0', fJ sd', fI we', fI nu', fI na', fI rp', .ref 73, .ref 74, .ref 75, .ref 76, .ref 77, .ref 78, fI (f 24), .ref 79, .ref 80, .ref 81, .ref 82, .ref 83, .ref 84, .ref 85, fJ (f 32), fJ (f 33), .ref 86, .ref 87, fI (f 36), .ref 88, .ref 89, .ref 90, .ref 91, .ref 92, .ref 93])) ∧ cE h' 72 (.inl (.int, fA T)) ∧ T.length = 500 ∧ cE h' 73 (.inl (.int, fA M')) ∧ M'.length = 12 ∧ cE h' 74 (.inl (.int, fA R')) ∧ R'.length = 48 ∧ cE h' 75 (.inl (.int, fA O')) ∧ O'.length = 48 ∧ cE h' 76 (.inl (.int, fA A')) ∧ A'.length = 48 ∧ cE h' 67 (.inl (.int, fA cn)) ∧ cn.length = 12 ∧ cE h' 68 (.inl (.int, fA go)) ∧ go.length = 48 ∧ cE h' 69 (.inl (.int, fA ch)) ∧ ch.length = 48 ∧ cE h' 70 (.inl (.int, fA [ka, pa, fa, kb, pb, fb])) ∧ cE h' 71 (.inl (.int, fA [xa, xb])) ∧ cE h' 90 (.inl (.int, fA [n0, n1])) ∧ cE h' 93 (.inl (.boolean, fA [t0, t1])) ∧ (zall y tn = .inl e) ∧ hfr [66, 67, 68, 69, 70, 71, 72, 73, 74, 75, 76, 90, 93] h h') ∨ (∃ (q : Int × List (List zM)) (a0' : Int) (sd' : Int) (we' : Int) (nu' : Int) (na' : Int) (M' : List Int) (R' : List Int) (O' : List Int) (A' : List Int) (cn' : List Int), rv = [fI q.1] ∧ cE h' 66 (.inr (10, [fI q.1, .ref 67, .ref 68, .ref 69, fI 0, .ref 70, .ref 71, fI 0, fI (f 8), .ref 72, fI 0, fI (-1), fI a0', fJ sd', fI we', fI nu', fI na', fI q.1, .ref 73, .ref 74, .ref 75, .ref 76, .ref 77, .ref 78, fI (f 24), .ref 79, .ref 80, .ref 81, .ref 82, .ref 83, .ref 84, .ref 85, fJ (f 32), fJ (f 33), .ref 86, .ref 87, fI 0, .ref 88, .ref 89, .ref 90, .ref 91, .ref 92, .ref 93])) ∧ cE h' 72 (.inl (.int, fA T)) ∧ T.length = 500 ∧ cE h' 73 (.inl (.int, fA M')) ∧ M'.length = 12 ∧ cE h' 74 (.inl (.int, fA R')) ∧ R'.length = 48 ∧ cE h' 75 (.inl (.int, fA O')) ∧ O'.length = 48 ∧ cE h' 76 (.inl (.int, fA A')) ∧ A'.length = 48 ∧ cE h' 67 (.inl (.int, fA cn')) ∧ cn'.length = 12 ∧ cE h' 68 (.inl (.int, fA R')) ∧ R'.length = 48 ∧ cE h' 69 (.inl (.int, fA O')) ∧ O'.length = 48 ∧ cE h' 70 (.inl (.int, fA [0, 0, 0, 0, 0, 0])) ∧ cE h' 71 (.inl (.int, fA [0, 0])) ∧ cE h' 90 (.inl (.int, fA [0, 0])) ∧ cE h' 93 (.inl (.boolean, fA [0, 0])) ∧ (zall y tn = .inr q) ∧ (zH M' R' O' A' q.2) ∧ (zrows q.2) ∧ (q.1 = 0 ∧ q.2 = [] ∨ q.1 = (q.2.length : Int) + 1) ∧ ((∀ x : Int, 0 ≤ x → x < q.1 - 1 → cn'.getD x.toNat 0 = M'.getD x.toNat 0) ∧ ∀ x : Nat, q.1 - 1 ≤ (x : Int) → cn'.getD x 0 = 0) ∧ hfr [66, 67, 68, 69, 70, 71, 72, 73, 74, 75, 76, 90, 93] h h'))) (fun h_620 i2_620 g_620_66 g_620_67 m_620_67 g_620_68 m_620_68 g_620_69 m_620_69 g_620_70 g_620_71 g_620_72 m_620_72 g_620_73 m_620_73 g_620_74 m_620_74 g_620_75 m_620_75 g_620_76 m_620_76 g_620_90 g_620_93 k_620 fr_620 => ?_) 49 0 go ch h_619 g_619_66 g_619_67 n67 g_619_68 n68 g_619_69 n69 g_619_70 g_619_71 g_619_72 m_616_72 g_619_73 m_616_73 g_619_74 m_616_74 g_619_75 m_616_75 g_619_76 m_616_76 g_619_90 g_619_93 k_619 fr_619 (by omega) (fun j hj => absurd hj (by omega)) (fun j hj => absurd hj (by omega)) (by omega)
    refine ik_Wk 2 (pc' := 82) (loc' := [some (.ref 66), some (fI 0), some (fI 0)]) (st' := []) (h' := h_620) (cl' := 0) (sl' := 0) rfl ?_
    refine rp_streamN (f := f) (tn := tn) (fp := fp) (a0 := a0) (sd := sd) (we := we) (nu := nu) (na := na) (rp := rp) (ka := ka) (pa := pa) (fa := fa) (kb := kb) (pb := pb) (fb := fb) (xa := xa) (xb := xb) (cn := cn) (go := go) (ch := ch) (T := T) (M := M) (Rq := Rq) (O := O) (A := A) (y := y) (n0 := n0) (n1 := n1) (t0 := t0) (t1 := t1) q0 q1 q2 q_616 a0'_616 sd'_616 we'_616 nu'_616 na'_616 M'_616 R'_616 O'_616 A'_616 hq_616 (R := (fun rv h' => (∃ (e : Int × Int) (a0' : Int) (sd' : Int) (we' : Int) (nu' : Int) (na' : Int) (rp' : Int) (M' : List Int) (R' : List Int) (O' : List Int) (A' : List Int), rv = [fI (-10 - e.1)] ∧ cE h' 66 (.inr (10, [fI (f 0), .ref 67, .ref 68, .ref 69, fI (f 4), .ref 70, .ref 71, fI (f 7), fI (f 8), .ref 72, fI 0, fI e.2, fI a0', fJ sd', fI we', fI nu', fI na', fI rp', .ref 73, .ref 74, .ref 75, .ref 76, .ref 77, .ref 78, fI (f 24), .ref 79, .ref 80, .ref 81, .ref 82, .ref 83, .ref 84, .ref 85, fJ (f 32), fJ (f 33), .ref 86, .ref 87, fI (f 36), .ref 88, .ref 89, .ref 90, .ref 91, .ref 92, .ref 93])) ∧ cE h' 72 (.inl (.int, fA T)) ∧ T.length = 500 ∧ cE h' 73 (.inl (.int, fA M')) ∧ M'.length = 12 ∧ cE h' 74 (.inl (.int, fA R')) ∧ R'.length = 48 ∧ cE h' 75 (.inl (.int, fA O')) ∧ O'.length = 48 ∧ cE h' 76 (.inl (.int, fA A')) ∧ A'.length = 48 ∧ cE h' 67 (.inl (.int, fA cn)) ∧ cn.length = 12 ∧ cE h' 68 (.inl (.int, fA go)) ∧ go.length = 48 ∧ cE h' 69 (.inl (.int, fA ch)) ∧ ch.length = 48 ∧ cE h' 70 (.inl (.int, fA [ka, pa, fa, kb, pb, fb])) ∧ cE h' 71 (.inl (.int, fA [xa, xb])) ∧ cE h' 90 (.inl (.int, fA [n0, n1])) ∧ cE h' 93 (.inl (.boolean, fA [t0, t1])) ∧ (zall y tn = .inl e) ∧ hfr [66, 67, 68, 69, 70, 71, 72, 73, 74, 75, 76, 90, 93] h h') ∨ (∃ (q : Int × List (List zM)) (a0' : Int) (sd' : Int) (we' : Int) (nu' : Int) (na' : Int) (M' : List Int) (R' : List Int) (O' : List Int) (A' : List Int) (cn' : List Int), rv = [fI q.1] ∧ cE h' 66 (.inr (10, [fI q.1, .ref 67, .ref 68, .ref 69, fI 0, .ref 70, .ref 71, fI 0, fI (f 8), .ref 72, fI 0, fI (-1), fI a0', fJ sd', fI we', fI nu', fI na', fI q.1, .ref 73, .ref 74, .ref 75, .ref 76, .ref 77, .ref 78, fI (f 24), .ref 79, .ref 80, .ref 81, .ref 82, .ref 83, .ref 84, .ref 85, fJ (f 32), fJ (f 33), .ref 86, .ref 87, fI 0, .ref 88, .ref 89, .ref 90, .ref 91, .ref 92, .ref 93])) ∧ cE h' 72 (.inl (.int, fA T)) ∧ T.length = 500 ∧ cE h' 73 (.inl (.int, fA M')) ∧ M'.length = 12 ∧ cE h' 74 (.inl (.int, fA R')) ∧ R'.length = 48 ∧ cE h' 75 (.inl (.int, fA O')) ∧ O'.length = 48 ∧ cE h' 76 (.inl (.int, fA A')) ∧ A'.length = 48 ∧ cE h' 67 (.inl (.int, fA cn')) ∧ cn'.length = 12 ∧ cE h' 68 (.inl (.int, fA R')) ∧ R'.length = 48 ∧ cE h' 69 (.inl (.int, fA O')) ∧ O'.length = 48 ∧ cE h' 70 (.inl (.int, fA [0, 0, 0, 0, 0, 0])) ∧ cE h' 71 (.inl (.int, fA [0, 0])) ∧ cE h' 90 (.inl (.int, fA [0, 0])) ∧ cE h' 93 (.inl (.boolean, fA [0, 0])) ∧ (zall y tn = .inr q) ∧ (zH M' R' O' A' q.2) ∧ (zrows q.2) ∧ (q.1 = 0 ∧ q.2 = [] ∨ q.1 = (q.2.length : Int) + 1) ∧ ((∀ x : Int, 0 ≤ x → x < q.1 - 1 → cn'.getD x.toNat 0 = M'.getD x.toNat 0) ∧ ∀ x : Nat, q.1 - 1 ≤ (x : Int) → cn'.getD x 0 = 0) ∧ hfr [66, 67, 68, 69, 70, 71, 72, 73, 74, 75, 76, 90, 93] h h'))) (fun h_621 i2_621 c2_621 g_621_66 g_621_67 m_621_67 g_621_68 m_621_68 g_621_69 m_621_69 g_621_70 g_621_71 g_621_72 m_621_72 g_621_73 m_621_73 g_621_74 m_621_74 g_621_75 m_621_75 g_621_76 m_621_76 g_621_90 g_621_93 k_621 fr_621 hm_621 => ?_) 13 0 cn h_620 g_620_66 g_620_67 m_620_67 g_620_68 m_620_68 g_620_69 m_620_69 g_620_70 g_620_71 g_620_72 m_620_72 g_620_73 m_620_73 g_620_74 m_620_74 g_620_75 m_620_75 g_620_76 m_620_76 g_620_90 g_620_93 k_620 fr_620 (by omega) (fun j hj => absurd hj (by omega)) (by omega)
    refine ik_Wk 3 (pc' := 123) (loc' := [some (.ref 66), some (fI 0), some (fI 0)]) (st' := [fI 0]) (h' := h_621) (cl' := 0) (sl' := 0) rfl ?_
    refine fw_bi rfl (by decide) ?_
    refine fw_ic_ge rfl rfl (by omega) (by omega) (by omega) (by omega) (fun hc3 => absurd hc3 (by omega)) (fun hc3 => ?_)
    refine ik_Wk 1 (pc' := 129) (loc' := [some (.ref 66), some (fI 0), some (fI 0)]) (st' := [.ref 66]) (h' := h_621) (cl' := 0) (sl' := 0) rfl ?_
    refine fw_gf rfl rfl g_621_66 rfl ?_
    refine ik_Wk 2 (pc' := 134) (loc' := [some (.ref 66), some (fI 0), some (fI 0)]) (st' := [fI 0, fI 0, .ref 70]) (h' := h_621) (cl' := 0) (sl' := 0) rfl ?_
    refine fx_ias (z := 0) rfl g_621_70 (by decide) (Nat.le_of_ble_eq_true rfl) (by decide) ?_
    intro h_622 e_622 f_622 l_622
    have k_622 := l_622.trans k_621
    have fr_622 := hfr_w fr_621 f_622 l_622 (by decide)
    have g_622_66 := (f_622 66 (by decide)).trans g_621_66
    have g_622_67 := (f_622 67 (by decide)).trans g_621_67
    have g_622_68 := (f_622 68 (by decide)).trans g_621_68
    have g_622_69 := (f_622 69 (by decide)).trans g_621_69
    have g_622_71 := (f_622 71 (by decide)).trans g_621_71
    have g_622_72 := (f_622 72 (by decide)).trans g_621_72
    have g_622_73 := (f_622 73 (by decide)).trans g_621_73
    have g_622_74 := (f_622 74 (by decide)).trans g_621_74
    have g_622_75 := (f_622 75 (by decide)).trans g_621_75
    have g_622_76 := (f_622 76 (by decide)).trans g_621_76
    have g_622_90 := (f_622 90 (by decide)).trans g_621_90
    have g_622_93 := (f_622 93 (by decide)).trans g_621_93
    have g_622_70 : cE h_622 70 (.inl (.int, fA [0, pa, fa, kb, pb, fb])) := e_622
    refine fw_inc (a := 0) (loc' := [some (.ref 66), some (fI 0), some (fI 1)]) rfl rfl (Nat.le_of_ble_eq_true rfl) rfl ?_
    refine ik_Wk 2 (pc' := 123) (loc' := [some (.ref 66), some (fI 0), some (fI 1)]) (st' := [fI 1]) (h' := h_622) (cl' := 0) (sl' := 0) rfl ?_
    refine fw_bi rfl (by decide) ?_
    refine fw_ic_ge rfl rfl (by omega) (by omega) (by omega) (by omega) (fun hc4 => absurd hc4 (by omega)) (fun hc4 => ?_)
    refine ik_Wk 1 (pc' := 129) (loc' := [some (.ref 66), some (fI 0), some (fI 1)]) (st' := [.ref 66]) (h' := h_622) (cl' := 0) (sl' := 0) rfl ?_
    refine fw_gf rfl rfl g_622_66 rfl ?_
    refine ik_Wk 2 (pc' := 134) (loc' := [some (.ref 66), some (fI 0), some (fI 1)]) (st' := [fI 0, fI 1, .ref 70]) (h' := h_622) (cl' := 0) (sl' := 0) rfl ?_
    refine fx_ias (z := 1) rfl g_622_70 (by decide) (Nat.le_of_ble_eq_true rfl) (by decide) ?_
    intro h_623 e_623 f_623 l_623
    have k_623 := l_623.trans k_622
    have fr_623 := hfr_w fr_622 f_623 l_623 (by decide)
    have g_623_66 := (f_623 66 (by decide)).trans g_622_66
    have g_623_67 := (f_623 67 (by decide)).trans g_622_67
    have g_623_68 := (f_623 68 (by decide)).trans g_622_68
    have g_623_69 := (f_623 69 (by decide)).trans g_622_69
    have g_623_71 := (f_623 71 (by decide)).trans g_622_71
    have g_623_72 := (f_623 72 (by decide)).trans g_622_72
    have g_623_73 := (f_623 73 (by decide)).trans g_622_73
    have g_623_74 := (f_623 74 (by decide)).trans g_622_74
    have g_623_75 := (f_623 75 (by decide)).trans g_622_75
    have g_623_76 := (f_623 76 (by decide)).trans g_622_76
    have g_623_90 := (f_623 90 (by decide)).trans g_622_90
    have g_623_93 := (f_623 93 (by decide)).trans g_622_93
    have g_623_70 : cE h_623 70 (.inl (.int, fA [0, 0, fa, kb, pb, fb])) := e_623
    refine fw_inc (a := 1) (loc' := [some (.ref 66), some (fI 0), some (fI 2)]) rfl rfl (Nat.le_of_ble_eq_true rfl) rfl ?_
    refine ik_Wk 2 (pc' := 123) (loc' := [some (.ref 66), some (fI 0), some (fI 2)]) (st' := [fI 2]) (h' := h_623) (cl' := 0) (sl' := 0) rfl ?_
    refine fw_bi rfl (by decide) ?_
    refine fw_ic_ge rfl rfl (by omega) (by omega) (by omega) (by omega) (fun hc5 => absurd hc5 (by omega)) (fun hc5 => ?_)
    refine ik_Wk 1 (pc' := 129) (loc' := [some (.ref 66), some (fI 0), some (fI 2)]) (st' := [.ref 66]) (h' := h_623) (cl' := 0) (sl' := 0) rfl ?_
    refine fw_gf rfl rfl g_623_66 rfl ?_
    refine ik_Wk 2 (pc' := 134) (loc' := [some (.ref 66), some (fI 0), some (fI 2)]) (st' := [fI 0, fI 2, .ref 70]) (h' := h_623) (cl' := 0) (sl' := 0) rfl ?_
    refine fx_ias (z := 2) rfl g_623_70 (by decide) (Nat.le_of_ble_eq_true rfl) (by decide) ?_
    intro h_624 e_624 f_624 l_624
    have k_624 := l_624.trans k_623
    have fr_624 := hfr_w fr_623 f_624 l_624 (by decide)
    have g_624_66 := (f_624 66 (by decide)).trans g_623_66
    have g_624_67 := (f_624 67 (by decide)).trans g_623_67
    have g_624_68 := (f_624 68 (by decide)).trans g_623_68
    have g_624_69 := (f_624 69 (by decide)).trans g_623_69
    have g_624_71 := (f_624 71 (by decide)).trans g_623_71
    have g_624_72 := (f_624 72 (by decide)).trans g_623_72
    have g_624_73 := (f_624 73 (by decide)).trans g_623_73
    have g_624_74 := (f_624 74 (by decide)).trans g_623_74
    have g_624_75 := (f_624 75 (by decide)).trans g_623_75
    have g_624_76 := (f_624 76 (by decide)).trans g_623_76
    have g_624_90 := (f_624 90 (by decide)).trans g_623_90
    have g_624_93 := (f_624 93 (by decide)).trans g_623_93
    have g_624_70 : cE h_624 70 (.inl (.int, fA [0, 0, 0, kb, pb, fb])) := e_624
    refine fw_inc (a := 2) (loc' := [some (.ref 66), some (fI 0), some (fI 3)]) rfl rfl (Nat.le_of_ble_eq_true rfl) rfl ?_
    refine ik_Wk 2 (pc' := 123) (loc' := [some (.ref 66), some (fI 0), some (fI 3)]) (st' := [fI 3]) (h' := h_624) (cl' := 0) (sl' := 0) rfl ?_
    refine fw_bi rfl (by decide) ?_
    refine fw_ic_ge rfl rfl (by omega) (by omega) (by omega) (by omega) (fun hc6 => absurd hc6 (by omega)) (fun hc6 => ?_)
    refine ik_Wk 1 (pc' := 129) (loc' := [some (.ref 66), some (fI 0), some (fI 3)]) (st' := [.ref 66]) (h' := h_624) (cl' := 0) (sl' := 0) rfl ?_
    refine fw_gf rfl rfl g_624_66 rfl ?_
    refine ik_Wk 2 (pc' := 134) (loc' := [some (.ref 66), some (fI 0), some (fI 3)]) (st' := [fI 0, fI 3, .ref 70]) (h' := h_624) (cl' := 0) (sl' := 0) rfl ?_
    refine fx_ias (z := 3) rfl g_624_70 (by decide) (Nat.le_of_ble_eq_true rfl) (by decide) ?_
    intro h_625 e_625 f_625 l_625
    have k_625 := l_625.trans k_624
    have fr_625 := hfr_w fr_624 f_625 l_625 (by decide)
    have g_625_66 := (f_625 66 (by decide)).trans g_624_66
    have g_625_67 := (f_625 67 (by decide)).trans g_624_67
    have g_625_68 := (f_625 68 (by decide)).trans g_624_68
    have g_625_69 := (f_625 69 (by decide)).trans g_624_69
    have g_625_71 := (f_625 71 (by decide)).trans g_624_71
    have g_625_72 := (f_625 72 (by decide)).trans g_624_72
    have g_625_73 := (f_625 73 (by decide)).trans g_624_73
    have g_625_74 := (f_625 74 (by decide)).trans g_624_74
    have g_625_75 := (f_625 75 (by decide)).trans g_624_75
    have g_625_76 := (f_625 76 (by decide)).trans g_624_76
    have g_625_90 := (f_625 90 (by decide)).trans g_624_90
    have g_625_93 := (f_625 93 (by decide)).trans g_624_93
    have g_625_70 : cE h_625 70 (.inl (.int, fA [0, 0, 0, 0, pb, fb])) := e_625
    refine fw_inc (a := 3) (loc' := [some (.ref 66), some (fI 0), some (fI 4)]) rfl rfl (Nat.le_of_ble_eq_true rfl) rfl ?_
    refine ik_Wk 2 (pc' := 123) (loc' := [some (.ref 66), some (fI 0), some (fI 4)]) (st' := [fI 4]) (h' := h_625) (cl' := 0) (sl' := 0) rfl ?_
    refine fw_bi rfl (by decide) ?_
    refine fw_ic_ge rfl rfl (by omega) (by omega) (by omega) (by omega) (fun hc7 => absurd hc7 (by omega)) (fun hc7 => ?_)
    refine ik_Wk 1 (pc' := 129) (loc' := [some (.ref 66), some (fI 0), some (fI 4)]) (st' := [.ref 66]) (h' := h_625) (cl' := 0) (sl' := 0) rfl ?_
    refine fw_gf rfl rfl g_625_66 rfl ?_
    refine ik_Wk 2 (pc' := 134) (loc' := [some (.ref 66), some (fI 0), some (fI 4)]) (st' := [fI 0, fI 4, .ref 70]) (h' := h_625) (cl' := 0) (sl' := 0) rfl ?_
    refine fx_ias (z := 4) rfl g_625_70 (by decide) (Nat.le_of_ble_eq_true rfl) (by decide) ?_
    intro h_626 e_626 f_626 l_626
    have k_626 := l_626.trans k_625
    have fr_626 := hfr_w fr_625 f_626 l_626 (by decide)
    have g_626_66 := (f_626 66 (by decide)).trans g_625_66
    have g_626_67 := (f_626 67 (by decide)).trans g_625_67
    have g_626_68 := (f_626 68 (by decide)).trans g_625_68
    have g_626_69 := (f_626 69 (by decide)).trans g_625_69
    have g_626_71 := (f_626 71 (by decide)).trans g_625_71
    have g_626_72 := (f_626 72 (by decide)).trans g_625_72
    have g_626_73 := (f_626 73 (by decide)).trans g_625_73
    have g_626_74 := (f_626 74 (by decide)).trans g_625_74
    have g_626_75 := (f_626 75 (by decide)).trans g_625_75
    have g_626_76 := (f_626 76 (by decide)).trans g_625_76
    have g_626_90 := (f_626 90 (by decide)).trans g_625_90
    have g_626_93 := (f_626 93 (by decide)).trans g_625_93
    have g_626_70 : cE h_626 70 (.inl (.int, fA [0, 0, 0, 0, 0, fb])) := e_626
    refine fw_inc (a := 4) (loc' := [some (.ref 66), some (fI 0), some (fI 5)]) rfl rfl (Nat.le_of_ble_eq_true rfl) rfl ?_
    refine ik_Wk 2 (pc' := 123) (loc' := [some (.ref 66), some (fI 0), some (fI 5)]) (st' := [fI 5]) (h' := h_626) (cl' := 0) (sl' := 0) rfl ?_
    refine fw_bi rfl (by decide) ?_
    refine fw_ic_ge rfl rfl (by omega) (by omega) (by omega) (by omega) (fun hc8 => absurd hc8 (by omega)) (fun hc8 => ?_)
    refine ik_Wk 1 (pc' := 129) (loc' := [some (.ref 66), some (fI 0), some (fI 5)]) (st' := [.ref 66]) (h' := h_626) (cl' := 0) (sl' := 0) rfl ?_
    refine fw_gf rfl rfl g_626_66 rfl ?_
    refine ik_Wk 2 (pc' := 134) (loc' := [some (.ref 66), some (fI 0), some (fI 5)]) (st' := [fI 0, fI 5, .ref 70]) (h' := h_626) (cl' := 0) (sl' := 0) rfl ?_
    refine fx_ias (z := 5) rfl g_626_70 (by decide) (Nat.le_of_ble_eq_true rfl) (by decide) ?_
    intro h_627 e_627 f_627 l_627
    have k_627 := l_627.trans k_626
    have fr_627 := hfr_w fr_626 f_627 l_627 (by decide)
    have g_627_66 := (f_627 66 (by decide)).trans g_626_66
    have g_627_67 := (f_627 67 (by decide)).trans g_626_67
    have g_627_68 := (f_627 68 (by decide)).trans g_626_68
    have g_627_69 := (f_627 69 (by decide)).trans g_626_69
    have g_627_71 := (f_627 71 (by decide)).trans g_626_71
    have g_627_72 := (f_627 72 (by decide)).trans g_626_72
    have g_627_73 := (f_627 73 (by decide)).trans g_626_73
    have g_627_74 := (f_627 74 (by decide)).trans g_626_74
    have g_627_75 := (f_627 75 (by decide)).trans g_626_75
    have g_627_76 := (f_627 76 (by decide)).trans g_626_76
    have g_627_90 := (f_627 90 (by decide)).trans g_626_90
    have g_627_93 := (f_627 93 (by decide)).trans g_626_93
    have g_627_70 : cE h_627 70 (.inl (.int, fA [0, 0, 0, 0, 0, 0])) := e_627
    refine fw_inc (a := 5) (loc' := [some (.ref 66), some (fI 0), some (fI 6)]) rfl rfl (Nat.le_of_ble_eq_true rfl) rfl ?_
    refine ik_Wk 2 (pc' := 123) (loc' := [some (.ref 66), some (fI 0), some (fI 6)]) (st' := [fI 6]) (h' := h_627) (cl' := 0) (sl' := 0) rfl ?_
    refine fw_bi rfl (by decide) ?_
    refine fw_ic_ge rfl rfl (by omega) (by omega) (by omega) (by omega) (fun hc9 => ?_) (fun hc9 => absurd hc9 (by omega))
    refine ik_Wk 2 (pc' := 143) (loc' := [some (.ref 66), some (fI 0), some (fI 6)]) (st' := [fI 0, .ref 66]) (h' := h_627) (cl' := 0) (sl' := 0) rfl ?_
    refine fx_pf rfl rfl g_627_66 (Nat.le_of_ble_eq_true rfl) rfl rfl ?_
    intro h_628 e_628 f_628 l_628
    have k_628 := l_628.trans k_627
    have fr_628 := hfr_w fr_627 f_628 l_628 (by decide)
    have g_628_67 := (f_628 67 (by decide)).trans g_627_67
    have g_628_68 := (f_628 68 (by decide)).trans g_627_68
    have g_628_69 := (f_628 69 (by decide)).trans g_627_69
    have g_628_70 := (f_628 70 (by decide)).trans g_627_70
    have g_628_71 := (f_628 71 (by decide)).trans g_627_71
    have g_628_72 := (f_628 72 (by decide)).trans g_627_72
    have g_628_73 := (f_628 73 (by decide)).trans g_627_73
    have g_628_74 := (f_628 74 (by decide)).trans g_627_74
    have g_628_75 := (f_628 75 (by decide)).trans g_627_75
    have g_628_76 := (f_628 76 (by decide)).trans g_627_76
    have g_628_90 := (f_628 90 (by decide)).trans g_627_90
    have g_628_93 := (f_628 93 (by decide)).trans g_627_93
    have g_628_66 : cE h_628 66 (.inr (10, [fI q_616.1, .ref 67, .ref 68, .ref 69, fI 0, .ref 70, .ref 71, fI (f 7), fI (f 8), .ref 72, fI 0, fI (-1), fI a0'_616, fJ sd'_616, fI we'_616, fI nu'_616, fI na'_616, fI q_616.1, .ref 73, .ref 74, .ref 75, .ref 76, .ref 77, .ref 78, fI (f 24), .ref 79, .ref 80, .ref 81, .ref 82, .ref 83, .ref 84, .ref 85, fJ (f 32), fJ (f 33), .ref 86, .ref 87, fI (f 36), .ref 88, .ref 89, .ref 90, .ref 91, .ref 92, .ref 93])) := e_628
    refine ik_Wk 2 (pc' := 148) (loc' := [some (.ref 66), some (fI 0), some (fI 6)]) (st' := [fI 0, .ref 66]) (h' := h_628) (cl' := 0) (sl' := 0) rfl ?_
    refine fx_pf rfl rfl g_628_66 (Nat.le_of_ble_eq_true rfl) rfl rfl ?_
    intro h_629 e_629 f_629 l_629
    have k_629 := l_629.trans k_628
    have fr_629 := hfr_w fr_628 f_629 l_629 (by decide)
    have g_629_67 := (f_629 67 (by decide)).trans g_628_67
    have g_629_68 := (f_629 68 (by decide)).trans g_628_68
    have g_629_69 := (f_629 69 (by decide)).trans g_628_69
    have g_629_70 := (f_629 70 (by decide)).trans g_628_70
    have g_629_71 := (f_629 71 (by decide)).trans g_628_71
    have g_629_72 := (f_629 72 (by decide)).trans g_628_72
    have g_629_73 := (f_629 73 (by decide)).trans g_628_73
    have g_629_74 := (f_629 74 (by decide)).trans g_628_74
    have g_629_75 := (f_629 75 (by decide)).trans g_628_75
    have g_629_76 := (f_629 76 (by decide)).trans g_628_76
    have g_629_90 := (f_629 90 (by decide)).trans g_628_90
    have g_629_93 := (f_629 93 (by decide)).trans g_628_93
    have g_629_66 : cE h_629 66 (.inr (10, [fI q_616.1, .ref 67, .ref 68, .ref 69, fI 0, .ref 70, .ref 71, fI (f 7), fI (f 8), .ref 72, fI 0, fI (-1), fI a0'_616, fJ sd'_616, fI we'_616, fI nu'_616, fI na'_616, fI q_616.1, .ref 73, .ref 74, .ref 75, .ref 76, .ref 77, .ref 78, fI (f 24), .ref 79, .ref 80, .ref 81, .ref 82, .ref 83, .ref 84, .ref 85, fJ (f 32), fJ (f 33), .ref 86, .ref 87, fI 0, .ref 88, .ref 89, .ref 90, .ref 91, .ref 92, .ref 93])) := e_629
    refine ik_Wk 1 (pc' := 152) (loc' := [some (.ref 66), some (fI 0), some (fI 6)]) (st' := [.ref 66]) (h' := h_629) (cl' := 0) (sl' := 0) rfl ?_
    refine fw_gf rfl rfl g_629_66 rfl ?_
    refine ik_Wk 2 (pc' := 157) (loc' := [some (.ref 66), some (fI 0), some (fI 6)]) (st' := [fI 0, fI 0, .ref 90]) (h' := h_629) (cl' := 0) (sl' := 0) rfl ?_
    refine fx_ias (z := 0) rfl g_629_90 (by decide) (Nat.le_of_ble_eq_true rfl) (by decide) ?_
    intro h_630 e_630 f_630 l_630
    have k_630 := l_630.trans k_629
    have fr_630 := hfr_w fr_629 f_630 l_630 (by decide)
    have g_630_66 := (f_630 66 (by decide)).trans g_629_66
    have g_630_67 := (f_630 67 (by decide)).trans g_629_67
    have g_630_68 := (f_630 68 (by decide)).trans g_629_68
    have g_630_69 := (f_630 69 (by decide)).trans g_629_69
    have g_630_70 := (f_630 70 (by decide)).trans g_629_70
    have g_630_71 := (f_630 71 (by decide)).trans g_629_71
    have g_630_72 := (f_630 72 (by decide)).trans g_629_72
    have g_630_73 := (f_630 73 (by decide)).trans g_629_73
    have g_630_74 := (f_630 74 (by decide)).trans g_629_74
    have g_630_75 := (f_630 75 (by decide)).trans g_629_75
    have g_630_76 := (f_630 76 (by decide)).trans g_629_76
    have g_630_93 := (f_630 93 (by decide)).trans g_629_93
    have g_630_90 : cE h_630 90 (.inl (.int, fA [0, n1])) := e_630
    refine ik_Wk 1 (pc' := 159) (loc' := [some (.ref 66), some (fI 0), some (fI 6)]) (st' := [.ref 66]) (h' := h_630) (cl' := 0) (sl' := 0) rfl ?_
    refine fw_gf rfl rfl g_630_66 rfl ?_
    refine ik_Wk 2 (pc' := 164) (loc' := [some (.ref 66), some (fI 0), some (fI 6)]) (st' := [fI 0, fI 1, .ref 90]) (h' := h_630) (cl' := 0) (sl' := 0) rfl ?_
    refine fx_ias (z := 1) rfl g_630_90 (by decide) (Nat.le_of_ble_eq_true rfl) (by decide) ?_
    intro h_631 e_631 f_631 l_631
    have k_631 := l_631.trans k_630
    have fr_631 := hfr_w fr_630 f_631 l_631 (by decide)
    have g_631_66 := (f_631 66 (by decide)).trans g_630_66
    have g_631_67 := (f_631 67 (by decide)).trans g_630_67
    have g_631_68 := (f_631 68 (by decide)).trans g_630_68
    have g_631_69 := (f_631 69 (by decide)).trans g_630_69
    have g_631_70 := (f_631 70 (by decide)).trans g_630_70
    have g_631_71 := (f_631 71 (by decide)).trans g_630_71
    have g_631_72 := (f_631 72 (by decide)).trans g_630_72
    have g_631_73 := (f_631 73 (by decide)).trans g_630_73
    have g_631_74 := (f_631 74 (by decide)).trans g_630_74
    have g_631_75 := (f_631 75 (by decide)).trans g_630_75
    have g_631_76 := (f_631 76 (by decide)).trans g_630_76
    have g_631_93 := (f_631 93 (by decide)).trans g_630_93
    have g_631_90 : cE h_631 90 (.inl (.int, fA [0, 0])) := e_631
    refine ik_Wk 1 (pc' := 166) (loc' := [some (.ref 66), some (fI 0), some (fI 6)]) (st' := [.ref 66]) (h' := h_631) (cl' := 0) (sl' := 0) rfl ?_
    refine fw_gf rfl rfl g_631_66 rfl ?_
    refine ik_Wk 2 (pc' := 171) (loc' := [some (.ref 66), some (fI 0), some (fI 6)]) (st' := [fI 0, fI 0, .ref 93]) (h' := h_631) (cl' := 0) (sl' := 0) rfl ?_
    refine fx_bsb (z := 0) (v := 0) rfl g_631_93 (by decide) (Nat.le_of_ble_eq_true rfl) (by decide) (by decide) ?_
    intro h_632 e_632 f_632 l_632
    have k_632 := l_632.trans k_631
    have fr_632 := hfr_w fr_631 f_632 l_632 (by decide)
    have g_632_66 := (f_632 66 (by decide)).trans g_631_66
    have g_632_67 := (f_632 67 (by decide)).trans g_631_67
    have g_632_68 := (f_632 68 (by decide)).trans g_631_68
    have g_632_69 := (f_632 69 (by decide)).trans g_631_69
    have g_632_70 := (f_632 70 (by decide)).trans g_631_70
    have g_632_71 := (f_632 71 (by decide)).trans g_631_71
    have g_632_72 := (f_632 72 (by decide)).trans g_631_72
    have g_632_73 := (f_632 73 (by decide)).trans g_631_73
    have g_632_74 := (f_632 74 (by decide)).trans g_631_74
    have g_632_75 := (f_632 75 (by decide)).trans g_631_75
    have g_632_76 := (f_632 76 (by decide)).trans g_631_76
    have g_632_90 := (f_632 90 (by decide)).trans g_631_90
    have g_632_93 : cE h_632 93 (.inl (.boolean, fA [0, t1])) := e_632
    refine ik_Wk 1 (pc' := 173) (loc' := [some (.ref 66), some (fI 0), some (fI 6)]) (st' := [.ref 66]) (h' := h_632) (cl' := 0) (sl' := 0) rfl ?_
    refine fw_gf rfl rfl g_632_66 rfl ?_
    refine ik_Wk 2 (pc' := 178) (loc' := [some (.ref 66), some (fI 0), some (fI 6)]) (st' := [fI 0, fI 1, .ref 93]) (h' := h_632) (cl' := 0) (sl' := 0) rfl ?_
    refine fx_bsb (z := 1) (v := 0) rfl g_632_93 (by decide) (Nat.le_of_ble_eq_true rfl) (by decide) (by decide) ?_
    intro h_633 e_633 f_633 l_633
    have k_633 := l_633.trans k_632
    have fr_633 := hfr_w fr_632 f_633 l_633 (by decide)
    have g_633_66 := (f_633 66 (by decide)).trans g_632_66
    have g_633_67 := (f_633 67 (by decide)).trans g_632_67
    have g_633_68 := (f_633 68 (by decide)).trans g_632_68
    have g_633_69 := (f_633 69 (by decide)).trans g_632_69
    have g_633_70 := (f_633 70 (by decide)).trans g_632_70
    have g_633_71 := (f_633 71 (by decide)).trans g_632_71
    have g_633_72 := (f_633 72 (by decide)).trans g_632_72
    have g_633_73 := (f_633 73 (by decide)).trans g_632_73
    have g_633_74 := (f_633 74 (by decide)).trans g_632_74
    have g_633_75 := (f_633 75 (by decide)).trans g_632_75
    have g_633_76 := (f_633 76 (by decide)).trans g_632_76
    have g_633_90 := (f_633 90 (by decide)).trans g_632_90
    have g_633_93 : cE h_633 93 (.inl (.boolean, fA [0, 0])) := e_633
    refine ik_Wk 1 (pc' := 180) (loc' := [some (.ref 66), some (fI 0), some (fI 6)]) (st' := [.ref 66]) (h' := h_633) (cl' := 0) (sl' := 0) rfl ?_
    refine fw_call 194 1 0 [.ref 66] [] rfl rfl rfl (by decide) rfl rfl (fw_rec k_633 rfl g_633_66 rfl (by decide)) (cr_begin (mi := f 7) (ka := 0) (pa := 0) (fa := 0) (kb := 0) (pb := 0) (fb := 0) (xa := xa) (xb := xb) (f := fun j => ([q_616.1, 0, 0, 0, 0, 0, 0, 0, f 8, 0, 0, -1, a0'_616, sd'_616, we'_616, nu'_616, na'_616, q_616.1, 0, 0, 0, 0, 0, 0, f 24, 0, 0, 0, 0, 0, 0, 0, f 32, f 33, 0, 0, 0, 0, 0, 0, 0, 0, 0] : List Int).getD j 0) (by omega) (by omega) g_633_66 g_633_70 g_633_71 k_633) ?_
    rintro _ h_634 ⟨rfl, e_634_66, e_634_71, F_634⟩
    have k_634 := F_634.1.trans k_633
    have fr_634 := hfr_c fr_633 F_634 (by decide)
    have g_634_67 := (F_634.2 67 (by decide +kernel)).trans g_633_67
    have g_634_68 := (F_634.2 68 (by decide +kernel)).trans g_633_68
    have g_634_69 := (F_634.2 69 (by decide +kernel)).trans g_633_69
    have g_634_70 := (F_634.2 70 (by decide +kernel)).trans g_633_70
    have g_634_72 := (F_634.2 72 (by decide +kernel)).trans g_633_72
    have g_634_73 := (F_634.2 73 (by decide +kernel)).trans g_633_73
    have g_634_74 := (F_634.2 74 (by decide +kernel)).trans g_633_74
    have g_634_75 := (F_634.2 75 (by decide +kernel)).trans g_633_75
    have g_634_76 := (F_634.2 76 (by decide +kernel)).trans g_633_76
    have g_634_90 := (F_634.2 90 (by decide +kernel)).trans g_633_90
    have g_634_93 := (F_634.2 93 (by decide +kernel)).trans g_633_93
    have g_634_66 : cE h_634 66 (.inr (10, [fI q_616.1, .ref 67, .ref 68, .ref 69, fI 0, .ref 70, .ref 71, fI 0, fI (f 8), .ref 72, fI 0, fI (-1), fI a0'_616, fJ sd'_616, fI we'_616, fI nu'_616, fI na'_616, fI q_616.1, .ref 73, .ref 74, .ref 75, .ref 76, .ref 77, .ref 78, fI (f 24), .ref 79, .ref 80, .ref 81, .ref 82, .ref 83, .ref 84, .ref 85, fJ (f 32), fJ (f 33), .ref 86, .ref 87, fI 0, .ref 88, .ref 89, .ref 90, .ref 91, .ref 92, .ref 93])) := e_634_66
    have g_634_71 : cE h_634 71 (.inl (.int, fA [mx_sp 0 0, mx_sp 0 0])) := e_634_71
    refine ik_Wk 0 (pc' := 183) (loc' := [some (.ref 66), some (fI 0), some (fI 6)]) (st' := []) (h' := h_634) (cl' := 0) (sl' := 0) rfl ?_
    refine ik_Wk 1 (pc' := 184) (loc' := [some (.ref 66), some (fI 0), some (fI 6)]) (st' := [.ref 66]) (h' := h_634) (cl' := 0) (sl' := 0) rfl ?_
    refine fw_gf rfl rfl g_634_66 rfl ?_
    exact ik_Wret rfl rfl ⟨_, _, rfl, rfl, rfl, rfl, Or.inr ⟨q_616, a0'_616, sd'_616, we'_616, nu'_616, na'_616, M'_616, R'_616, O'_616, A'_616, c2_621, rfl, g_634_66, g_634_72, m_621_72, g_634_73, m_621_73, g_634_74, m_621_74, g_634_75, m_621_75, g_634_76, m_621_76, g_634_67, m_621_67, g_634_68, m_621_68, g_634_69, m_621_69, g_634_70, g_634_71, g_634_90, g_634_93, p_616_0, p_616_1, p_616_2, p_616_3, hm_621, fr_634⟩⟩

end