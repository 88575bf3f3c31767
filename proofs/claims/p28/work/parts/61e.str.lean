noncomputable section
/-! feed and stream of both, by the text -/
theorem lk_ut {M : sx_M} {h h' : List ik_E} {a k : Nat} {x : Int} (hf : sx_fm M h h') (hu : sx_md M a k = false) (hx : sx_lk [] [] h (1, a, k) = some x) : sx_lk [] [] h' (1, a, k) = some x := by
  simp only [sx_lk] at hx ⊢
  split at hx
  · rename_i d hd
    obtain ⟨d', e1, _, _, e4⟩ := hf.2 a d hd
    rw [e1]
    dsimp only
    rw [e4 k hu]
    exact hx
  · cases hx
theorem sx_ptj {d d' : ik_E} (h1 : (sx_pt d).1 = (sx_pt d').1) (h2 : (sx_pt d).2 = (sx_pt d').2) : d = d' := by
  rcases d with ⟨a, b⟩ | ⟨a, b⟩ <;> rcases d' with ⟨a', b'⟩ | ⟨a', b'⟩
  · cases h1; cases h2; rfl
  · cases h1
  · cases h1
  · cases h1; cases h2; rfl
/-- a cell that nothing touches -/
theorem fm_cell {M : sx_M} {h h' : List ik_E} {a : Nat} {d : ik_E} (hf : sx_fm M h h') (hu : sx_mt M a = false) (hd : h[a]? = some d) : h'[a]? = some d := by
  obtain ⟨d', e1, e2, e3, e4⟩ := hf.2 a d hd
  rw [e1]
  have : d' = d := sx_ptj e2 (List.ext_getElem? fun k => e4 k (by
    unfold sx_md
    unfold sx_mt at hu
    rw [List.any_eq_false] at hu ⊢
    intro p hp
    have := hu p hp
    simp only [Bool.not_eq_true] at this ⊢
    rw [this]
    rfl))
  rw [this]
theorem sc_view {h : List ik_E} (hC : cc_CI h) (hl : h.length = 94) {y : Int → Int} {n fb : Int} (hS : sc_S y n fb h) : ∃ (cs : List Value) (T : List Int) (cur fl pl : Int) (C G P B : List Int) (tl : List ik_E), h = .inr (9, .ref 1 :: cs) :: cz_t T n cur fl fb pl C G P B tl ∧ cz_ok y T n tl ∧ C.length = 12 ∧ G.length = 48 ∧ P.length = 48 ∧ B.length = 48 ∧ (Int32.ofInt n).toInt = n ∧ (Int32.ofInt fb).toInt = fb := by
  obtain ⟨⟨T0, t1, t2, t3⟩, n0, n1, n2, n3⟩ := hS
  obtain ⟨cs, T, n', cur, fl, fb', pl, C, G, P, B, tl, e, l1, l2, l3, l4, l5, l6, k1, k2⟩ := cz_view hC hl
  rw [n2] at k1
  rw [n3] at k2
  cases k1
  cases k2
  subst e
  have hT : fA T = fA T0 := by
    have : some (Sum.inl (FieldType.byte, fA T) : ik_E) = some (.inl (.byte, fA T0)) := t1
    injection this with q
    injection q with q
    injection q
  have hn : (Int32.ofInt n).toInt = n := by
    have : some (Int32.ofInt n).toInt = some n := n2
    injection this
  have hb : (Int32.ofInt fb).toInt = fb := by
    have : some (Int32.ofInt fb).toInt = some fb := n3
    injection this
  refine ⟨cs, T0, cur, fl, pl, C, G, P, B, tl, ?_, ⟨l1, t2, fun i a b => (t3 i a b).1, n0, n1, fun i a b => (t3 i a b).2⟩, l3, l4, l5, l6, hn, hb⟩
  unfold cz_t
  rw [hT]
theorem sr_view {h : List ik_E} (hI : rc_RI h) (hl : h.length = 94) {y : Int → Int} {n fb : Int} (hS : sr_S y n fb h) : ∃ (pre tl : List ik_E) (w : Nat → Value) (wt : List Value) (c : Nat → ik_E) (T : List Int) (a0 sd we nu na rp : Int) (M R O A : List Int), h = pre ++ rz_t w wt c tl T n fb a0 sd we nu na rp M R O A ∧ rz_ok y T n pre tl ∧ M.length = 12 ∧ R.length = 48 ∧ O.length = 48 ∧ A.length = 48 ∧ (Int32.ofInt n).toInt = n ∧ (Int32.ofInt fb).toInt = fb := by
  obtain ⟨⟨T0, t1, t2, t3⟩, n0, n1, n2, n3⟩ := hS
  obtain ⟨pre, tl, w, wt, c, T, n', fb', a0, sd, we, nu, na, rp, M, R, O, A, e, l0, l1, l2, l3, l4, l5, l6, k1, k2⟩ := rz_view hI hl
  rw [n2] at k1
  rw [n3] at k2
  cases k1
  cases k2
  subst e
  have g0 : (pre ++ rz_t w wt c tl T n fb a0 sd we nu na rp M R O A)[66 + 0]? = _ := rz_g 0 l0 rfl
  have g6 : (pre ++ rz_t w wt c tl T n fb a0 sd we nu na rp M R O A)[66 + 6]? = _ := rz_g 6 l0 rfl
  have hT : fA T = fA T0 := by
    have : some (Sum.inl (FieldType.int, fA T) : ik_E) = some (.inl (.int, fA T0)) := g6.symm.trans t1
    injection this with q
    injection q with q
    injection q
  have hn : (Int32.ofInt n).toInt = n := by
    simp only [sx_lk] at n2
    rw [show (66 : Nat) = 66 + 0 from rfl, g0] at n2
    have : some (Int32.ofInt n).toInt = some n := n2
    injection this
  have hb : (Int32.ofInt fb).toInt = fb := by
    simp only [sx_lk] at n3
    rw [show (66 : Nat) = 66 + 0 from rfl, g0] at n3
    have : some (Int32.ofInt fb).toInt = some fb := n3
    injection this
  refine ⟨pre, tl, w, wt, c, T0, a0, sd, we, nu, na, rp, M, R, O, A, ?_, ⟨l0, l1, t2, fun i a b => (t3 i a b).1, n0, n1, fun i a b => (t3 i a b).2⟩, l3, l4, l5, l6, hn, hb⟩
  unfold rz_t
  rw [hT]
/-! the state: y the text's bytes, f: 0 how many, 1 the byte of the fault, 2 places, 3 runs, 4, 5 logs, 6, 7 images -/
def qc : Nat → Nat × Nat
  | 0 => (1, 1) | 1 => (1, 4) | 2 => (7, 0) | 3 => (51, 1) | 4 => (56, 0) | 5 => (56, 1) | 6 => (58, 0) | _ => (62, 0)
def qr : Nat → Nat × Nat
  | 0 => (66, 10) | 1 => (66, 11) | 2 => (66, 0) | 3 => (66, 36) | 4 => (90, 0) | 5 => (90, 1) | 6 => (93, 0) | _ => (93, 1)
abbrev zst : Type := (Int → Int) × (Nat → Int)
def zup (f : Nat → Int) (j : Nat) (v : Int) (i : Nat) : Int := if i = j then v else f i
def sc_Z (s : zst) (h : List ik_E) : Prop := sc_T s.1 (s.2 0) h ∧ 0 ≤ s.2 0 ∧ s.2 0 ≤ 500 ∧ ∀ j, j < 8 → sx_lk [] [] h (1, (qc j).1, (qc j).2) = some (s.2 j)
def sr_Z (s : zst) (h : List ik_E) : Prop := sr_T s.1 (s.2 0) h ∧ 0 ≤ s.2 0 ∧ s.2 0 ≤ 500 ∧ ∀ j, j < 8 → sx_lk [] [] h (1, (qr j).1, (qr j).2) = some (s.2 j)
theorem sc_ZS {s : zst} {h : List ik_E} (hS : sc_Z s h) : sc_S s.1 (s.2 0) (s.2 1) h := ⟨hS.1, hS.2.1, hS.2.2.1, hS.2.2.2 0 (by decide), hS.2.2.2 1 (by decide)⟩
theorem sr_ZS {s : zst} {h : List ik_E} (hS : sr_Z s h) : sr_S s.1 (s.2 0) (s.2 1) h := ⟨hS.1, hS.2.1, hS.2.2.1, hS.2.2.2 0 (by decide), hS.2.2.2 1 (by decide)⟩
def sc_k (M : sx_M) : Bool := !(sx_mt M 2) && (List.range 8).all fun j => !(sx_md M (qc j).1 (qc j).2)
def sr_k (M : sx_M) : Bool := !(sx_mt M 72) && (List.range 8).all fun j => !(sx_md M (qr j).1 (qr j).2)
theorem sc_fm {M : sx_M} {h h' : List ik_E} {s : zst} (hf : sx_fm M h h') (hu : sc_k M = true) (hS : sc_Z s h) : sc_Z s h' := by
  obtain ⟨⟨T, t1, t2, t3⟩, n0, n1, n2⟩ := hS
  obtain ⟨u1, u2⟩ := Bool.and_eq_true_iff.mp hu
  refine ⟨⟨T, fm_cell hf (by simpa using u1) t1, t2, t3⟩, n0, n1, fun j hj => lk_ut hf ?_ (n2 j hj)⟩
  have := List.all_eq_true.mp u2 j (List.mem_range.mpr hj)
  simpa using this
theorem sr_fm {M : sx_M} {h h' : List ik_E} {s : zst} (hf : sx_fm M h h') (hu : sr_k M = true) (hS : sr_Z s h) : sr_Z s h' := by
  obtain ⟨⟨T, t1, t2, t3⟩, n0, n1, n2⟩ := hS
  obtain ⟨u1, u2⟩ := Bool.and_eq_true_iff.mp hu
  refine ⟨⟨T, fm_cell hf (by simpa using u1) t1, t2, t3⟩, n0, n1, fun j hj => lk_ut hf ?_ (n2 j hj)⟩
  have := List.all_eq_true.mp u2 j (List.mem_range.mpr hj)
  simpa using this
/-- but for some, which are told -/
theorem sc_up {M : sx_M} {h h' : List ik_E} {s : zst} {g : Nat → Int} (hf : sx_fm M h h') (hS : sc_Z s h) (h2 : sx_mt M 2 = false) (h0 : g 0 = s.2 0) (hj : ∀ j, j < 8 → (sx_md M (qc j).1 (qc j).2 = false ∧ g j = s.2 j) ∨ sx_lk [] [] h' (1, (qc j).1, (qc j).2) = some (g j)) : sc_Z (s.1, g) h' := by
  obtain ⟨⟨T, t1, t2, t3⟩, n0, n1, n2⟩ := hS
  refine ⟨⟨T, fm_cell hf h2 t1, t2, fun i a b => t3 i a (by rw [← h0]; exact b)⟩, by show 0 ≤ g 0; rw [h0]; exact n0, by show g 0 ≤ 500; rw [h0]; exact n1, fun j hj' => ?_⟩
  rcases hj j hj' with ⟨a, b⟩ | a
  · show _ = some (g j)
    rw [b]
    exact lk_ut hf a (n2 j hj')
  · exact a
theorem sr_up {M : sx_M} {h h' : List ik_E} {s : zst} {g : Nat → Int} (hf : sx_fm M h h') (hS : sr_Z s h) (h2 : sx_mt M 72 = false) (h0 : g 0 = s.2 0) (hj : ∀ j, j < 8 → (sx_md M (qr j).1 (qr j).2 = false ∧ g j = s.2 j) ∨ sx_lk [] [] h' (1, (qr j).1, (qr j).2) = some (g j)) : sr_Z (s.1, g) h' := by
  obtain ⟨⟨T, t1, t2, t3⟩, n0, n1, n2⟩ := hS
  refine ⟨⟨T, fm_cell hf h2 t1, t2, fun i a b => t3 i a (by rw [← h0]; exact b)⟩, by show 0 ≤ g 0; rw [h0]; exact n0, by show g 0 ≤ 500; rw [h0]; exact n1, fun j hj' => ?_⟩
  rcases hj j hj' with ⟨a, b⟩ | a
  · show _ = some (g j)
    rw [b]
    exact lk_ut hf a (n2 j hj')
  · exact a
theorem q8 {P : Nat → Prop} (h2 : P 2) (h3 : P 3) (h4 : P 4) (h5 : P 5) (h6 : P 6) (h7 : P 7) : ∀ j, 2 ≤ j → j < 8 → P j := by
  intro j a b
  have : j = 2 ∨ j = 3 ∨ j = 4 ∨ j = 5 ∨ j = 6 ∨ j = 7 := by omega
  rcases this with rfl | rfl | rfl | rfl | rfl | rfl
  · exact h2
  · exact h3
  · exact h4
  · exact h5
  · exact h6
  · exact h7
/-- the cells behind the reader -/
theorem cz_rest {c0 : ik_E} {T T' : List Int} {n cur fl fb pl n' cur' fl' fb' pl' : Int} {C G P B C' G' P' B' : List Int} {tl : List ik_E} : ∀ j, 2 ≤ j → j < 8 → sx_lk [] [] (c0 :: cz_t T n cur fl fb pl C G P B tl) (1, (qc j).1, (qc j).2) = sx_lk [] [] (c0 :: cz_t T' n' cur' fl' fb' pl' C' G' P' B' tl) (1, (qc j).1, (qc j).2) := q8 rfl rfl rfl rfl rfl rfl
theorem rz_tl {pre tl : List ik_E} {w : Nat → Value} {wt : List Value} {c : Nat → ik_E} {T : List Int} {n fp a0 sd we nu na rp : Int} {M R O A : List Int} (hpre : pre.length = 66) (k : Nat) : (pre ++ rz_t w wt c tl T n fp a0 sd we nu na rp M R O A)[77 + k]? = tl[k]? := by
  rw [List.getElem?_append_right (by omega), show 77 + k - pre.length = k + 11 by omega]
  rfl
theorem rz_rest {pre tl : List ik_E} {w : Nat → Value} {wt : List Value} {c : Nat → ik_E} {T T' : List Int} {n fp a0 sd we nu na rp n' fp' a0' sd' we' nu' na' rp' : Int} {M R O A M' R' O' A' : List Int} (hpre : pre.length = 66) : ∀ j, 2 ≤ j → j < 8 → sx_lk [] [] (pre ++ rz_t w wt c tl T n fp a0 sd we nu na rp M R O A) (1, (qr j).1, (qr j).2) = sx_lk [] [] (pre ++ rz_t w wt c tl T' n' fp' a0' sd' we' nu' na' rp' M' R' O' A') (1, (qr j).1, (qr j).2) := by
  have g0 : ∀ {T : List Int} {n fp a0 sd we nu na rp : Int} {M R O A : List Int}, (pre ++ rz_t w wt c tl T n fp a0 sd we nu na rp M R O A)[66]? = some _ := fun {T n fp a0 sd we nu na rp M R O A} => rz_g 0 hpre rfl
  have g90 : ∀ {T : List Int} {n fp a0 sd we nu na rp : Int} {M R O A : List Int}, (pre ++ rz_t w wt c tl T n fp a0 sd we nu na rp M R O A)[90]? = tl[13]? := fun {T n fp a0 sd we nu na rp M R O A} => rz_tl hpre 13
  have g93 : ∀ {T : List Int} {n fp a0 sd we nu na rp : Int} {M R O A : List Int}, (pre ++ rz_t w wt c tl T n fp a0 sd we nu na rp M R O A)[93]? = tl[16]? := fun {T n fp a0 sd we nu na rp M R O A} => rz_tl hpre 16
  refine q8 ?_ ?_ ?_ ?_ ?_ ?_ <;> simp only [qr, sx_lk, g0, g90, g93] <;> rfl
/-! feed -/
def fd_y (y : Int → Int) (n m : Int) (b : Int64) (i : Int) : Int := if n ≤ i then fd_r b (n + m - 1 - i) else y i
theorem fd_TT {n m : Int} (h0 : 0 ≤ n) (h1 : n ≤ 500) : 0 ≤ fd_T m n ∧ fd_T m n ≤ 500 := by
  unfold fd_T
  split
  · omega
  · split <;> omega
theorem zc_feed0 {h : List ik_E} (hC : cc_CI h) (hl : h.length = 94) {y : Int → Int} {n fb : Int} (hS : sc_S y n fb h) {x : Int32} {b : Int64} : ik_W none 90 0 (ik_loc (ik_ml 90) [.ref 0, .int x, .long b]) [] h 0 0 (pc_P cc_MC 90 (fun v h' => v.toInt = fd_F x.toInt n ∧ sc_S (fd_y y n x.toInt b) (fd_T x.toInt n) fb h' ∧ ∀ j, 2 ≤ j → j < 8 → sx_lk [] [] h' (1, (qc j).1, (qc j).2) = sx_lk [] [] h (1, (qc j).1, (qc j).2)) h) := by
  have H1 := pc_feed hC (n := x) (b := b) hS.2.2.2.1
  have hx := sx_i32 x
  obtain ⟨cs, T, cur, fl, pl, C, G, P, B, tl, e, ok, l1, l2, l3, l4, hn, hb⟩ := sc_view hC hl hS
  obtain ⟨htl, hT, bT, n0, n1, hy⟩ := ok
  subst e
  have H2 := cz_feed (cs := cs) (cur := cur) (fl := fl) (fb := fb) (pl := pl) (C := C) (G := G) (P := P) (B := B) htl hT n0 n1 (m := x.toInt) (b := b) (by omega) (by omega)
  unfold ik_F at H2
  simp only [fI, Int32.ofInt_toInt] at H2
  refine sx_W_mono (ik_W_and H1 H2) ?_
  rintro z ⟨⟨ir, v, z1, z2, ⟨z3, z3'⟩, z4, z5, z6, z7⟩, ir', rv, q1, q2, q3, q4, q5⟩
  refine ⟨ir, v, z1, z2, ⟨z3, ?_, ?_⟩, z4, z5, z6, z7⟩
  rotate_left
  · rcases q5 with ⟨_, _, eh⟩ | ⟨_, _, _, _, eh⟩ | ⟨_, _, _, _, eh⟩
    · rw [eh]; exact fun _ _ _ => rfl
    · rw [eh]; exact fun _ _ _ => rfl
    · rw [eh]; exact cz_rest
  have hTT := fd_TT (m := x.toInt) n0 n1
  have same : z.2.2.2.1 = .inr (9, .ref 1 :: cs) :: cz_t T n cur fl fb pl C G P B tl → fd_T x.toInt n = n → sc_S (fd_y y n x.toInt b) (fd_T x.toInt n) fb z.2.2.2.1 := by
    intro eh et
    rw [eh] at z3' ⊢
    rw [et] at z3' ⊢
    refine ⟨⟨T, rfl, hT, fun i a b' => ⟨bT i a b', ?_⟩⟩, n0, n1, z3', congrArg some hb⟩
    unfold fd_y
    rw [if_neg (by omega)]
    exact hy i a b'
  rcases q5 with ⟨c1, _, eh⟩ | ⟨c1, c2, c3, _, eh⟩ | ⟨c1, c2, c3, _, eh⟩
  · exact same eh (by unfold fd_T; rw [if_pos c1])
  · exact same eh (by unfold fd_T; rw [if_neg (by omega), if_pos (by omega)])
  · have et : fd_T x.toInt n = n + x.toInt := by unfold fd_T; rw [if_neg (by omega), if_neg (by omega)]
    rw [eh] at z3' ⊢
    rw [et] at z3' hTT ⊢
    refine ⟨⟨fd_w (fd_c b) x.toInt.toNat n T, rfl, (fd_wl ..).trans hT, fun i a b' => ?_⟩, hTT.1, hTT.2, z3', congrArg some hb⟩
    rw [fd_wg x.toInt.toNat n T i.toNat n0 (by omega)]
    unfold fd_y
    have hc := fd_cr b (n + x.toInt - 1 - i)
    by_cases hi : n ≤ i
    · rw [if_pos ⟨by omega, by omega⟩, if_pos hi, show n + (x.toInt.toNat : Int) - 1 - (i.toNat : Int) = n + x.toInt - 1 - i by omega]
      exact ⟨⟨hc.1, hc.2.1⟩, hc.2.2.symm⟩
    · rw [if_neg (by omega), if_neg hi]
      exact ⟨bT i a (by omega), hy i a (by omega)⟩
theorem zr_feed0 {h : List ik_E} (hI : rc_RI h) (hl : h.length = 94) {y : Int → Int} {n fb : Int} (hS : sr_S y n fb h) {x : Int32} {b : Int64} : ik_W none 135 0 (ik_loc (ik_ml 135) [.ref 66, .int x, .long b]) [] h 0 0 (pr_P rc_MR 135 (fun v h' => v.toInt = fd_F x.toInt n ∧ sr_S (fd_y y n x.toInt b) (fd_T x.toInt n) fb h' ∧ ∀ j, 2 ≤ j → j < 8 → sx_lk [] [] h' (1, (qr j).1, (qr j).2) = sx_lk [] [] h (1, (qr j).1, (qr j).2)) h) := by
  have H1 := pm_feed hI (n := x) (b := b) hS.2.2.2.1
  have hx := sx_i32 x
  obtain ⟨pre, tl, w, wt, c, T, a0, sd, we, nu, na, rp, M, R, O, A, e, ok, l1, l2, l3, l4, hn, hb⟩ := sr_view hI hl hS
  obtain ⟨hpre, htl, hT, bT, n0, n1, hy⟩ := ok
  subst e
  have H2 := rz_feed (w := w) (wt := wt) (c := c) (fp := fb) (a0 := a0) (sd := sd) (we := we) (nu := nu) (na := na) (rp := rp) (M := M) (R := R) (O := O) (A := A) hpre htl hT n0 n1 (m := x.toInt) (b := b) (by omega) (by omega)
  unfold ik_F at H2
  simp only [fI, Int32.ofInt_toInt] at H2
  refine sx_W_mono (ik_W_and H1 H2) ?_
  rintro z ⟨⟨ir, v, z1, z2, ⟨z3, z3'⟩, z4, z5, z6, z7⟩, ir', rv, q1, q2, q3, q4, q5⟩
  refine ⟨ir, v, z1, z2, ⟨z3, ?_, ?_⟩, z4, z5, z6, z7⟩
  rotate_left
  · rcases q5 with ⟨_, _, eh⟩ | ⟨_, _, _, _, eh⟩ | ⟨_, _, _, _, eh⟩
    · rw [eh]; exact fun _ _ _ => rfl
    · rw [eh]; exact fun _ _ _ => rfl
    · rw [eh]; exact rz_rest hpre
  have hTT := fd_TT (m := x.toInt) n0 n1
  have gb : ∀ {T' : List Int} {n' : Int}, sx_lk [] [] (pre ++ rz_t w wt c tl T' n' fb a0 sd we nu na rp M R O A) (1, 66, 11) = some fb := by
    intro T' n'
    have g0 : (pre ++ rz_t w wt c tl T' n' fb a0 sd we nu na rp M R O A)[66 + 0]? = _ := rz_g 0 hpre rfl
    simp only [sx_lk]
    rw [show (66 : Nat) = 66 + 0 from rfl, g0]
    exact congrArg some hb
  have same : z.2.2.2.1 = pre ++ rz_t w wt c tl T n fb a0 sd we nu na rp M R O A → fd_T x.toInt n = n → sr_S (fd_y y n x.toInt b) (fd_T x.toInt n) fb z.2.2.2.1 := by
    intro eh et
    rw [eh] at z3' ⊢
    rw [et] at z3' ⊢
    refine ⟨⟨T, rz_g 6 hpre rfl, hT, fun i a b' => ⟨bT i a b', ?_⟩⟩, n0, n1, z3', gb⟩
    unfold fd_y
    rw [if_neg (by omega)]
    exact hy i a b'
  rcases q5 with ⟨c1, _, eh⟩ | ⟨c1, c2, c3, _, eh⟩ | ⟨c1, c2, c3, _, eh⟩
  · exact same eh (by unfold fd_T; rw [if_pos c1])
  · exact same eh (by unfold fd_T; rw [if_neg (by omega), if_pos (by omega)])
  · have et : fd_T x.toInt n = n + x.toInt := by unfold fd_T; rw [if_neg (by omega), if_neg (by omega)]
    rw [eh] at z3' ⊢
    rw [et] at z3' hTT ⊢
    refine ⟨⟨fd_w (fd_r b) x.toInt.toNat n T, rz_g 6 hpre rfl, (fd_wl ..).trans hT, fun i a b' => ?_⟩, hTT.1, hTT.2, z3', gb⟩
    rw [fd_wg x.toInt.toNat n T i.toNat n0 (by omega)]
    unfold fd_y
    have hc := fd_cr b (n + x.toInt - 1 - i)
    by_cases hi : n ≤ i
    · rw [if_pos ⟨by omega, by omega⟩, if_pos hi, show n + (x.toInt.toNat : Int) - 1 - (i.toNat : Int) = n + x.toInt - 1 - i by omega]
      exact ⟨⟨by omega, by omega⟩, rfl⟩
    · rw [if_neg (by omega), if_neg hi]
      exact ⟨bT i a (by omega), hy i a (by omega)⟩
theorem zc_feed {h : List ik_E} (hC : cc_CI h) (hl : h.length = 94) {s : zst} (hS : sc_Z s h) {x : Int32} {b : Int64} : ik_W none 90 0 (ik_loc (ik_ml 90) [.ref 0, .int x, .long b]) [] h 0 0 (pc_P cc_MC 90 (fun v h' => v.toInt = fd_F x.toInt (s.2 0) ∧ sc_Z (fd_y s.1 (s.2 0) x.toInt b, zup s.2 0 (fd_T x.toInt (s.2 0))) h') h) := by
  refine sx_W_mono (zc_feed0 hC hl (sc_ZS hS)) ?_
  rintro z ⟨ir, v, z1, z2, ⟨z3, ⟨t1, t2, t3, t4, t5⟩, zr⟩, z4, z5, z6, z7⟩
  refine ⟨ir, v, z1, z2, ⟨z3, t1, t2, t3, fun j hj => ?_⟩, z4, z5, z6, z7⟩
  have hj3 : j = 0 ∨ j = 1 ∨ 2 ≤ j := by omega
  rcases hj3 with rfl | rfl | hj2
  · exact t4
  · exact t5
  · show _ = some (zup s.2 0 (fd_T x.toInt (s.2 0)) j)
    unfold zup
    rw [if_neg (by omega), zr j hj2 hj]
    exact hS.2.2.2 j hj
theorem zr_feed {h : List ik_E} (hI : rc_RI h) (hl : h.length = 94) {s : zst} (hS : sr_Z s h) {x : Int32} {b : Int64} : ik_W none 135 0 (ik_loc (ik_ml 135) [.ref 66, .int x, .long b]) [] h 0 0 (pr_P rc_MR 135 (fun v h' => v.toInt = fd_F x.toInt (s.2 0) ∧ sr_Z (fd_y s.1 (s.2 0) x.toInt b, zup s.2 0 (fd_T x.toInt (s.2 0))) h') h) := by
  refine sx_W_mono (zr_feed0 hI hl (sr_ZS hS)) ?_
  rintro z ⟨ir, v, z1, z2, ⟨z3, ⟨t1, t2, t3, t4, t5⟩, zr⟩, z4, z5, z6, z7⟩
  refine ⟨ir, v, z1, z2, ⟨z3, t1, t2, t3, fun j hj => ?_⟩, z4, z5, z6, z7⟩
  have hj3 : j = 0 ∨ j = 1 ∨ 2 ≤ j := by omega
  rcases hj3 with rfl | rfl | hj2
  · exact t4
  · exact t5
  · show _ = some (zup s.2 0 (fd_T x.toInt (s.2 0)) j)
    unfold zup
    rw [if_neg (by omega), zr j hj2 hj]
    exact hS.2.2.2 j hj
/-- what stream makes of the rest -/
def znx (r : (Int × Int) ⊕ (Int × List (List zM))) (f : Nat → Int) (j : Nat) : Int := match r with
  | .inl _ => f j
  | .inr q => if j = 2 then q.1 else 0
def znf (r : (Int × Int) ⊕ (Int × List (List zM))) (f : Nat → Int) (j : Nat) : Int := if j = 0 then 0 else if j = 1 then zfb r else znx r f j
theorem cx0 {loc : ik_L} {st : List Value} {h : List ik_E} {xs : List sx_X} (hc : sx_cx loc st h xs) {q : sx_Q} (hq : Nat.beq q.1 1 = true) (h1 : (0, [(1, q)]) ∈ xs) (h2 : (0, [(-1, q)]) ∈ xs) : sx_lk [] [] h q = some 0 := by
  obtain ⟨a, a1, a2⟩ := hc _ h1
  obtain ⟨b, b1, b2⟩ := hc _ h2
  have ho : sx_lk loc st h q = sx_lk [] [] h q := sx_lk_ho hq
  cases hx : sx_lk [] [] h q with
  | none => simp only [sx_xc, sx_xk, ho, hx] at a1; cases a1
  | some x =>
    simp only [sx_xc, sx_xk, ho, hx, Option.some.injEq] at a1 b1
    have : x = 0 := by omega
    rw [this]
theorem cxr {loc : ik_L} {v : Int32} {h : List ik_E} {xs : List sx_X} (hc : sx_cx loc [.int v] h xs) {q : sx_Q} (hq : Nat.beq q.1 1 = true) (h1 : (0, [(1, 2, 0, 0), (-1, q)]) ∈ xs) (h2 : (0, [(-1, 2, 0, 0), (1, q)]) ∈ xs) : sx_lk [] [] h q = some v.toInt := by
  obtain ⟨a, a1, a2⟩ := hc _ h1
  obtain ⟨b, b1, b2⟩ := hc _ h2
  have ho : sx_lk loc [.int v] h q = sx_lk [] [] h q := sx_lk_ho hq
  have er : sx_lk loc [.int v] h (2, 0, 0) = some v.toInt := rfl
  cases hx : sx_lk [] [] h q with
  | none => simp only [sx_xc, sx_xk, ho, hx, er] at a1; cases a1
  | some x =>
    simp only [sx_xc, sx_xk, ho, hx, er, Option.some.injEq] at a1 b1
    have : x = v.toInt := by omega
    rw [this]
/-! stream of the class -/
def s5_M : sx_M := [(7, [0, 1, 2]), (8, [9999]), (9, [9999]), (10, [9999]), (11, [9999]), (12, [9999]), (13, [9999]), (14, [3]), (15, [9999]), (16, [9999]), (51, [1]), (56, [9999]), (58, [0]), (62, [0])]
def s5_x : List sx_X := [(0, [(1, 2, 0, 0), (-1, 1, 7, 0)]), (0, [(-1, 2, 0, 0), (1, 1, 7, 0)]), (0, [(1, 1, 51, 1)]), (0, [(-1, 1, 51, 1)]), (0, [(1, 1, 56, 0)]), (0, [(-1, 1, 56, 0)]), (0, [(1, 1, 56, 1)]), (0, [(-1, 1, 56, 1)]), (0, [(1, 1, 58, 0)]), (0, [(-1, 1, 58, 0)]), (0, [(1, 1, 62, 0)]), (0, [(-1, 1, 62, 0)])]
def s5_O : sx_U := (true, 0, [], [sx_I], ([], []), s5_x, [((0, [(1, 1, 1, 5)]), (0, [(1, 2, 0, 0)])), ((0, [(-1, 1, 1, 5)]), (0, [(-1, 2, 0, 0)]))])
def s5_k (T : sx_T) : Bool := sx_sg [ka_12, ka_14, ka_37] [] s5_M false 6000 91 8 [some (sx_va [0]), some (sx_ri 0 0), none] T.1 [(0, [(1, 1, 1, 5)])] [] [] [s5_O] && sx_lh 0 ((0, []), []) T.1 ka_10.2.1.2.1 && ka_10.2.1.2.2.isEmpty && ka_10.2.2.2.1.all (fun P => sx_tk T T ka_10.2.2.1 P.2.1 P.2.2) && !ka_10.2.2.2.2
theorem s5_A : s5_k cc_TA = true := by decide +kernel
theorem s5_B : s5_k cc_TB = true := by decide +kernel
theorem sc_str {T : sx_T} (hk : s5_k T = true) {cs : List Value} {t : List Int} {y : Int → Int} {n cur fl fb pl : Int} {C G P B : List Int} {tl : List ik_E} (hT : sx_iv' T (.inr (9, .ref 1 :: cs) :: cz_t t n cur fl fb pl C G P B tl)) (ok : cz_ok y t n tl) (hC : C.length = 12) (hG : G.length = 48) (hP : P.length = 48) (hB : B.length = 48) : ik_W none 91 0 (ik_loc (ik_ml 91) [.ref 0]) [] (.inr (9, .ref 1 :: cs) :: cz_t t n cur fl fb pl C G P B tl) 0 0 (fun z => ∃ ir v, ik_at 91 z.1 = some ir ∧ ik_rv (ik_rt 91) ir z.2.2.1 = some [.int v] ∧ v.toInt = zret (zall y n) ∧ z.2.2.2.1[2]? = some (.inl (.byte, fA t)) ∧ sx_lk [] [] z.2.2.2.1 (1, 1, 4) = some (zfb (zall y n)) ∧ (∀ f : Nat → Int, (∀ j, 2 ≤ j → j < 8 → sx_lk [] [] (.inr (9, .ref 1 :: cs) :: cz_t t n cur fl fb pl C G P B tl) (1, (qc j).1, (qc j).2) = some (f j)) → ∀ j, 2 ≤ j → j < 8 → sx_lk [] [] z.2.2.2.1 (1, (qc j).1, (qc j).2) = some (znx (zall y n) f j))) := by
  unfold s5_k at hk
  obtain ⟨hk, k5⟩ := Bool.and_eq_true_iff.mp hk
  obtain ⟨hk, k4⟩ := Bool.and_eq_true_iff.mp hk
  obtain ⟨hk, k3⟩ := Bool.and_eq_true_iff.mp hk
  obtain ⟨k1, k2⟩ := Bool.and_eq_true_iff.mp hk
  have F1 := cz_text (c0 := .inr (9, .ref 1 :: cs)) (cur := cur) (fl := fl) (fb := fb) (pl := pl) ok hC hG hP hB
  have F2 := (kah_10 (fun _ => True)).2 [.ref 1] _ ⟨⟨1, List.mem_singleton.mpr rfl, rfl⟩, trivial⟩ (sx_lh0 hT.1 k2) (fun x hx => by rw [List.isEmpty_iff.mp k3] at hx; cases hx) (fun _ => trivial)
  have F : ik_F 56 [.ref 1] (.inr (9, .ref 1 :: cs) :: cz_t t n cur fl fb pl C G P B tl) (fun rv h' => cz_RT (.inr (9, .ref 1 :: cs)) tl t (zall y n) rv h' ∧ sx_iv' T h') := by
    unfold ik_F at F1 ⊢
    refine ik_Wmono (ik_W_and F1 F2) ?_
    rintro z ⟨⟨ir, rv, z1, z2, z3, z4, z5⟩, ir', rv', P', hP', w1, w2, w3, w4, w5, w6, w7, w8⟩
    exact ⟨ir, rv, z1, z2, z3, z4, z5, sx_tk_ok hT w5 w4 w6 (List.all_eq_true.mp k4 P' hP')⟩
  have okk := ok
  obtain ⟨htl, ht, bT, n0, n1, hy⟩ := okk
  refine ik_Wk 1 (pc' := 1) (loc' := [some (.ref 0), none, none]) (st' := [.ref 0]) (h' := .inr (9, .ref 1 :: cs) :: cz_t t n cur fl fb pl C G P B tl) (cl' := 0) (sl' := 0) rfl ?_
  refine fw_gf rfl rfl rfl rfl ?_
  refine fw_call 56 1 0 [.ref 1] [] rfl rfl rfl (by decide) rfl rfl (fw_rec (cz_len htl) rfl rfl rfl (by decide)) F ?_
  rintro rv h' ⟨hR, hT'⟩
  cases hz : zall y n with
  | inl e =>
    rw [hz] at hR
    obtain ⟨rfl, cur', pl', C', G', P', B', _, _, _, _, rfl⟩ := hR
    have hr := zall_f n0 n1 hz
    refine ik_Wk 2 (pc' := 9) (loc' := [some (.ref 0), some (fI e.1), none]) (st' := [fI e.1]) (h' := .inr (9, .ref 1 :: cs) :: cz_t t 0 cur' e.1 e.2 pl' C' G' P' B' tl) (cl' := 0) (sl' := 0) rfl ?_
    refine fw_if_eq rfl rfl (by omega) (by omega) (fun q => absurd q (by omega)) (fun _ => ?_)
    refine fw_bi rfl (by decide) ?_
    refine ik_Wk 1 (pc' := 15) (loc' := [some (.ref 0), some (fI e.1), none]) (st' := [fI e.1, fI (-10)]) (h' := .inr (9, .ref 1 :: cs) :: cz_t t 0 cur' e.1 e.2 pl' C' G' P' B' tl) (cl' := 0) (sl' := 0) rfl ?_
    refine fw_sub rfl ?_
    have hb := zall_b n0 n1 hz
    exact ik_Wret rfl rfl ⟨_, _, rfl, rfl, fi_i (by omega) (by omega), rfl, congrArg some (fi_i (by omega) (by omega)), fun f hf j a b => (cz_rest j a b).trans (hf j a b)⟩
  | inr q =>
    rw [hz] at hR
    obtain ⟨rfl, cur', C', G', P', B', _, _, _, _, rfl, _, hrs, hq⟩ := hR
    have hq2 : 0 ≤ q.1 ∧ q.1 ≤ 12 := by
      have := hrs.1
      rcases hq with ⟨a, _⟩ | ⟨a, _⟩ <;> omega
    refine ik_Wk 1 (pc' := 8) (loc' := [some (.ref 0), some (fI 0), none]) (st' := []) (h' := .inr (9, .ref 1 :: cs) :: cz_t t 0 cur' 0 (-1) q.1 C' G' P' B' tl) (cl' := 0) (sl' := 0) rfl ?_
    refine sx_seg (Q := fun _ => True) (sx_h1 (kah_12 _) (sx_h1 (kah_14 _) (sx_h1 (kah_37 _) sx_h0))) k1 ⟨⟨_, rfl, 0, List.mem_singleton.mpr rfl, rfl⟩, ⟨_, rfl, Int32.ofInt 0, rfl, by decide, by decide⟩, rfl, trivial⟩ hT'.1 sx_cx_nil (fun u => nomatch u) ?_ ?_
    · intro O hO hb pc' loc' st' h' hur
      rw [List.mem_singleton] at hO
      subst hO
      obtain ⟨u1, u2, u3, ir, rv, u4, u5, u6, u7, u8⟩ := hur
      obtain ⟨v, rfl, v1, v2⟩ := sx_sr1 u6
      have hvq : v.toInt = q.1 := ?_
      · refine ⟨ir, v, u4, u5, hvq, fm_cell u1 (by decide +kernel) rfl, lk_ut u1 (by decide +kernel) (show _ = some (-1 : Int) from rfl), fun f hf => ?_⟩
        have e7 := cxr u7 (q := (1, 7, 0)) rfl (by decide) (by decide)
        rw [hvq] at e7
        exact q8 e7 (cx0 u7 (q := (1, 51, 1)) rfl (by decide) (by decide)) (cx0 u7 (q := (1, 56, 0)) rfl (by decide) (by decide)) (cx0 u7 (q := (1, 56, 1)) rfl (by decide) (by decide)) (cx0 u7 (q := (1, 58, 0)) rfl (by decide) (by decide)) (cx0 u7 (q := (1, 62, 0)) rfl (by decide) (by decide))
      obtain ⟨a, b, a1, b1, ab⟩ := u8 _ List.mem_cons_self
      obtain ⟨c, d, c1, d1, cd⟩ := u8 _ (List.mem_cons_of_mem _ List.mem_cons_self)
      have e5 : sx_lk [some (.ref 0), some (fI 0), none] [] (.inr (9, .ref 1 :: cs) :: cz_t t 0 cur' 0 (-1) q.1 C' G' P' B' tl) (1, 1, 5) = some q.1 := congrArg some (fi_i (by omega) (by omega))
      have er : sx_lk loc' [.int v] h' (2, 0, 0) = some v.toInt := rfl
      simp only [sx_xc, sx_xk, e5, er, Option.some.injEq] at a1 b1 c1 d1
      omega
    · intro O hO hb
      rw [List.mem_singleton] at hO
      subst hO
      cases hb
theorem zc_stream {h : List ik_E} (hC : cc_CI h) (hl : h.length = 94) {s : zst} (hZ : sc_Z s h) : ik_W none 91 0 (ik_loc (ik_ml 91) [.ref 0]) [] h 0 0 (pc_P cc_MC 91 (fun v h' => v.toInt = zret (zall s.1 (s.2 0)) ∧ sc_Z (s.1, znf (zall s.1 (s.2 0)) s.2) h') h) := by
  have hS := sc_ZS hZ
  have hcells := hZ.2.2.2
  have H1 := pc_stream hC
  obtain ⟨cs, T, cur, fl, pl, C, G, P, B, tl, e, ok, l1, l2, l3, l4, hn, hb⟩ := sc_view hC hl hS
  have okk := ok
  obtain ⟨htl, hT, bT, n0, n1, hy⟩ := okk
  rw [e] at hcells
  subst e
  have H2 : ik_W none 91 0 (ik_loc (ik_ml 91) [.ref 0]) [] (.inr (9, .ref 1 :: cs) :: cz_t T (s.2 0) cur fl (s.2 1) pl C G P B tl) 0 0 (fun z => ∃ ir v, ik_at 91 z.1 = some ir ∧ ik_rv (ik_rt 91) ir z.2.2.1 = some [.int v] ∧ v.toInt = zret (zall s.1 (s.2 0)) ∧ z.2.2.2.1[2]? = some (.inl (.byte, fA T)) ∧ sx_lk [] [] z.2.2.2.1 (1, 1, 4) = some (zfb (zall s.1 (s.2 0))) ∧ (∀ f : Nat → Int, (∀ j, 2 ≤ j → j < 8 → sx_lk [] [] (.inr (9, .ref 1 :: cs) :: cz_t T (s.2 0) cur fl (s.2 1) pl C G P B tl) (1, (qc j).1, (qc j).2) = some (f j)) → ∀ j, 2 ≤ j → j < 8 → sx_lk [] [] z.2.2.2.1 (1, (qc j).1, (qc j).2) = some (znx (zall s.1 (s.2 0)) f j))) := by
    rcases hC with q | q
    · exact sc_str s5_A q ok l1 l2 l3 l4
    · exact sc_str s5_B q ok l1 l2 l3 l4
  refine sx_W_mono (ik_W_and H1 H2) ?_
  rintro z ⟨⟨ir, v, z1, z2, z3, z4, z5, z6, z7⟩, ir', v', q1, q2, q3, q4, q5, q6⟩
  rw [z1] at q1
  cases q1
  rw [z2] at q2
  cases q2
  have q6' := q6 s.2 (fun j a b => hcells j b)
  refine ⟨ir, v, z1, z2, ⟨q3, ⟨T, q4, hT, fun i a b => absurd (show i < 0 from b) (by omega)⟩, Int.le_refl 0, (by decide : (0 : Int) ≤ 500), fun j hj => ?_⟩, z4, z5, z6, z7⟩
  have hj3 : j = 0 ∨ j = 1 ∨ 2 ≤ j := by omega
  rcases hj3 with rfl | rfl | hj2
  · exact z3
  · exact q5
  · show _ = some (znf (zall s.1 (s.2 0)) s.2 j)
    unfold znf
    rw [if_neg (by omega), if_neg (by omega)]
    exact q6' j hj2 hj
/-! stream of the reference -/
theorem rf_upd {f f' : List sx_V} {h : List ik_E} {fs fs' : List Value} (hh : sx_hr [] (rf_H f) h) (h66 : h[66]? = some (.inr (10, fs))) (hs : sx_sr [] f' fs') : sx_hr [] (rf_H f') (h.set 66 (.inr (10, fs'))) := by
  have hlt : 66 < h.length := by
    rcases Nat.lt_or_ge 66 h.length with q | q
    · exact q
    · rw [List.getElem?_eq_none q] at h66; cases h66
  refine ⟨by rw [List.length_set]; exact hh.1, fun a c hc => ?_⟩
  by_cases e : a = 66
  · subst e
    have : (some (some (Sum.inl (10, f') : sx_C))) = some (some c) := hc
    cases this
    exact ⟨_, by rw [List.getElem?_set_self hlt], fs', rfl, hs⟩
  · have hc' : sx_hg (rf_H f) a = some (some c) := by
      rw [← hc]
      unfold sx_hg
      cases hb : Nat.blt a 66 with
      | true => rfl
      | false =>
        have hge : ¬ a < 66 := fun q => by
          have : Nat.blt a 66 = true := Nat.ble_eq_true_of_le q
          rw [this] at hb
          cases hb
        obtain ⟨k, hk⟩ : ∃ k, a - 66 = k + 1 := ⟨a - 67, by omega⟩
        simp only [cond_false]
        rw [hk]
        rfl
    obtain ⟨d, h1, h2⟩ := hh.2 a c hc'
    exact ⟨d, by rw [List.getElem?_set_ne (fun q => e q.symm)]; exact h1, h2⟩
theorem s6_f : ((rc_f.set 11 (sx_ri (-2147483648) 2147483647)).set 12 (sx_ri 0 500)).set 17 (sx_ri 0 0) = rc_rp 0 := rfl
theorem s6_u : sx_md s2_M 66 17 = false ∧ sx_md s2_M 66 11 = false ∧ sx_mt s2_M 72 = false ∧ sx_md s3_M 66 11 = false ∧ sx_mt s3_M 72 = false := by decide +kernel
def s7_x : List sx_X := [(0, [(1, 2, 0, 0), (-1, 1, 66, 0)]), (0, [(-1, 2, 0, 0), (1, 1, 66, 0)]), (0, [(1, 1, 66, 36)]), (0, [(-1, 1, 66, 36)]), (0, [(1, 1, 90, 0)]), (0, [(-1, 1, 90, 0)]), (0, [(1, 1, 90, 1)]), (0, [(-1, 1, 90, 1)]), (0, [(1, 1, 93, 0)]), (0, [(-1, 1, 93, 0)]), (0, [(1, 1, 93, 1)]), (0, [(-1, 1, 93, 1)])]
def s7_k (j : Nat) : Bool := sx_sg [] [] s3_M false 1000 147 80 [some (sx_va [66]), none, none] (rf_H (s3_f j)) [] [] [] [(true, 0, [], [sx_ri j j], ([], []), s7_x, [])]
theorem s7_ka : (List.range 13).all s7_k = true := by decide +kernel
theorem sr_str {h : List ik_E} (hI : rc_RI h) {pre tl : List ik_E} {w : Nat → Value} {wt : List Value} {c : Nat → ik_E} {t : List Int} {y : Int → Int} {n fb a0 sd we nu na rp : Int} {M R O A : List Int} (eh : h = pre ++ rz_t w wt c tl t n fb a0 sd we nu na rp M R O A) (ok : rz_ok y t n pre tl) (hM : M.length = 12) (hR : R.length = 48) (hO : O.length = 48) (hA : A.length = 48) : ik_W none 147 0 (ik_loc (ik_ml 147) [.ref 66]) [] h 0 0 (fun z => ∃ ir v, ik_at 147 z.1 = some ir ∧ ik_rv (ik_rt 147) ir z.2.2.1 = some [.int v] ∧ v.toInt = zret (zall y n) ∧ z.2.2.2.1[72]? = some (.inl (.int, fA t)) ∧ sx_lk [] [] z.2.2.2.1 (1, 66, 11) = some (zfb (zall y n)) ∧ (∀ f : Nat → Int, (∀ j, 2 ≤ j → j < 8 → sx_lk [] [] h (1, (qr j).1, (qr j).2) = some (f j)) → ∀ j, 2 ≤ j → j < 8 → sx_lk [] [] z.2.2.2.1 (1, (qr j).1, (qr j).2) = some (znx (zall y n) f j))) := by
  have okk := ok
  obtain ⟨hpre, htl, ht, bT, n0, n1, hy⟩ := okk
  have hh := rc_gen hI
  have g66 : ∀ {t' : List Int} {n' fp' a0' sd' we' nu' na' rp' : Int} {M' R' O' A' : List Int}, (pre ++ rz_t w wt c tl t' n' fp' a0' sd' we' nu' na' rp' M' R' O' A')[66]? = some _ := fun {t' n' fp' a0' sd' we' nu' na' rp' M' R' O' A'} => rz_g 0 hpre rfl
  have h66 := congrArg (fun l : List ik_E => l[66]?) eh
  rw [g66] at h66
  obtain ⟨d, hd, fs, e1, e2⟩ := hh.2 66 (.inl (10, rc_f)) rfl
  subst e1
  rw [hd] at h66
  have hfs : fs = w 0 :: w 1 :: w 2 :: w 3 :: w 4 :: w 5 :: w 6 :: w 7 :: w 8 :: .ref 72 :: fI n :: fI fb :: fI a0 :: fJ sd :: fI we :: fI nu :: fI na :: fI rp :: .ref 73 :: .ref 74 :: .ref 75 :: .ref 76 :: wt := by
    injection h66 with q
    injection q with q
    injection q
  have hs3 : sx_sr [] (rc_rp 0) (((fs.set 11 (fI (-1))).set 12 (fI 0)).set 17 (fI 0)) := by
    rw [← s6_f]
    exact sx_sr_set0 (sx_sr_set0 (sx_sr_set0 e2 ⟨_, rfl, by decide, by decide⟩) ⟨_, rfl, by decide, by decide⟩) ⟨_, rfl, by decide, by decide⟩
  have hh1 : sx_hr [] (rf_H (rc_rp 0)) (pre ++ rz_t w wt c tl t n (-1) 0 sd we nu na 0 M R O A) := by
    have := rf_upd hh hd hs3
    rw [hfs, eh] at this
    have es : (pre ++ rz_t w wt c tl t n fb a0 sd we nu na rp M R O A).set (66 + 0) _ = pre ++ rz_t w wt c tl t n (-1) 0 sd we nu na 0 M R O A := rz_s 0 hpre rfl
    rw [← es]
    exact this
  have hrd : sx_hr [] (rd_H (rc_rp 0)) (pre ++ rz_t w wt c tl t n (-1) 0 sd we nu na 0 M R O A) := sx_lh0 hh1 s1_rd
  have F1 := rz_al (w := w) (wt := wt) (c := c) (fp := -1) (sd := sd) (we := we) (nu := nu) (na := na) ok hM hR hO hA
  have F2 := ta_all hrd
  have F : ik_F 145 [.ref 66] (pre ++ rz_t w wt c tl t n (-1) 0 sd we nu na 0 M R O A) (fun rv h' => rz_RA pre tl w wt c t n (-1) (zall y n) rv h' ∧ sx_hr [] (rf_H rc_f) h') := by
    unfold ik_F at F1 ⊢
    refine ik_Wmono (ik_W_and F1 F2) ?_
    rintro z ⟨⟨ir, rv, z1, z2, z3, z4, z5⟩, ir', v', w1, w2, w3, w4, w5, w6, w7⟩
    exact ⟨ir, rv, z1, z2, z3, z4, z5, (sx_tk_ok (T := (rf_H (rc_rp 0), [])) (T' := (rf_H rc_f, [])) (xs := []) (loc := []) (st := []) ⟨hh1, sx_cx_nil⟩ w4 w3 sx_cx_nil s1_tk).1⟩
  rw [eh]
  refine ik_Wk 2 (pc' := 2) (loc' := [some (.ref 66), none, none]) (st' := [fI (-1), .ref 66]) (h' := pre ++ rz_t w wt c tl t n fb a0 sd we nu na rp M R O A) (cl' := 0) (sl' := 0) rfl ?_
  refine fw_pf (h' := pre ++ rz_t w wt c tl t n (-1) a0 sd we nu na rp M R O A) rfl rfl (rz_g 0 hpre rfl) (Nat.le_of_ble_eq_true rfl) rfl rfl (rz_s 0 hpre rfl) ?_
  refine ik_Wk 2 (pc' := 7) (loc' := [some (.ref 66), none, none]) (st' := [fI 0, .ref 66]) (h' := pre ++ rz_t w wt c tl t n (-1) a0 sd we nu na rp M R O A) (cl' := 0) (sl' := 0) rfl ?_
  refine fw_pf (h' := pre ++ rz_t w wt c tl t n (-1) 0 sd we nu na rp M R O A) rfl rfl (rz_g 0 hpre rfl) (Nat.le_of_ble_eq_true rfl) rfl rfl (rz_s 0 hpre rfl) ?_
  refine ik_Wk 2 (pc' := 12) (loc' := [some (.ref 66), none, none]) (st' := [fI 0, .ref 66]) (h' := pre ++ rz_t w wt c tl t n (-1) 0 sd we nu na rp M R O A) (cl' := 0) (sl' := 0) rfl ?_
  refine fw_pf (h' := pre ++ rz_t w wt c tl t n (-1) 0 sd we nu na 0 M R O A) rfl rfl (rz_g 0 hpre rfl) (Nat.le_of_ble_eq_true rfl) rfl rfl (rz_s 0 hpre rfl) ?_
  refine ik_Wk 1 (pc' := 16) (loc' := [some (.ref 66), none, none]) (st' := [.ref 66]) (h' := pre ++ rz_t w wt c tl t n (-1) 0 sd we nu na 0 M R O A) (cl' := 0) (sl' := 0) rfl ?_
  refine fw_call 145 1 0 [.ref 66] [] rfl rfl rfl (by decide) rfl rfl (fw_rec (rz_len hpre htl) rfl (rz_g 0 hpre rfl) rfl (by decide)) F ?_
  rintro rv h' ⟨hRA, hh'⟩
  cases hz : zall y n with
  | inl e =>
    rw [hz] at hRA
    obtain ⟨rfl, he1, he2, a', sd', we', nu', na', rp', M', R', O', A', _, _, _, _, rfl⟩ := hRA
    have hb := zall_b n0 n1 hz
    refine ik_Wk 3 (pc' := 22) (loc' := [some (.ref 66), some (fI e.1), none]) (st' := [fI 0, .ref 66]) (h' := pre ++ rz_t w wt c tl t n e.2 a' sd' we' nu' na' rp' M' R' O' A') (cl' := 0) (sl' := 0) rfl ?_
    refine fw_pf (h' := pre ++ rz_t w wt c tl t 0 e.2 a' sd' we' nu' na' rp' M' R' O' A') rfl rfl (rz_g 0 hpre rfl) (Nat.le_of_ble_eq_true rfl) rfl rfl (rz_s 0 hpre rfl) ?_
    refine ik_Wk 1 (pc' := 26) (loc' := [some (.ref 66), some (fI e.1), none]) (st' := [fI e.1]) (h' := pre ++ rz_t w wt c tl t 0 e.2 a' sd' we' nu' na' rp' M' R' O' A') (cl' := 0) (sl' := 0) rfl ?_
    refine fw_if_le rfl rfl (by omega) (by omega) (fun q => absurd q (by omega)) (fun _ => ?_)
    refine fw_bi rfl (by decide) ?_
    refine ik_Wk 1 (pc' := 32) (loc' := [some (.ref 66), some (fI e.1), none]) (st' := [fI e.1, fI (-10)]) (h' := pre ++ rz_t w wt c tl t 0 e.2 a' sd' we' nu' na' rp' M' R' O' A') (cl' := 0) (sl' := 0) rfl ?_
    refine fw_sub rfl ?_
    refine ik_Wret rfl rfl ⟨_, _, rfl, rfl, fi_i (by omega) (by omega), rz_g 6 hpre rfl, ?_, fun f hf j a b => ?_⟩
    · simp only [sx_lk]
      rw [g66]
      exact congrArg some (fi_i (by omega) (by omega))
    · exact (rz_rest hpre j a b).trans (hf j a b)
  | inr q =>
    rw [hz] at hRA
    obtain ⟨rfl, a', sd', we', nu', na', M', R', O', A', _, _, _, _, rfl, _, hrs, hq⟩ := hRA
    have hq2 : 0 ≤ q.1 ∧ q.1 ≤ 12 := by
      have := hrs.1
      rcases hq with ⟨a, _⟩ | a <;> omega
    refine ik_Wk 1 (pc' := 20) (loc' := [some (.ref 66), some (fI 0), none]) (st' := []) (h' := pre ++ rz_t w wt c tl t n (-1) a' sd' we' nu' na' q.1 M' R' O' A') (cl' := 0) (sl' := 0) rfl ?_
    have L17 : sx_lk [] [] (pre ++ rz_t w wt c tl t n (-1) a' sd' we' nu' na' q.1 M' R' O' A') (1, 66, 17) = some q.1 := by
      simp only [sx_lk]
      rw [g66]
      exact congrArg some (fi_i (by omega) (by omega))
    have L11 : sx_lk [] [] (pre ++ rz_t w wt c tl t n (-1) a' sd' we' nu' na' q.1 M' R' O' A') (1, 66, 11) = some (-1) := by
      simp only [sx_lk]
      rw [g66]
      rfl
    have L72 : (pre ++ rz_t w wt c tl t n (-1) a' sd' we' nu' na' q.1 M' R' O' A')[72]? = some (.inl (.int, fA t)) := rz_g 6 hpre rfl
    refine sx_seg (Q := qq) sx_h0 s2_k ⟨⟨_, rfl, 66, List.mem_singleton.mpr rfl, rfl⟩, ⟨_, rfl, Int32.ofInt 0, rfl, by decide, by decide⟩, rfl, trivial⟩ hh' (fun x hx => (nomatch hx)) (fun u => nomatch u) ?_ ?_
    · intro O hO hb
      rw [List.mem_singleton] at hO
      subst hO
      cases hb
    · intro O hO hb loc' h1 huc
      rw [List.mem_singleton] at hO
      subst hO
      obtain ⟨u1, u2, u3, u4, u5, u6⟩ := huc
      obtain ⟨x, x1, x2, hx, hh1⟩ := rc_fix (k := 17) (l := 0) (u := 12) u3 rfl
      obtain ⟨y', y1, y2, hy', hh2⟩ := rc_fix (k := 0) (l := 0) (u := 12) hh1 rfl
      have hxy : y' = x := by
        obtain ⟨a, a1, a2⟩ := u5 (0, [(1, qf_pl), (-1, qf_rp)]) List.mem_cons_self
        obtain ⟨b, b1, b2⟩ := u5 (0, [(-1, qf_pl), (1, qf_rp)]) (List.mem_cons_of_mem _ List.mem_cons_self)
        simp only [sx_xc, sx_xk, qf_pl, qf_rp, hx, hy', Option.some.injEq] at a1 b1
        omega
      subst hxy
      have hxq : y' = q.1 := by
        have h17 := lk_ut u1 s6_u.1 L17
        rw [hx [] []] at h17
        injection h17
      obtain ⟨j, hj⟩ : ∃ j : Nat, y' = (j : Int) := ⟨y'.toNat, by omega⟩
      subst hj
      have hj13 : j < 13 := by omega
      have L11' := lk_ut u1 s6_u.2.1 L11
      have L72' := fm_cell u1 s6_u.2.2.1 L72
      refine sx_seg (Q := qq) sx_h0 (List.all_eq_true.mp s7_ka j (List.mem_range.mpr hj13)) (by rw [u2]; exact u4) hh2 (fun x hx => (nomatch hx)) (fun u => nomatch u) ?_ ?_
      · intro O hO hb pc' loc2 st' h2 hur
        rw [List.mem_singleton] at hO
        subst hO
        obtain ⟨v1, v2, v3, ir, rv, v4, v5, v6, v7, v8⟩ := hur
        obtain ⟨v, rfl, w1, w2⟩ := sx_sr1 v6
        have hvq : v.toInt = q.1 := by omega
        refine ⟨ir, v, v4, v5, hvq, fm_cell v1 s6_u.2.2.2.2 L72', lk_ut v1 s6_u.2.2.2.1 L11', fun f hf => ?_⟩
        have v7' : sx_cx loc2 [.int v] h2 s7_x := v7
        have e7 := cxr v7' (q := (1, 66, 0)) rfl (by decide) (by decide)
        rw [hvq] at e7
        exact q8 e7 (cx0 v7' (q := (1, 66, 36)) rfl (by decide) (by decide)) (cx0 v7' (q := (1, 90, 0)) rfl (by decide) (by decide)) (cx0 v7' (q := (1, 90, 1)) rfl (by decide) (by decide)) (cx0 v7' (q := (1, 93, 0)) rfl (by decide) (by decide)) (cx0 v7' (q := (1, 93, 1)) rfl (by decide) (by decide))
      · intro O hO hb
        rw [List.mem_singleton] at hO
        subst hO
        cases hb
theorem zr_stream {h : List ik_E} (hI : rc_RI h) (hl : h.length = 94) {s : zst} (hZ : sr_Z s h) : ik_W none 147 0 (ik_loc (ik_ml 147) [.ref 66]) [] h 0 0 (pr_P rc_MR 147 (fun v h' => v.toInt = zret (zall s.1 (s.2 0)) ∧ sr_Z (s.1, znf (zall s.1 (s.2 0)) s.2) h') h) := by
  have hS := sr_ZS hZ
  have H1 := pr_stream hI
  obtain ⟨pre, tl, w, wt, c, T, a0, sd, we, nu, na, rp, M, R, O, A, e, ok, l1, l2, l3, l4, hn, hb⟩ := sr_view hI hl hS
  have H2 := sr_str hI e ok l1 l2 l3 l4
  refine sx_W_mono (ik_W_and H1 H2) ?_
  rintro z ⟨⟨ir, v, z1, z2, z3, z4, z5, z6, z7⟩, ir', v', q1, q2, q3, q4, q5, q6⟩
  rw [z1] at q1
  cases q1
  rw [z2] at q2
  cases q2
  have q6' := q6 s.2 (fun j a b => hZ.2.2.2 j b)
  refine ⟨ir, v, z1, z2, ⟨q3, ⟨T, q4, ok.2.2.1, fun i a b => absurd (show i < 0 from b) (by omega)⟩, Int.le_refl 0, (by decide : (0 : Int) ≤ 500), fun j hj => ?_⟩, z4, z5, z6, z7⟩
  have hj3 : j = 0 ∨ j = 1 ∨ 2 ≤ j := by omega
  rcases hj3 with rfl | rfl | hj2
  · exact z3
  · exact q5
  · show _ = some (znf (zall s.1 (s.2 0)) s.2 j)
    unfold znf
    rw [if_neg (by omega), if_neg (by omega)]
    exact q6' j hj2 hj
end
