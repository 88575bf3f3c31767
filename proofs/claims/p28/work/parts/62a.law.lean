noncomputable section
/-! THE LAW: call by call -/
def lw_LI (h : List ik_E) : Prop := cc_CI h ∧ rc_RI h ∧ h.length = 94
/-- the text's state of the class, and of the reference -/
def lw_E (a b : zst) (h : List ik_E) : Prop := lw_LI h ∧ sc_Z a h ∧ sr_Z b h
def lw_LOC (i : Int32) : ik_L := [some (.retAddr 0), some (.ref 0), some (.ref 66), some (.int i)]
def lw_post (z : ik_St) : Prop := ik_at 0 z.1 = some .ireturn ∧ z.2.2.1 = [.int 1] ∧ z.2.2.2.2.1 ≤ 600000 ∧ z.2.2.2.2.2 ≤ 7302250
theorem lw_cr : sx_tk rc_TA rc_TA cc_MC cc_TA.1 [] = true ∧ sx_tk rc_TA rc_TA cc_MC cc_TB.1 [] = true ∧ sx_tk rc_TB rc_TB cc_MC cc_TA.1 [] = true ∧ sx_tk rc_TB rc_TB cc_MC cc_TB.1 [] = true ∧ qq_ut cc_MC = true := by decide +kernel
theorem lw_rc : sx_tk cc_TA cc_TA rc_MR rc_TA.1 [] = true ∧ sx_tk cc_TA cc_TA rc_MR rc_TB.1 [] = true ∧ sx_tk cc_TB cc_TB rc_MR rc_TA.1 [] = true ∧ sx_tk cc_TB cc_TB rc_MR rc_TB.1 [] = true := by decide +kernel
/-- behind a call of the class -/
theorem lw_LI1 {h h' : List ik_E} (hL : lw_LI h) (hC : cc_CI h') (hf : sx_fm cc_MC h h') : lw_LI h' := by
  obtain ⟨_, hR, hl⟩ := hL
  refine ⟨hC, ⟨?_, qq_fr lw_cr.2.2.2.2 hf hR.2⟩, hf.1.trans hl⟩
  rcases hR.1 with q | q <;> rcases hC with c | c
  · exact Or.inl (sx_tk_ok (xs := []) (loc := []) (st := []) q hf c.1 sx_cx_nil lw_cr.1)
  · exact Or.inl (sx_tk_ok (xs := []) (loc := []) (st := []) q hf c.1 sx_cx_nil lw_cr.2.1)
  · exact Or.inr (sx_tk_ok (xs := []) (loc := []) (st := []) q hf c.1 sx_cx_nil lw_cr.2.2.1)
  · exact Or.inr (sx_tk_ok (xs := []) (loc := []) (st := []) q hf c.1 sx_cx_nil lw_cr.2.2.2.1)
/-- behind a call of the reference -/
theorem lw_LI2 {h h' : List ik_E} (hL : lw_LI h) (hR : rc_RI h') (hf : sx_fm rc_MR h h') : lw_LI h' := by
  obtain ⟨hC, _, hl⟩ := hL
  refine ⟨?_, hR, hf.1.trans hl⟩
  rcases hC with q | q <;> rcases hR.1 with c | c
  · exact Or.inl (sx_tk_ok (xs := []) (loc := []) (st := []) q hf c.1 sx_cx_nil lw_rc.1)
  · exact Or.inl (sx_tk_ok (xs := []) (loc := []) (st := []) q hf c.1 sx_cx_nil lw_rc.2.1)
  · exact Or.inr (sx_tk_ok (xs := []) (loc := []) (st := []) q hf c.1 sx_cx_nil lw_rc.2.2.1)
  · exact Or.inr (sx_tk_ok (xs := []) (loc := []) (st := []) q hf c.1 sx_cx_nil lw_rc.2.2.2)
def lw_f0 : List sx_V := [sx_va [1], sx_va [7], sx_va [14], sx_va [17], sx_va [45], sx_va [51], sx_va [54], sx_va [57]]
theorem lw_c0 : sx_hg cc_TA.1 0 = some (some (.inl (9, lw_f0))) ∧ sx_hg cc_TB.1 0 = some (some (.inl (9, lw_f0))) := ⟨rfl, rfl⟩
theorem lw_0 {h : List ik_E} (hL : lw_LI h) : ∃ fs, h[0]? = some (.inr (9, fs)) := by
  rcases hL.1 with q | q
  · obtain ⟨d, h1, fs, h2, _⟩ := q.1.2 0 _ lw_c0.1
    rw [h2] at h1
    exact ⟨fs, h1⟩
  · obtain ⟨d, h1, fs, h2, _⟩ := q.1.2 0 _ lw_c0.2
    rw [h2] at h1
    exact ⟨fs, h1⟩
theorem lw_66 {h : List ik_E} (hL : lw_LI h) : ∃ fs, h[66]? = some (.inr (10, fs)) := by
  obtain ⟨d, h1, fs, h2, _⟩ := (rc_gen hL.2.1).2 66 (.inl (10, rc_f)) rfl
  rw [h2] at h1
  exact ⟨fs, h1⟩
def lw_fk (q ci : Nat) : Bool := decide (ik_fr q + 1 ≤ ik_fr 0) && decide (8 + (ik_ml q + 11) + ik_lo q ≤ ik_lo 0) && decide (q < ik_M.length) && decide (ci = ik_ow q) && decide (ci < 11)
theorem lw_fit {q ci a : Nat} (hk : lw_fk q ci = true) {h : List ik_E} (hl : h.length = 94) {fs : List Value} (ha : h[a]? = some (.inr (ci, fs))) {as rest : List Value} (hm : (ik_args (.ref a :: as)).length ≤ ik_ml q) (hr : ik_sum rest ≤ 8) (hr2 : rest.all (ik_wv 94) = true) {i : Int32} : ik_fitC 0 q 0 (.ref a :: as) h rest (lw_LOC i) = true := by
  unfold lw_fk at hk
  simp only [Bool.and_eq_true] at hk
  unfold ik_fitC
  simp only [ha, hl, Bool.and_eq_true]
  exact ⟨⟨⟨⟨⟨⟨⟨hk.1.1.1.1, hk.1.1.1.2⟩, decide_eq_true hr⟩, decide_eq_true hm⟩, hk.1.1.2⟩, hr2⟩, rfl⟩, hk.1.2, hk.2⟩
theorem lw_ud : sr_k cc_MC = true ∧ sc_k rc_MR = true := by decide +kernel
theorem lw_un : sc_k cc_N = true ∧ sr_k rc_N = true ∧ sx_mle cc_N cc_MC = true ∧ sx_mle rc_N rc_MR = true ∧ sx_mle cc_MC cc_MC = true ∧ sx_mle rc_MR rc_MR = true := by decide +kernel
theorem lw_uq : sx_mle cc_Nr cc_MC = true ∧ sx_mle cc_Nl cc_MC = true ∧ sx_mle cc_Nk cc_MC = true ∧ sx_mle rc_Nr rc_MR = true ∧ sx_mle rc_Nl rc_MR = true ∧ sx_mle rc_Nk rc_MR = true := by decide +kernel
/-- a call of the class -/
theorem lw_cx {L : Nat} {f : Nat → Int32} {pc x q k : Nat} {N : sx_M} {A : Int32 → List ik_E → Prop} {a b a' : zst} (as rest : List Value) (hi : ik_at 0 pc = some (.invokevirtual x)) (hc : ik_call 0 (.invokevirtual x) = some (q, k, 0)) (hk : lw_fk q 9 = true) {h : List ik_E} (hL : lw_E a b h) (hW : ik_W none q 0 (ik_loc (ik_ml q) (.ref 0 :: as)) [] h 0 0 (pc_P N q A h)) (hm : (ik_args (.ref 0 :: as)).length ≤ ik_ml q) (hr : ik_sum rest ≤ 8) (hr2 : rest.all (ik_wv 94) = true) {st : List Value} (hst : st = (.ref 0 :: as).reverse ++ rest) (hlen : (.ref 0 :: as : List Value).length = k) {i : Int32} {cl sl : Nat} {post : ik_St → Prop} (hN : sx_mle N cc_MC = true) (ha : ∀ v h', A v h' → sx_fm N h h' → sc_Z a' h') (kk : ∀ v h', A v h' → lw_E a' b h' → ik_W (some (L, f)) 0 (pc + 3) (lw_LOC i) (.int v :: rest) h' cl sl post) : ik_W (some (L, f)) 0 pc (lw_LOC i) st h cl sl post := by
  obtain ⟨fs, h0⟩ := lw_0 hL.1
  refine ik_Wc q k 0 (.ref 0 :: as) rest hi rfl hc (by decide) hst hlen (lw_fit hk hL.1.2.2 h0 hm hr hr2) ?_
  refine sx_W_mono hW ?_
  rintro z ⟨ir, v, z1, z2, z3, z4, z5, z6, z7⟩
  refine ⟨ir, [.int v], z1, z2, ?_⟩
  rw [z6, z7]
  have z5' := sx_fm_trans (sx_mle_ok hN) (sx_fm_refl _ _) z5
  exact kk v _ z3 ⟨lw_LI1 hL.1 z4 z5', ha v _ z3 z5, sr_fm z5' lw_ud.1 hL.2.2⟩
/-- a call of the reference -/
theorem lw_cm {L : Nat} {f : Nat → Int32} {pc x q k : Nat} {N : sx_M} {A : Int32 → List ik_E → Prop} {a b a' : zst} (as rest : List Value) (hi : ik_at 0 pc = some (.invokevirtual x)) (hc : ik_call 0 (.invokevirtual x) = some (q, k, 0)) (hk : lw_fk q 10 = true) {h : List ik_E} (hL : lw_E a b h) (hW : ik_W none q 0 (ik_loc (ik_ml q) (.ref 66 :: as)) [] h 0 0 (pr_P N q A h)) (hm : (ik_args (.ref 66 :: as)).length ≤ ik_ml q) (hr : ik_sum rest ≤ 8) (hr2 : rest.all (ik_wv 94) = true) {st : List Value} (hst : st = (.ref 66 :: as).reverse ++ rest) (hlen : (.ref 66 :: as : List Value).length = k) {i : Int32} {cl sl : Nat} {post : ik_St → Prop} (hN : sx_mle N rc_MR = true) (ha : ∀ v h', A v h' → sx_fm N h h' → sr_Z a' h') (kk : ∀ v h', A v h' → lw_E a a' h' → ik_W (some (L, f)) 0 (pc + 3) (lw_LOC i) (.int v :: rest) h' cl sl post) : ik_W (some (L, f)) 0 pc (lw_LOC i) st h cl sl post := by
  obtain ⟨fs, h0⟩ := lw_66 hL.1
  refine ik_Wc q k 0 (.ref 66 :: as) rest hi rfl hc (by decide) hst hlen (lw_fit hk hL.1.2.2 h0 hm hr hr2) ?_
  refine sx_W_mono hW ?_
  rintro z ⟨ir, v, z1, z2, z3, z4, z5, z6, z7⟩
  refine ⟨ir, [.int v], z1, z2, ?_⟩
  rw [z6, z7]
  have z5' := sx_fm_trans (sx_mle_ok hN) (sx_fm_refl _ _) z5
  exact kk v _ z3 ⟨lw_LI2 hL.1 z4 z5', sc_fm z5' lw_ud.2 hL.2.1, ha v _ z3 z5⟩
/-- an int of the script -/
theorem lw_ld {L : Nat} {f : Nat → Int32} {pc : Nat} {j i : Int32} {h : List ik_E} {st : List Value} {cl sl : Nat} {post : ik_St → Prop} (hi : ik_at 0 pc = some .iaload) (h0 : 0 ≤ j.toInt) (h1 : j.toInt < L) (kk : ik_W (some (L, f)) 0 (pc + 1) (lw_LOC i) (.int (f j.toInt.toNat) :: st) h cl sl post) : ik_W (some (L, f)) 0 pc (lw_LOC i) (.int j :: .retAddr 0 :: st) h cl sl post := by
  have e1 : j.toNatClampNeg = j.toInt.toNat := rfl
  refine sx_W1 hi rfl rfl ?_ kk
  simp only [ik_step, ik_bo]
  rw [e1, if_pos]
  rintro (q | q)
  · rw [cv_lt] at q
    have e0 : (0 : Int32).toInt = 0 := rfl
    omega
  · omega
theorem lw_arg {L : Nat} {f : Nat → Int32} {pc : Nat} {i : Int32} {h : List ik_E} {st : List Value} {cl sl : Nat} {post : ik_St → Prop} (c : Nat) (hr : ik_at 0 pc = some (.aload_n 0) ∧ ik_at 0 (pc + 1) = some (.iload_n 3) ∧ ik_at 0 (pc + 2) = some (.iconst c) ∧ ik_at 0 (pc + 3) = some .iadd ∧ ik_at 0 (pc + 4) = some .iaload) (hc : c ≤ 4) (h0 : 0 ≤ i.toInt) (h1 : i.toInt + 4 < L) (hL : L ≤ 2560) (kk : ik_W (some (L, f)) 0 (pc + 5) (lw_LOC i) (.int (f (i.toInt.toNat + c)) :: st) h cl sl post) : ik_W (some (L, f)) 0 pc (lw_LOC i) st h cl sl post := by
  obtain ⟨r1, r2, r3, r4, r5⟩ := hr
  refine sx_W1 r1 rfl rfl (loc' := lw_LOC i) (st' := .retAddr 0 :: st) (h' := h) (cl' := cl) (sl' := sl) rfl ?_
  refine sx_W1 r2 rfl rfl (loc' := lw_LOC i) (st' := .int i :: .retAddr 0 :: st) (h' := h) (cl' := cl) (sl' := sl) rfl ?_
  refine sx_W1 r3 rfl rfl (loc' := lw_LOC i) (st' := .int (Int32.ofInt c) :: .int i :: .retAddr 0 :: st) (h' := h) (cl' := cl) (sl' := sl) rfl ?_
  refine sx_W1 r4 rfl rfl (loc' := lw_LOC i) (st' := .int (i + Int32.ofInt c) :: .retAddr 0 :: st) (h' := h) (cl' := cl) (sl' := sl) rfl ?_
  have ec : (Int32.ofInt (c : Int)).toInt = c := by
    rw [Int32.toInt_ofInt]
    exact sx_bm (by omega) (by omega)
  have ej : (i + Int32.ofInt (c : Int)).toInt = i.toInt + c := by
    rw [Int32.toInt_add, ec]
    exact sx_bm (by omega) (by omega)
  refine lw_ld r5 (by omega) (by omega) ?_
  rw [ej, show (i.toInt + (c : Int)).toNat = i.toInt.toNat + c by omega]
  exact kk
def lw_b1 (u : Int32) : Int64 := u.toInt64 <<< ((Int8.ofInt 32).toInt32.toInt64 &&& 63)
def lw_b2 (a : Int64) (u : Int32) : Int64 := a ||| (u.toInt64 &&& 4294967295)
set_option maxHeartbeats 4000000 in
set_option maxRecDepth 100000 in
theorem lw_k0 {L : Nat} {f : Nat → Int32} {i : Int32} {h : List ik_E} {t : zst} (hL : lw_E t t h) (h0 : 0 ≤ i.toInt) (h1 : i.toInt + 4 < L) (h2 : L ≤ 2560) (kk : ∀ t' h', lw_E t' t' h' → ik_W (some (L, f)) 0 1131 (lw_LOC i) [] h' 94 4156 lw_post) : ik_W (some (L, f)) 0 172 (lw_LOC i) [] h 94 4156 lw_post := by
  refine ik_Wk 1 (pc' := 173) (loc' := lw_LOC i) (st' := [.ref 0]) (h' := h) (cl' := 94) (sl' := 4156) rfl ?_
  refine lw_arg 1 ⟨rfl, rfl, rfl, rfl, rfl⟩ (by decide) h0 h1 h2 ?_
  refine lw_arg 2 ⟨rfl, rfl, rfl, rfl, rfl⟩ (by decide) h0 h1 h2 ?_
  obtain ⟨y0, ey0, hyy0⟩ : ∃ y0 : Int64, ik_run 3 (some (L, f)) 0 (183, lw_LOC i, [.int (f (i.toInt.toNat + 2)), .int (f (i.toInt.toNat + 1)), .ref 0], h, 94, 4156) = some (187, lw_LOC i, [.long y0, .int (f (i.toInt.toNat + 1)), .ref 0], h, 94, 4156) ∧ y0 = lw_b1 ((f (i.toInt.toNat + 2))) := ⟨_, rfl, rfl⟩
  refine ik_Wk 3 ey0 ?_
  refine lw_arg 3 ⟨rfl, rfl, rfl, rfl, rfl⟩ (by decide) h0 h1 h2 ?_
  obtain ⟨y1, ey1, hyy1⟩ : ∃ y1 : Int64, ik_run 4 (some (L, f)) 0 (192, lw_LOC i, [.int (f (i.toInt.toNat + 3)), .long y0, .int (f (i.toInt.toNat + 1)), .ref 0], h, 94, 4156) = some (198, lw_LOC i, [.long y1, .int (f (i.toInt.toNat + 1)), .ref 0], h, 94, 4156) ∧ y1 = lw_b2 y0 ((f (i.toInt.toNat + 3))) := ⟨_, rfl, rfl⟩
  refine ik_Wk 4 ey1 ?_
  refine lw_cx [.int (f (i.toInt.toNat + 1)), .long y1] [] rfl rfl (by decide +kernel) hL (zc_feed hL.1.1 hL.1.2.2 hL.2.1) (Nat.le_of_ble_eq_true rfl) (Nat.le_of_ble_eq_true rfl) rfl rfl rfl lw_un.2.2.2.2.1 (fun _ _ r _ => r.2) ?_
  intro v2 h_2 av2 hLv2
  refine ik_Wk 1 (pc' := 202) (loc' := lw_LOC i) (st' := []) (h' := h_2) (cl' := 94) (sl' := 4156) rfl ?_
  refine ik_Wk 1 (pc' := 203) (loc' := lw_LOC i) (st' := [.ref 66]) (h' := h_2) (cl' := 94) (sl' := 4156) rfl ?_
  refine lw_arg 1 ⟨rfl, rfl, rfl, rfl, rfl⟩ (by decide) h0 h1 h2 ?_
  refine lw_arg 2 ⟨rfl, rfl, rfl, rfl, rfl⟩ (by decide) h0 h1 h2 ?_
  obtain ⟨y3, ey3, hyy3⟩ : ∃ y3 : Int64, ik_run 3 (some (L, f)) 0 (213, lw_LOC i, [.int (f (i.toInt.toNat + 2)), .int (f (i.toInt.toNat + 1)), .ref 66], h_2, 94, 4156) = some (217, lw_LOC i, [.long y3, .int (f (i.toInt.toNat + 1)), .ref 66], h_2, 94, 4156) ∧ y3 = lw_b1 ((f (i.toInt.toNat + 2))) := ⟨_, rfl, rfl⟩
  refine ik_Wk 3 ey3 ?_
  refine lw_arg 3 ⟨rfl, rfl, rfl, rfl, rfl⟩ (by decide) h0 h1 h2 ?_
  obtain ⟨y4, ey4, hyy4⟩ : ∃ y4 : Int64, ik_run 4 (some (L, f)) 0 (222, lw_LOC i, [.int (f (i.toInt.toNat + 3)), .long y3, .int (f (i.toInt.toNat + 1)), .ref 66], h_2, 94, 4156) = some (228, lw_LOC i, [.long y4, .int (f (i.toInt.toNat + 1)), .ref 66], h_2, 94, 4156) ∧ y4 = lw_b2 y3 ((f (i.toInt.toNat + 3))) := ⟨_, rfl, rfl⟩
  refine ik_Wk 4 ey4 ?_
  refine lw_cm [.int (f (i.toInt.toNat + 1)), .long y4] [] rfl rfl (by decide +kernel) hLv2 (zr_feed hLv2.1.2.1 hLv2.1.2.2 hLv2.2.2) (Nat.le_of_ble_eq_true rfl) (Nat.le_of_ble_eq_true rfl) rfl rfl rfl lw_un.2.2.2.2.2 (fun _ _ r _ => r.2) ?_
  intro v5 h_5 av5 hLv5
  refine ik_Wk 1 (pc' := 232) (loc' := lw_LOC i) (st' := []) (h' := h_5) (cl' := 94) (sl' := 4156) rfl ?_
  refine ik_Wk 1 (pc' := 1131) (loc' := lw_LOC i) (st' := []) (h' := h_5) (cl' := 94) (sl' := 4156) rfl ?_
  subst hyy0 hyy1 hyy3 hyy4
  exact kk _ _ hLv5
set_option maxHeartbeats 4000000 in
set_option maxRecDepth 100000 in
theorem lw_k1 {L : Nat} {f : Nat → Int32} {i : Int32} {h : List ik_E} {t : zst} (hL : lw_E t t h) (h0 : 0 ≤ i.toInt) (h1 : i.toInt + 4 < L) (h2 : L ≤ 2560) (kk : ∀ t' h', lw_E t' t' h' → ik_W (some (L, f)) 0 1131 (lw_LOC i) [] h' 94 4156 lw_post) : ik_W (some (L, f)) 0 235 (lw_LOC i) [] h 94 4156 lw_post := by
  refine ik_Wk 1 (pc' := 236) (loc' := lw_LOC i) (st' := [.ref 0]) (h' := h) (cl' := 94) (sl' := 4156) rfl ?_
  refine lw_cx [] [] rfl rfl (by decide +kernel) hL (zc_stream hL.1.1 hL.1.2.2 hL.2.1) (Nat.le_of_ble_eq_true rfl) (Nat.le_of_ble_eq_true rfl) rfl rfl rfl lw_un.2.2.2.2.1 (fun _ _ r _ => r.2) ?_
  intro v0 h_0 av0 hLv0
  refine ik_Wk 1 (pc' := 240) (loc' := lw_LOC i) (st' := []) (h' := h_0) (cl' := 94) (sl' := 4156) rfl ?_
  refine ik_Wk 1 (pc' := 241) (loc' := lw_LOC i) (st' := [.ref 66]) (h' := h_0) (cl' := 94) (sl' := 4156) rfl ?_
  refine lw_cm [] [] rfl rfl (by decide +kernel) hLv0 (zr_stream hLv0.1.2.1 hLv0.1.2.2 hLv0.2.2) (Nat.le_of_ble_eq_true rfl) (Nat.le_of_ble_eq_true rfl) rfl rfl rfl lw_un.2.2.2.2.2 (fun _ _ r _ => r.2) ?_
  intro v1 h_1 av1 hLv1
  refine ik_Wk 1 (pc' := 245) (loc' := lw_LOC i) (st' := []) (h' := h_1) (cl' := 94) (sl' := 4156) rfl ?_
  refine ik_Wk 1 (pc' := 1131) (loc' := lw_LOC i) (st' := []) (h' := h_1) (cl' := 94) (sl' := 4156) rfl ?_
  exact kk _ _ hLv1
set_option maxHeartbeats 4000000 in
set_option maxRecDepth 100000 in
theorem lw_k2 {L : Nat} {f : Nat → Int32} {i : Int32} {h : List ik_E} {t : zst} (hL : lw_E t t h) (h0 : 0 ≤ i.toInt) (h1 : i.toInt + 4 < L) (h2 : L ≤ 2560) (kk : ∀ t' h', lw_E t' t' h' → ik_W (some (L, f)) 0 1131 (lw_LOC i) [] h' 94 4156 lw_post) : ik_W (some (L, f)) 0 248 (lw_LOC i) [] h 94 4156 lw_post := by
  refine ik_Wk 1 (pc' := 249) (loc' := lw_LOC i) (st' := [.ref 0]) (h' := h) (cl' := 94) (sl' := 4156) rfl ?_
  refine lw_cx [] [] rfl rfl (by decide +kernel) hL (zc_fault hL.1.1 hL.1.2.2 hL.2.1) (Nat.le_of_ble_eq_true rfl) (Nat.le_of_ble_eq_true rfl) rfl rfl rfl lw_un.2.2.1 (fun _ _ _ r => sc_fm r lw_un.1 hL.2.1) ?_
  intro v0 h_0 av0 hLv0
  refine ik_Wk 1 (pc' := 253) (loc' := lw_LOC i) (st' := []) (h' := h_0) (cl' := 94) (sl' := 4156) rfl ?_
  refine ik_Wk 1 (pc' := 254) (loc' := lw_LOC i) (st' := [.ref 66]) (h' := h_0) (cl' := 94) (sl' := 4156) rfl ?_
  refine lw_cm [] [] rfl rfl (by decide +kernel) hLv0 (zr_fault hLv0.1.2.1 hLv0.1.2.2 hLv0.2.2) (Nat.le_of_ble_eq_true rfl) (Nat.le_of_ble_eq_true rfl) rfl rfl rfl lw_un.2.2.2.1 (fun _ _ _ r => sr_fm r lw_un.2.1 hLv0.2.2) ?_
  intro v1 h_1 av1 hLv1
  refine ik_Wk 1 (pc' := 258) (loc' := lw_LOC i) (st' := []) (h' := h_1) (cl' := 94) (sl' := 4156) rfl ?_
  refine ik_Wk 1 (pc' := 1131) (loc' := lw_LOC i) (st' := []) (h' := h_1) (cl' := 94) (sl' := 4156) rfl ?_
  exact kk _ _ hLv1
set_option maxHeartbeats 4000000 in
set_option maxRecDepth 100000 in
theorem lw_k3 {L : Nat} {f : Nat → Int32} {i : Int32} {h : List ik_E} {t : zst} (hL : lw_E t t h) (h0 : 0 ≤ i.toInt) (h1 : i.toInt + 4 < L) (h2 : L ≤ 2560) (kk : ∀ t' h', lw_E t' t' h' → ik_W (some (L, f)) 0 1131 (lw_LOC i) [] h' 94 4156 lw_post) : ik_W (some (L, f)) 0 261 (lw_LOC i) [] h 94 4156 lw_post := by
  refine ik_Wk 1 (pc' := 262) (loc' := lw_LOC i) (st' := [.ref 0]) (h' := h) (cl' := 94) (sl' := 4156) rfl ?_
  refine lw_arg 1 ⟨rfl, rfl, rfl, rfl, rfl⟩ (by decide) h0 h1 h2 ?_
  refine lw_cx [.int (f (i.toInt.toNat + 1))] [] rfl rfl (by decide +kernel) hL (pc_told hL.1.1) (Nat.le_of_ble_eq_true rfl) (Nat.le_of_ble_eq_true rfl) rfl rfl rfl lw_un.2.2.1 (fun _ _ _ r => sc_fm r lw_un.1 hL.2.1) ?_
  intro v0 h_0 av0 hLv0
  refine ik_Wk 1 (pc' := 271) (loc' := lw_LOC i) (st' := []) (h' := h_0) (cl' := 94) (sl' := 4156) rfl ?_
  refine ik_Wk 1 (pc' := 272) (loc' := lw_LOC i) (st' := [.ref 66]) (h' := h_0) (cl' := 94) (sl' := 4156) rfl ?_
  refine lw_arg 1 ⟨rfl, rfl, rfl, rfl, rfl⟩ (by decide) h0 h1 h2 ?_
  refine lw_cm [.int (f (i.toInt.toNat + 1))] [] rfl rfl (by decide +kernel) hLv0 (pm_told hLv0.1.2.1) (Nat.le_of_ble_eq_true rfl) (Nat.le_of_ble_eq_true rfl) rfl rfl rfl lw_un.2.2.2.1 (fun _ _ _ r => sr_fm r lw_un.2.1 hLv0.2.2) ?_
  intro v1 h_1 av1 hLv1
  refine ik_Wk 1 (pc' := 281) (loc' := lw_LOC i) (st' := []) (h' := h_1) (cl' := 94) (sl' := 4156) rfl ?_
  refine ik_Wk 1 (pc' := 1131) (loc' := lw_LOC i) (st' := []) (h' := h_1) (cl' := 94) (sl' := 4156) rfl ?_
  exact kk _ _ hLv1
set_option maxHeartbeats 4000000 in
set_option maxRecDepth 100000 in
theorem lw_k4 {L : Nat} {f : Nat → Int32} {i : Int32} {h : List ik_E} {t : zst} (hL : lw_E t t h) (h0 : 0 ≤ i.toInt) (h1 : i.toInt + 4 < L) (h2 : L ≤ 2560) (kk : ∀ t' h', lw_E t' t' h' → ik_W (some (L, f)) 0 1131 (lw_LOC i) [] h' 94 4156 lw_post) : ik_W (some (L, f)) 0 284 (lw_LOC i) [] h 94 4156 lw_post := by
  refine ik_Wk 1 (pc' := 285) (loc' := lw_LOC i) (st' := [.ref 0]) (h' := h) (cl' := 94) (sl' := 4156) rfl ?_
  refine lw_arg 1 ⟨rfl, rfl, rfl, rfl, rfl⟩ (by decide) h0 h1 h2 ?_
  refine lw_arg 2 ⟨rfl, rfl, rfl, rfl, rfl⟩ (by decide) h0 h1 h2 ?_
  refine lw_arg 3 ⟨rfl, rfl, rfl, rfl, rfl⟩ (by decide) h0 h1 h2 ?_
  refine lw_cx [.int (f (i.toInt.toNat + 1)), .int (f (i.toInt.toNat + 2)), .int (f (i.toInt.toNat + 3))] [] rfl rfl (by decide +kernel) hL (pc_move hL.1.1) (Nat.le_of_ble_eq_true rfl) (Nat.le_of_ble_eq_true rfl) rfl rfl rfl lw_un.2.2.1 (fun _ _ _ r => sc_fm r lw_un.1 hL.2.1) ?_
  intro v0 h_0 av0 hLv0
  refine ik_Wk 1 (pc' := 304) (loc' := lw_LOC i) (st' := []) (h' := h_0) (cl' := 94) (sl' := 4156) rfl ?_
  refine ik_Wk 1 (pc' := 305) (loc' := lw_LOC i) (st' := [.ref 66]) (h' := h_0) (cl' := 94) (sl' := 4156) rfl ?_
  refine lw_arg 1 ⟨rfl, rfl, rfl, rfl, rfl⟩ (by decide) h0 h1 h2 ?_
  refine lw_arg 2 ⟨rfl, rfl, rfl, rfl, rfl⟩ (by decide) h0 h1 h2 ?_
  refine lw_arg 3 ⟨rfl, rfl, rfl, rfl, rfl⟩ (by decide) h0 h1 h2 ?_
  refine lw_cm [.int (f (i.toInt.toNat + 1)), .int (f (i.toInt.toNat + 2)), .int (f (i.toInt.toNat + 3))] [] rfl rfl (by decide +kernel) hLv0 (pm_move hLv0.1.2.1) (Nat.le_of_ble_eq_true rfl) (Nat.le_of_ble_eq_true rfl) rfl rfl rfl lw_un.2.2.2.1 (fun _ _ _ r => sr_fm r lw_un.2.1 hLv0.2.2) ?_
  intro v1 h_1 av1 hLv1
  refine ik_Wk 1 (pc' := 324) (loc' := lw_LOC i) (st' := []) (h' := h_1) (cl' := 94) (sl' := 4156) rfl ?_
  refine ik_Wk 1 (pc' := 1131) (loc' := lw_LOC i) (st' := []) (h' := h_1) (cl' := 94) (sl' := 4156) rfl ?_
  exact kk _ _ hLv1
set_option maxHeartbeats 4000000 in
set_option maxRecDepth 100000 in
theorem lw_k5 {L : Nat} {f : Nat → Int32} {i : Int32} {h : List ik_E} {t : zst} (hL : lw_E t t h) (h0 : 0 ≤ i.toInt) (h1 : i.toInt + 4 < L) (h2 : L ≤ 2560) (kk : ∀ t' h', lw_E t' t' h' → ik_W (some (L, f)) 0 1131 (lw_LOC i) [] h' 94 4156 lw_post) : ik_W (some (L, f)) 0 327 (lw_LOC i) [] h 94 4156 lw_post := by
  refine ik_Wk 1 (pc' := 328) (loc' := lw_LOC i) (st' := [.ref 0]) (h' := h) (cl' := 94) (sl' := 4156) rfl ?_
  refine lw_arg 1 ⟨rfl, rfl, rfl, rfl, rfl⟩ (by decide) h0 h1 h2 ?_
  refine lw_arg 2 ⟨rfl, rfl, rfl, rfl, rfl⟩ (by decide) h0 h1 h2 ?_
  refine lw_arg 3 ⟨rfl, rfl, rfl, rfl, rfl⟩ (by decide) h0 h1 h2 ?_
  refine lw_cx [.int (f (i.toInt.toNat + 1)), .int (f (i.toInt.toNat + 2)), .int (f (i.toInt.toNat + 3))] [] rfl rfl (by decide +kernel) hL (pc_cork hL.1.1) (Nat.le_of_ble_eq_true rfl) (Nat.le_of_ble_eq_true rfl) rfl rfl rfl lw_un.2.2.1 (fun _ _ _ r => sc_fm r lw_un.1 hL.2.1) ?_
  intro v0 h_0 av0 hLv0
  refine ik_Wk 1 (pc' := 347) (loc' := lw_LOC i) (st' := []) (h' := h_0) (cl' := 94) (sl' := 4156) rfl ?_
  refine ik_Wk 1 (pc' := 348) (loc' := lw_LOC i) (st' := [.ref 66]) (h' := h_0) (cl' := 94) (sl' := 4156) rfl ?_
  refine lw_arg 1 ⟨rfl, rfl, rfl, rfl, rfl⟩ (by decide) h0 h1 h2 ?_
  refine lw_arg 2 ⟨rfl, rfl, rfl, rfl, rfl⟩ (by decide) h0 h1 h2 ?_
  refine lw_arg 3 ⟨rfl, rfl, rfl, rfl, rfl⟩ (by decide) h0 h1 h2 ?_
  refine lw_cm [.int (f (i.toInt.toNat + 1)), .int (f (i.toInt.toNat + 2)), .int (f (i.toInt.toNat + 3))] [] rfl rfl (by decide +kernel) hLv0 (pm_cork hLv0.1.2.1) (Nat.le_of_ble_eq_true rfl) (Nat.le_of_ble_eq_true rfl) rfl rfl rfl lw_un.2.2.2.1 (fun _ _ _ r => sr_fm r lw_un.2.1 hLv0.2.2) ?_
  intro v1 h_1 av1 hLv1
  refine ik_Wk 1 (pc' := 367) (loc' := lw_LOC i) (st' := []) (h' := h_1) (cl' := 94) (sl' := 4156) rfl ?_
  refine ik_Wk 1 (pc' := 1131) (loc' := lw_LOC i) (st' := []) (h' := h_1) (cl' := 94) (sl' := 4156) rfl ?_
  exact kk _ _ hLv1
set_option maxHeartbeats 4000000 in
set_option maxRecDepth 100000 in
theorem lw_k6 {L : Nat} {f : Nat → Int32} {i : Int32} {h : List ik_E} {t : zst} (hL : lw_E t t h) (h0 : 0 ≤ i.toInt) (h1 : i.toInt + 4 < L) (h2 : L ≤ 2560) (kk : ∀ t' h', lw_E t' t' h' → ik_W (some (L, f)) 0 1131 (lw_LOC i) [] h' 94 4156 lw_post) : ik_W (some (L, f)) 0 370 (lw_LOC i) [] h 94 4156 lw_post := by
  refine ik_Wk 1 (pc' := 371) (loc' := lw_LOC i) (st' := [.ref 0]) (h' := h) (cl' := 94) (sl' := 4156) rfl ?_
  refine lw_arg 1 ⟨rfl, rfl, rfl, rfl, rfl⟩ (by decide) h0 h1 h2 ?_
  refine lw_arg 2 ⟨rfl, rfl, rfl, rfl, rfl⟩ (by decide) h0 h1 h2 ?_
  refine lw_arg 3 ⟨rfl, rfl, rfl, rfl, rfl⟩ (by decide) h0 h1 h2 ?_
  refine lw_cx [.int (f (i.toInt.toNat + 1)), .int (f (i.toInt.toNat + 2)), .int (f (i.toInt.toNat + 3))] [] rfl rfl (by decide +kernel) hL (pc_comes hL.1.1) (Nat.le_of_ble_eq_true rfl) (Nat.le_of_ble_eq_true rfl) rfl rfl rfl lw_un.2.2.1 (fun _ _ _ r => sc_fm r lw_un.1 hL.2.1) ?_
  intro v0 h_0 av0 hLv0
  refine ik_Wk 1 (pc' := 390) (loc' := lw_LOC i) (st' := []) (h' := h_0) (cl' := 94) (sl' := 4156) rfl ?_
  refine ik_Wk 1 (pc' := 391) (loc' := lw_LOC i) (st' := [.ref 66]) (h' := h_0) (cl' := 94) (sl' := 4156) rfl ?_
  refine lw_arg 1 ⟨rfl, rfl, rfl, rfl, rfl⟩ (by decide) h0 h1 h2 ?_
  refine lw_arg 2 ⟨rfl, rfl, rfl, rfl, rfl⟩ (by decide) h0 h1 h2 ?_
  refine lw_arg 3 ⟨rfl, rfl, rfl, rfl, rfl⟩ (by decide) h0 h1 h2 ?_
  refine lw_cm [.int (f (i.toInt.toNat + 1)), .int (f (i.toInt.toNat + 2)), .int (f (i.toInt.toNat + 3))] [] rfl rfl (by decide +kernel) hLv0 (pm_comes hLv0.1.2.1) (Nat.le_of_ble_eq_true rfl) (Nat.le_of_ble_eq_true rfl) rfl rfl rfl lw_un.2.2.2.1 (fun _ _ _ r => sr_fm r lw_un.2.1 hLv0.2.2) ?_
  intro v1 h_1 av1 hLv1
  refine ik_Wk 1 (pc' := 410) (loc' := lw_LOC i) (st' := []) (h' := h_1) (cl' := 94) (sl' := 4156) rfl ?_
  refine ik_Wk 1 (pc' := 1131) (loc' := lw_LOC i) (st' := []) (h' := h_1) (cl' := 94) (sl' := 4156) rfl ?_
  exact kk _ _ hLv1
set_option maxHeartbeats 4000000 in
set_option maxRecDepth 100000 in
theorem lw_k7 {L : Nat} {f : Nat → Int32} {i : Int32} {h : List ik_E} {t : zst} (hL : lw_E t t h) (h0 : 0 ≤ i.toInt) (h1 : i.toInt + 4 < L) (h2 : L ≤ 2560) (kk : ∀ t' h', lw_E t' t' h' → ik_W (some (L, f)) 0 1131 (lw_LOC i) [] h' 94 4156 lw_post) : ik_W (some (L, f)) 0 413 (lw_LOC i) [] h 94 4156 lw_post := by
  refine ik_Wk 1 (pc' := 414) (loc' := lw_LOC i) (st' := [.ref 0]) (h' := h) (cl' := 94) (sl' := 4156) rfl ?_
  refine lw_arg 1 ⟨rfl, rfl, rfl, rfl, rfl⟩ (by decide) h0 h1 h2 ?_
  refine lw_arg 2 ⟨rfl, rfl, rfl, rfl, rfl⟩ (by decide) h0 h1 h2 ?_
  refine lw_arg 3 ⟨rfl, rfl, rfl, rfl, rfl⟩ (by decide) h0 h1 h2 ?_
  refine lw_arg 4 ⟨rfl, rfl, rfl, rfl, rfl⟩ (by decide) h0 h1 h2 ?_
  refine lw_cx [.int (f (i.toInt.toNat + 1)), .int (f (i.toInt.toNat + 2)), .int (f (i.toInt.toNat + 3)), .int (f (i.toInt.toNat + 4))] [] rfl rfl (by decide +kernel) hL (pc_at hL.1.1) (Nat.le_of_ble_eq_true rfl) (Nat.le_of_ble_eq_true rfl) rfl rfl rfl lw_un.2.2.1 (fun _ _ _ r => sc_fm r lw_un.1 hL.2.1) ?_
  intro v0 h_0 av0 hLv0
  refine ik_Wk 1 (pc' := 438) (loc' := lw_LOC i) (st' := []) (h' := h_0) (cl' := 94) (sl' := 4156) rfl ?_
  refine ik_Wk 1 (pc' := 439) (loc' := lw_LOC i) (st' := [.ref 66]) (h' := h_0) (cl' := 94) (sl' := 4156) rfl ?_
  refine lw_arg 1 ⟨rfl, rfl, rfl, rfl, rfl⟩ (by decide) h0 h1 h2 ?_
  refine lw_arg 2 ⟨rfl, rfl, rfl, rfl, rfl⟩ (by decide) h0 h1 h2 ?_
  refine lw_arg 3 ⟨rfl, rfl, rfl, rfl, rfl⟩ (by decide) h0 h1 h2 ?_
  refine lw_arg 4 ⟨rfl, rfl, rfl, rfl, rfl⟩ (by decide) h0 h1 h2 ?_
  refine lw_cm [.int (f (i.toInt.toNat + 1)), .int (f (i.toInt.toNat + 2)), .int (f (i.toInt.toNat + 3)), .int (f (i.toInt.toNat + 4))] [] rfl rfl (by decide +kernel) hLv0 (pm_at hLv0.1.2.1) (Nat.le_of_ble_eq_true rfl) (Nat.le_of_ble_eq_true rfl) rfl rfl rfl lw_un.2.2.2.1 (fun _ _ _ r => sr_fm r lw_un.2.1 hLv0.2.2) ?_
  intro v1 h_1 av1 hLv1
  refine ik_Wk 1 (pc' := 463) (loc' := lw_LOC i) (st' := []) (h' := h_1) (cl' := 94) (sl' := 4156) rfl ?_
  refine ik_Wk 1 (pc' := 1131) (loc' := lw_LOC i) (st' := []) (h' := h_1) (cl' := 94) (sl' := 4156) rfl ?_
  exact kk _ _ hLv1
set_option maxHeartbeats 4000000 in
set_option maxRecDepth 100000 in
theorem lw_k8 {L : Nat} {f : Nat → Int32} {i : Int32} {h : List ik_E} {t : zst} (hL : lw_E t t h) (h0 : 0 ≤ i.toInt) (h1 : i.toInt + 4 < L) (h2 : L ≤ 2560) (kk : ∀ t' h', lw_E t' t' h' → ik_W (some (L, f)) 0 1131 (lw_LOC i) [] h' 94 4156 lw_post) : ik_W (some (L, f)) 0 466 (lw_LOC i) [] h 94 4156 lw_post := by
  refine ik_Wk 1 (pc' := 467) (loc' := lw_LOC i) (st' := [.ref 0]) (h' := h) (cl' := 94) (sl' := 4156) rfl ?_
  refine lw_arg 1 ⟨rfl, rfl, rfl, rfl, rfl⟩ (by decide) h0 h1 h2 ?_
  refine lw_arg 2 ⟨rfl, rfl, rfl, rfl, rfl⟩ (by decide) h0 h1 h2 ?_
  refine lw_arg 3 ⟨rfl, rfl, rfl, rfl, rfl⟩ (by decide) h0 h1 h2 ?_
  refine lw_cx [.int (f (i.toInt.toNat + 1)), .int (f (i.toInt.toNat + 2)), .int (f (i.toInt.toNat + 3))] [] rfl rfl (by decide +kernel) hL (pc_kept hL.1.1) (Nat.le_of_ble_eq_true rfl) (Nat.le_of_ble_eq_true rfl) rfl rfl rfl lw_un.2.2.1 (fun _ _ _ r => sc_fm r lw_un.1 hL.2.1) ?_
  intro v0 h_0 av0 hLv0
  refine ik_Wk 1 (pc' := 486) (loc' := lw_LOC i) (st' := []) (h' := h_0) (cl' := 94) (sl' := 4156) rfl ?_
  refine ik_Wk 1 (pc' := 487) (loc' := lw_LOC i) (st' := [.ref 66]) (h' := h_0) (cl' := 94) (sl' := 4156) rfl ?_
  refine lw_arg 1 ⟨rfl, rfl, rfl, rfl, rfl⟩ (by decide) h0 h1 h2 ?_
  refine lw_arg 2 ⟨rfl, rfl, rfl, rfl, rfl⟩ (by decide) h0 h1 h2 ?_
  refine lw_arg 3 ⟨rfl, rfl, rfl, rfl, rfl⟩ (by decide) h0 h1 h2 ?_
  refine lw_cm [.int (f (i.toInt.toNat + 1)), .int (f (i.toInt.toNat + 2)), .int (f (i.toInt.toNat + 3))] [] rfl rfl (by decide +kernel) hLv0 (pm_kept hLv0.1.2.1) (Nat.le_of_ble_eq_true rfl) (Nat.le_of_ble_eq_true rfl) rfl rfl rfl lw_un.2.2.2.1 (fun _ _ _ r => sr_fm r lw_un.2.1 hLv0.2.2) ?_
  intro v1 h_1 av1 hLv1
  refine ik_Wk 1 (pc' := 506) (loc' := lw_LOC i) (st' := []) (h' := h_1) (cl' := 94) (sl' := 4156) rfl ?_
  refine ik_Wk 1 (pc' := 1131) (loc' := lw_LOC i) (st' := []) (h' := h_1) (cl' := 94) (sl' := 4156) rfl ?_
  exact kk _ _ hLv1
set_option maxHeartbeats 4000000 in
set_option maxRecDepth 100000 in
theorem lw_k9 {L : Nat} {f : Nat → Int32} {i : Int32} {h : List ik_E} {t : zst} (hL : lw_E t t h) (h0 : 0 ≤ i.toInt) (h1 : i.toInt + 4 < L) (h2 : L ≤ 2560) (kk : ∀ t' h', lw_E t' t' h' → ik_W (some (L, f)) 0 1131 (lw_LOC i) [] h' 94 4156 lw_post) : ik_W (some (L, f)) 0 509 (lw_LOC i) [] h 94 4156 lw_post := by
  refine ik_Wk 1 (pc' := 510) (loc' := lw_LOC i) (st' := [.ref 0]) (h' := h) (cl' := 94) (sl' := 4156) rfl ?_
  refine lw_arg 1 ⟨rfl, rfl, rfl, rfl, rfl⟩ (by decide) h0 h1 h2 ?_
  refine lw_arg 2 ⟨rfl, rfl, rfl, rfl, rfl⟩ (by decide) h0 h1 h2 ?_
  refine lw_arg 3 ⟨rfl, rfl, rfl, rfl, rfl⟩ (by decide) h0 h1 h2 ?_
  refine lw_cx [.int (f (i.toInt.toNat + 1)), .int (f (i.toInt.toNat + 2)), .int (f (i.toInt.toNat + 3))] [] rfl rfl (by decide +kernel) hL (pc_known hL.1.1) (Nat.le_of_ble_eq_true rfl) (Nat.le_of_ble_eq_true rfl) rfl rfl rfl lw_un.2.2.1 (fun _ _ _ r => sc_fm r lw_un.1 hL.2.1) ?_
  intro v0 h_0 av0 hLv0
  refine ik_Wk 1 (pc' := 529) (loc' := lw_LOC i) (st' := []) (h' := h_0) (cl' := 94) (sl' := 4156) rfl ?_
  refine ik_Wk 1 (pc' := 530) (loc' := lw_LOC i) (st' := [.ref 66]) (h' := h_0) (cl' := 94) (sl' := 4156) rfl ?_
  refine lw_arg 1 ⟨rfl, rfl, rfl, rfl, rfl⟩ (by decide) h0 h1 h2 ?_
  refine lw_arg 2 ⟨rfl, rfl, rfl, rfl, rfl⟩ (by decide) h0 h1 h2 ?_
  refine lw_arg 3 ⟨rfl, rfl, rfl, rfl, rfl⟩ (by decide) h0 h1 h2 ?_
  refine lw_cm [.int (f (i.toInt.toNat + 1)), .int (f (i.toInt.toNat + 2)), .int (f (i.toInt.toNat + 3))] [] rfl rfl (by decide +kernel) hLv0 (pm_known hLv0.1.2.1) (Nat.le_of_ble_eq_true rfl) (Nat.le_of_ble_eq_true rfl) rfl rfl rfl lw_un.2.2.2.1 (fun _ _ _ r => sr_fm r lw_un.2.1 hLv0.2.2) ?_
  intro v1 h_1 av1 hLv1
  refine ik_Wk 1 (pc' := 549) (loc' := lw_LOC i) (st' := []) (h' := h_1) (cl' := 94) (sl' := 4156) rfl ?_
  refine ik_Wk 1 (pc' := 1131) (loc' := lw_LOC i) (st' := []) (h' := h_1) (cl' := 94) (sl' := 4156) rfl ?_
  exact kk _ _ hLv1
set_option maxHeartbeats 4000000 in
set_option maxRecDepth 100000 in
theorem lw_k10 {L : Nat} {f : Nat → Int32} {i : Int32} {h : List ik_E} {t : zst} (hL : lw_E t t h) (h0 : 0 ≤ i.toInt) (h1 : i.toInt + 4 < L) (h2 : L ≤ 2560) (kk : ∀ t' h', lw_E t' t' h' → ik_W (some (L, f)) 0 1131 (lw_LOC i) [] h' 94 4156 lw_post) : ik_W (some (L, f)) 0 552 (lw_LOC i) [] h 94 4156 lw_post := by
  refine ik_Wk 1 (pc' := 553) (loc' := lw_LOC i) (st' := [.ref 0]) (h' := h) (cl' := 94) (sl' := 4156) rfl ?_
  refine lw_arg 1 ⟨rfl, rfl, rfl, rfl, rfl⟩ (by decide) h0 h1 h2 ?_
  refine lw_cx [.int (f (i.toInt.toNat + 1))] [] rfl rfl (by decide +kernel) hL (pc_later hL.1.1) (Nat.le_of_ble_eq_true rfl) (Nat.le_of_ble_eq_true rfl) rfl rfl rfl lw_un.2.2.1 (fun _ _ _ r => sc_fm r lw_un.1 hL.2.1) ?_
  intro v0 h_0 av0 hLv0
  refine ik_Wk 1 (pc' := 562) (loc' := lw_LOC i) (st' := []) (h' := h_0) (cl' := 94) (sl' := 4156) rfl ?_
  refine ik_Wk 1 (pc' := 563) (loc' := lw_LOC i) (st' := [.ref 66]) (h' := h_0) (cl' := 94) (sl' := 4156) rfl ?_
  refine lw_arg 1 ⟨rfl, rfl, rfl, rfl, rfl⟩ (by decide) h0 h1 h2 ?_
  refine lw_cm [.int (f (i.toInt.toNat + 1))] [] rfl rfl (by decide +kernel) hLv0 (pm_later hLv0.1.2.1) (Nat.le_of_ble_eq_true rfl) (Nat.le_of_ble_eq_true rfl) rfl rfl rfl lw_un.2.2.2.1 (fun _ _ _ r => sr_fm r lw_un.2.1 hLv0.2.2) ?_
  intro v1 h_1 av1 hLv1
  refine ik_Wk 1 (pc' := 572) (loc' := lw_LOC i) (st' := []) (h' := h_1) (cl' := 94) (sl' := 4156) rfl ?_
  refine ik_Wk 1 (pc' := 1131) (loc' := lw_LOC i) (st' := []) (h' := h_1) (cl' := 94) (sl' := 4156) rfl ?_
  exact kk _ _ hLv1
set_option maxHeartbeats 4000000 in
set_option maxRecDepth 100000 in
theorem lw_k11 {L : Nat} {f : Nat → Int32} {i : Int32} {h : List ik_E} {t : zst} (hL : lw_E t t h) (h0 : 0 ≤ i.toInt) (h1 : i.toInt + 4 < L) (h2 : L ≤ 2560) (kk : ∀ t' h', lw_E t' t' h' → ik_W (some (L, f)) 0 1131 (lw_LOC i) [] h' 94 4156 lw_post) : ik_W (some (L, f)) 0 575 (lw_LOC i) [] h 94 4156 lw_post := by
  refine ik_Wk 1 (pc' := 576) (loc' := lw_LOC i) (st' := [.ref 0]) (h' := h) (cl' := 94) (sl' := 4156) rfl ?_
  refine lw_arg 1 ⟨rfl, rfl, rfl, rfl, rfl⟩ (by decide) h0 h1 h2 ?_
  refine lw_arg 2 ⟨rfl, rfl, rfl, rfl, rfl⟩ (by decide) h0 h1 h2 ?_
  refine lw_arg 3 ⟨rfl, rfl, rfl, rfl, rfl⟩ (by decide) h0 h1 h2 ?_
  refine lw_cx [.int (f (i.toInt.toNat + 1)), .int (f (i.toInt.toNat + 2)), .int (f (i.toInt.toNat + 3))] [] rfl rfl (by decide +kernel) hL (pc_best hL.1.1) (Nat.le_of_ble_eq_true rfl) (Nat.le_of_ble_eq_true rfl) rfl rfl rfl lw_un.2.2.1 (fun _ _ _ r => sc_fm r lw_un.1 hL.2.1) ?_
  intro v0 h_0 av0 hLv0
  refine ik_Wk 1 (pc' := 595) (loc' := lw_LOC i) (st' := []) (h' := h_0) (cl' := 94) (sl' := 4156) rfl ?_
  refine ik_Wk 1 (pc' := 596) (loc' := lw_LOC i) (st' := [.ref 66]) (h' := h_0) (cl' := 94) (sl' := 4156) rfl ?_
  refine lw_arg 1 ⟨rfl, rfl, rfl, rfl, rfl⟩ (by decide) h0 h1 h2 ?_
  refine lw_arg 2 ⟨rfl, rfl, rfl, rfl, rfl⟩ (by decide) h0 h1 h2 ?_
  refine lw_arg 3 ⟨rfl, rfl, rfl, rfl, rfl⟩ (by decide) h0 h1 h2 ?_
  refine lw_cm [.int (f (i.toInt.toNat + 1)), .int (f (i.toInt.toNat + 2)), .int (f (i.toInt.toNat + 3))] [] rfl rfl (by decide +kernel) hLv0 (pm_best hLv0.1.2.1) (Nat.le_of_ble_eq_true rfl) (Nat.le_of_ble_eq_true rfl) rfl rfl rfl lw_un.2.2.2.1 (fun _ _ _ r => sr_fm r lw_un.2.1 hLv0.2.2) ?_
  intro v1 h_1 av1 hLv1
  refine ik_Wk 1 (pc' := 615) (loc' := lw_LOC i) (st' := []) (h' := h_1) (cl' := 94) (sl' := 4156) rfl ?_
  refine ik_Wk 1 (pc' := 1131) (loc' := lw_LOC i) (st' := []) (h' := h_1) (cl' := 94) (sl' := 4156) rfl ?_
  exact kk _ _ hLv1
set_option maxHeartbeats 4000000 in
set_option maxRecDepth 100000 in
theorem lw_k12 {L : Nat} {f : Nat → Int32} {i : Int32} {h : List ik_E} {t : zst} (hL : lw_E t t h) (h0 : 0 ≤ i.toInt) (h1 : i.toInt + 4 < L) (h2 : L ≤ 2560) (kk : ∀ t' h', lw_E t' t' h' → ik_W (some (L, f)) 0 1131 (lw_LOC i) [] h' 94 4156 lw_post) : ik_W (some (L, f)) 0 618 (lw_LOC i) [] h 94 4156 lw_post := by
  refine ik_Wk 1 (pc' := 619) (loc' := lw_LOC i) (st' := [.ref 0]) (h' := h) (cl' := 94) (sl' := 4156) rfl ?_
  refine lw_arg 1 ⟨rfl, rfl, rfl, rfl, rfl⟩ (by decide) h0 h1 h2 ?_
  refine lw_arg 2 ⟨rfl, rfl, rfl, rfl, rfl⟩ (by decide) h0 h1 h2 ?_
  refine lw_arg 3 ⟨rfl, rfl, rfl, rfl, rfl⟩ (by decide) h0 h1 h2 ?_
  refine lw_cx [.int (f (i.toInt.toNat + 1)), .int (f (i.toInt.toNat + 2)), .int (f (i.toInt.toNat + 3))] [] rfl rfl (by decide +kernel) hL (pc_mixed hL.1.1) (Nat.le_of_ble_eq_true rfl) (Nat.le_of_ble_eq_true rfl) rfl rfl rfl lw_un.2.2.1 (fun _ _ _ r => sc_fm r lw_un.1 hL.2.1) ?_
  intro v0 h_0 av0 hLv0
  refine ik_Wk 1 (pc' := 638) (loc' := lw_LOC i) (st' := []) (h' := h_0) (cl' := 94) (sl' := 4156) rfl ?_
  refine ik_Wk 1 (pc' := 639) (loc' := lw_LOC i) (st' := [.ref 66]) (h' := h_0) (cl' := 94) (sl' := 4156) rfl ?_
  refine lw_arg 1 ⟨rfl, rfl, rfl, rfl, rfl⟩ (by decide) h0 h1 h2 ?_
  refine lw_arg 2 ⟨rfl, rfl, rfl, rfl, rfl⟩ (by decide) h0 h1 h2 ?_
  refine lw_arg 3 ⟨rfl, rfl, rfl, rfl, rfl⟩ (by decide) h0 h1 h2 ?_
  refine lw_cm [.int (f (i.toInt.toNat + 1)), .int (f (i.toInt.toNat + 2)), .int (f (i.toInt.toNat + 3))] [] rfl rfl (by decide +kernel) hLv0 (pm_mixed hLv0.1.2.1) (Nat.le_of_ble_eq_true rfl) (Nat.le_of_ble_eq_true rfl) rfl rfl rfl lw_un.2.2.2.1 (fun _ _ _ r => sr_fm r lw_un.2.1 hLv0.2.2) ?_
  intro v1 h_1 av1 hLv1
  refine ik_Wk 1 (pc' := 658) (loc' := lw_LOC i) (st' := []) (h' := h_1) (cl' := 94) (sl' := 4156) rfl ?_
  refine ik_Wk 1 (pc' := 1131) (loc' := lw_LOC i) (st' := []) (h' := h_1) (cl' := 94) (sl' := 4156) rfl ?_
  exact kk _ _ hLv1
set_option maxHeartbeats 4000000 in
set_option maxRecDepth 100000 in
theorem lw_k13 {L : Nat} {f : Nat → Int32} {i : Int32} {h : List ik_E} {t : zst} (hL : lw_E t t h) (h0 : 0 ≤ i.toInt) (h1 : i.toInt + 4 < L) (h2 : L ≤ 2560) (kk : ∀ t' h', lw_E t' t' h' → ik_W (some (L, f)) 0 1131 (lw_LOC i) [] h' 94 4156 lw_post) : ik_W (some (L, f)) 0 661 (lw_LOC i) [] h 94 4156 lw_post := by
  refine ik_Wk 1 (pc' := 662) (loc' := lw_LOC i) (st' := [.ref 0]) (h' := h) (cl' := 94) (sl' := 4156) rfl ?_
  refine lw_arg 1 ⟨rfl, rfl, rfl, rfl, rfl⟩ (by decide) h0 h1 h2 ?_
  refine lw_arg 2 ⟨rfl, rfl, rfl, rfl, rfl⟩ (by decide) h0 h1 h2 ?_
  have sb0 : ∀ b0 : Int32, (0 ≤ b0.toInt ∧ b0.toInt ≤ 1) → ik_W (some (L, f)) 0 680 (lw_LOC i) [.int b0, .int (f (i.toInt.toNat + 1)), .ref 0] h 94 4156 lw_post := by
    intro b0 gb0
    refine lw_cx [.int (f (i.toInt.toNat + 1)), .int b0] [] rfl rfl (by decide +kernel) hL (pc_stone hL.1.1 gb0) (Nat.le_of_ble_eq_true rfl) (Nat.le_of_ble_eq_true rfl) rfl rfl rfl lw_un.2.2.1 (fun _ _ _ r => sc_fm r lw_un.1 hL.2.1) ?_
    intro v1 h_1 av1 hLv1
    refine ik_Wk 1 (pc' := 684) (loc' := lw_LOC i) (st' := []) (h' := h_1) (cl' := 94) (sl' := 4156) rfl ?_
    refine ik_Wk 1 (pc' := 685) (loc' := lw_LOC i) (st' := [.ref 66]) (h' := h_1) (cl' := 94) (sl' := 4156) rfl ?_
    refine lw_arg 1 ⟨rfl, rfl, rfl, rfl, rfl⟩ (by decide) h0 h1 h2 ?_
    refine lw_arg 2 ⟨rfl, rfl, rfl, rfl, rfl⟩ (by decide) h0 h1 h2 ?_
    have sb2 : ∀ b2 : Int32, (0 ≤ b2.toInt ∧ b2.toInt ≤ 1) → ik_W (some (L, f)) 0 703 (lw_LOC i) [.int b2, .int (f (i.toInt.toNat + 1)), .ref 66] h_1 94 4156 lw_post := by
      intro b2 gb2
      refine lw_cm [.int (f (i.toInt.toNat + 1)), .int b2] [] rfl rfl (by decide +kernel) hLv1 (pm_stone hLv1.1.2.1 gb2) (Nat.le_of_ble_eq_true rfl) (Nat.le_of_ble_eq_true rfl) rfl rfl rfl lw_un.2.2.2.1 (fun _ _ _ r => sr_fm r lw_un.2.1 hLv1.2.2) ?_
      intro v3 h_3 av3 hLv3
      refine ik_Wk 1 (pc' := 707) (loc' := lw_LOC i) (st' := []) (h' := h_3) (cl' := 94) (sl' := 4156) rfl ?_
      refine ik_Wk 1 (pc' := 1131) (loc' := lw_LOC i) (st' := []) (h' := h_3) (cl' := 94) (sl' := 4156) rfl ?_
      exact kk _ _ hLv3
    refine ik_Wif 1 702 698 (loc' := lw_LOC i) (st' := [.int (f (i.toInt.toNat + 1)), .ref 66]) (h' := h_1) (cl' := 94) (sl' := 4156) rfl ?_ ?_
    · intro _
      refine ik_Wk 1 (pc' := 703) (loc' := lw_LOC i) (st' := [.int 0, .int (f (i.toInt.toNat + 1)), .ref 66]) (h' := h_1) (cl' := 94) (sl' := 4156) rfl ?_
      exact sb2 0 (by decide)
    · intro _
      refine ik_Wk 2 (pc' := 703) (loc' := lw_LOC i) (st' := [.int 1, .int (f (i.toInt.toNat + 1)), .ref 66]) (h' := h_1) (cl' := 94) (sl' := 4156) rfl ?_
      exact sb2 1 (by decide)
  refine ik_Wif 1 679 675 (loc' := lw_LOC i) (st' := [.int (f (i.toInt.toNat + 1)), .ref 0]) (h' := h) (cl' := 94) (sl' := 4156) rfl ?_ ?_
  · intro _
    refine ik_Wk 1 (pc' := 680) (loc' := lw_LOC i) (st' := [.int 0, .int (f (i.toInt.toNat + 1)), .ref 0]) (h' := h) (cl' := 94) (sl' := 4156) rfl ?_
    exact sb0 0 (by decide)
  · intro _
    refine ik_Wk 2 (pc' := 680) (loc' := lw_LOC i) (st' := [.int 1, .int (f (i.toInt.toNat + 1)), .ref 0]) (h' := h) (cl' := 94) (sl' := 4156) rfl ?_
    exact sb0 1 (by decide)
set_option maxHeartbeats 4000000 in
set_option maxRecDepth 100000 in
theorem lw_k14 {L : Nat} {f : Nat → Int32} {i : Int32} {h : List ik_E} {t : zst} (hL : lw_E t t h) (h0 : 0 ≤ i.toInt) (h1 : i.toInt + 4 < L) (h2 : L ≤ 2560) (kk : ∀ t' h', lw_E t' t' h' → ik_W (some (L, f)) 0 1131 (lw_LOC i) [] h' 94 4156 lw_post) : ik_W (some (L, f)) 0 710 (lw_LOC i) [] h 94 4156 lw_post := by
  refine ik_Wk 1 (pc' := 711) (loc' := lw_LOC i) (st' := [.ref 0]) (h' := h) (cl' := 94) (sl' := 4156) rfl ?_
  refine lw_arg 1 ⟨rfl, rfl, rfl, rfl, rfl⟩ (by decide) h0 h1 h2 ?_
  refine lw_arg 2 ⟨rfl, rfl, rfl, rfl, rfl⟩ (by decide) h0 h1 h2 ?_
  refine lw_cx [.int (f (i.toInt.toNat + 1)), .int (f (i.toInt.toNat + 2))] [] rfl rfl (by decide +kernel) hL (pc_most hL.1.1) (Nat.le_of_ble_eq_true rfl) (Nat.le_of_ble_eq_true rfl) rfl rfl rfl lw_un.2.2.1 (fun _ _ _ r => sc_fm r lw_un.1 hL.2.1) ?_
  intro v0 h_0 av0 hLv0
  refine ik_Wk 1 (pc' := 725) (loc' := lw_LOC i) (st' := []) (h' := h_0) (cl' := 94) (sl' := 4156) rfl ?_
  refine ik_Wk 1 (pc' := 726) (loc' := lw_LOC i) (st' := [.ref 66]) (h' := h_0) (cl' := 94) (sl' := 4156) rfl ?_
  refine lw_arg 1 ⟨rfl, rfl, rfl, rfl, rfl⟩ (by decide) h0 h1 h2 ?_
  refine lw_arg 2 ⟨rfl, rfl, rfl, rfl, rfl⟩ (by decide) h0 h1 h2 ?_
  refine lw_cm [.int (f (i.toInt.toNat + 1)), .int (f (i.toInt.toNat + 2))] [] rfl rfl (by decide +kernel) hLv0 (pm_most hLv0.1.2.1) (Nat.le_of_ble_eq_true rfl) (Nat.le_of_ble_eq_true rfl) rfl rfl rfl lw_un.2.2.2.1 (fun _ _ _ r => sr_fm r lw_un.2.1 hLv0.2.2) ?_
  intro v1 h_1 av1 hLv1
  refine ik_Wk 1 (pc' := 740) (loc' := lw_LOC i) (st' := []) (h' := h_1) (cl' := 94) (sl' := 4156) rfl ?_
  refine ik_Wk 1 (pc' := 1131) (loc' := lw_LOC i) (st' := []) (h' := h_1) (cl' := 94) (sl' := 4156) rfl ?_
  exact kk _ _ hLv1
set_option maxHeartbeats 4000000 in
set_option maxRecDepth 100000 in
theorem lw_k15 {L : Nat} {f : Nat → Int32} {i : Int32} {h : List ik_E} {t : zst} (hL : lw_E t t h) (h0 : 0 ≤ i.toInt) (h1 : i.toInt + 4 < L) (h2 : L ≤ 2560) (kk : ∀ t' h', lw_E t' t' h' → ik_W (some (L, f)) 0 1131 (lw_LOC i) [] h' 94 4156 lw_post) : ik_W (some (L, f)) 0 743 (lw_LOC i) [] h 94 4156 lw_post := by
  refine ik_Wk 1 (pc' := 744) (loc' := lw_LOC i) (st' := [.ref 0]) (h' := h) (cl' := 94) (sl' := 4156) rfl ?_
  refine lw_arg 1 ⟨rfl, rfl, rfl, rfl, rfl⟩ (by decide) h0 h1 h2 ?_
  refine lw_arg 2 ⟨rfl, rfl, rfl, rfl, rfl⟩ (by decide) h0 h1 h2 ?_
  refine lw_cx [.int (f (i.toInt.toNat + 1)), .int (f (i.toInt.toNat + 2))] [] rfl rfl (by decide +kernel) hL (zc_run hL.1.1 hL.1.2.2 hL.2.1) (Nat.le_of_ble_eq_true rfl) (Nat.le_of_ble_eq_true rfl) rfl rfl rfl lw_uq.1 (fun _ _ r _ => r.2) ?_
  intro v0 h_0 av0 hLv0
  refine ik_Wk 1 (pc' := 758) (loc' := lw_LOC i) (st' := []) (h' := h_0) (cl' := 94) (sl' := 4156) rfl ?_
  refine ik_Wk 1 (pc' := 759) (loc' := lw_LOC i) (st' := [.ref 66]) (h' := h_0) (cl' := 94) (sl' := 4156) rfl ?_
  refine lw_arg 1 ⟨rfl, rfl, rfl, rfl, rfl⟩ (by decide) h0 h1 h2 ?_
  refine lw_arg 2 ⟨rfl, rfl, rfl, rfl, rfl⟩ (by decide) h0 h1 h2 ?_
  refine lw_cm [.int (f (i.toInt.toNat + 1)), .int (f (i.toInt.toNat + 2))] [] rfl rfl (by decide +kernel) hLv0 (zr_run hLv0.1.2.1 hLv0.1.2.2 hLv0.2.2) (Nat.le_of_ble_eq_true rfl) (Nat.le_of_ble_eq_true rfl) rfl rfl rfl lw_uq.2.2.2.1 (fun _ _ r _ => r.2) ?_
  intro v1 h_1 av1 hLv1
  refine ik_Wk 1 (pc' := 773) (loc' := lw_LOC i) (st' := []) (h' := h_1) (cl' := 94) (sl' := 4156) rfl ?_
  refine ik_Wk 1 (pc' := 1131) (loc' := lw_LOC i) (st' := []) (h' := h_1) (cl' := 94) (sl' := 4156) rfl ?_
  exact kk _ _ hLv1
set_option maxHeartbeats 4000000 in
set_option maxRecDepth 100000 in
theorem lw_k16 {L : Nat} {f : Nat → Int32} {i : Int32} {h : List ik_E} {t : zst} (hL : lw_E t t h) (h0 : 0 ≤ i.toInt) (h1 : i.toInt + 4 < L) (h2 : L ≤ 2560) (kk : ∀ t' h', lw_E t' t' h' → ik_W (some (L, f)) 0 1131 (lw_LOC i) [] h' 94 4156 lw_post) : ik_W (some (L, f)) 0 776 (lw_LOC i) [] h 94 4156 lw_post := by
  refine ik_Wk 1 (pc' := 777) (loc' := lw_LOC i) (st' := [.ref 0]) (h' := h) (cl' := 94) (sl' := 4156) rfl ?_
  refine lw_cx [] [] rfl rfl (by decide +kernel) hL (zc_forget hL.1.1 hL.1.2.2 hL.2.1) (Nat.le_of_ble_eq_true rfl) (Nat.le_of_ble_eq_true rfl) rfl rfl rfl lw_uq.1 (fun _ _ r _ => r.2) ?_
  intro v0 h_0 av0 hLv0
  refine ik_Wk 1 (pc' := 781) (loc' := lw_LOC i) (st' := []) (h' := h_0) (cl' := 94) (sl' := 4156) rfl ?_
  refine ik_Wk 1 (pc' := 782) (loc' := lw_LOC i) (st' := [.ref 66]) (h' := h_0) (cl' := 94) (sl' := 4156) rfl ?_
  refine lw_cm [] [] rfl rfl (by decide +kernel) hLv0 (zr_forget hLv0.1.2.1 hLv0.1.2.2 hLv0.2.2) (Nat.le_of_ble_eq_true rfl) (Nat.le_of_ble_eq_true rfl) rfl rfl rfl lw_uq.2.2.2.1 (fun _ _ r _ => r.2) ?_
  intro v1 h_1 av1 hLv1
  refine ik_Wk 1 (pc' := 786) (loc' := lw_LOC i) (st' := []) (h' := h_1) (cl' := 94) (sl' := 4156) rfl ?_
  refine ik_Wk 1 (pc' := 1131) (loc' := lw_LOC i) (st' := []) (h' := h_1) (cl' := 94) (sl' := 4156) rfl ?_
  exact kk _ _ hLv1
set_option maxHeartbeats 4000000 in
set_option maxRecDepth 100000 in
theorem lw_k17 {L : Nat} {f : Nat → Int32} {i : Int32} {h : List ik_E} {t : zst} (hL : lw_E t t h) (h0 : 0 ≤ i.toInt) (h1 : i.toInt + 4 < L) (h2 : L ≤ 2560) (kk : ∀ t' h', lw_E t' t' h' → ik_W (some (L, f)) 0 1131 (lw_LOC i) [] h' 94 4156 lw_post) : ik_W (some (L, f)) 0 789 (lw_LOC i) [] h 94 4156 lw_post := by
  refine ik_Wk 1 (pc' := 790) (loc' := lw_LOC i) (st' := [.ref 0]) (h' := h) (cl' := 94) (sl' := 4156) rfl ?_
  refine lw_arg 1 ⟨rfl, rfl, rfl, rfl, rfl⟩ (by decide) h0 h1 h2 ?_
  refine lw_cx [.int (f (i.toInt.toNat + 1))] [] rfl rfl (by decide +kernel) hL (pc_fit hL.1.1) (Nat.le_of_ble_eq_true rfl) (Nat.le_of_ble_eq_true rfl) rfl rfl rfl lw_un.2.2.1 (fun _ _ _ r => sc_fm r lw_un.1 hL.2.1) ?_
  intro v0 h_0 av0 hLv0
  refine ik_Wk 1 (pc' := 799) (loc' := lw_LOC i) (st' := []) (h' := h_0) (cl' := 94) (sl' := 4156) rfl ?_
  refine ik_Wk 1 (pc' := 800) (loc' := lw_LOC i) (st' := [.ref 66]) (h' := h_0) (cl' := 94) (sl' := 4156) rfl ?_
  refine lw_arg 1 ⟨rfl, rfl, rfl, rfl, rfl⟩ (by decide) h0 h1 h2 ?_
  refine lw_cm [.int (f (i.toInt.toNat + 1))] [] rfl rfl (by decide +kernel) hLv0 (pm_fit hLv0.1.2.1) (Nat.le_of_ble_eq_true rfl) (Nat.le_of_ble_eq_true rfl) rfl rfl rfl lw_un.2.2.2.1 (fun _ _ _ r => sr_fm r lw_un.2.1 hLv0.2.2) ?_
  intro v1 h_1 av1 hLv1
  refine ik_Wk 1 (pc' := 809) (loc' := lw_LOC i) (st' := []) (h' := h_1) (cl' := 94) (sl' := 4156) rfl ?_
  refine ik_Wk 1 (pc' := 1131) (loc' := lw_LOC i) (st' := []) (h' := h_1) (cl' := 94) (sl' := 4156) rfl ?_
  exact kk _ _ hLv1
set_option maxHeartbeats 4000000 in
set_option maxRecDepth 100000 in
theorem lw_k18 {L : Nat} {f : Nat → Int32} {i : Int32} {h : List ik_E} {t : zst} (hL : lw_E t t h) (h0 : 0 ≤ i.toInt) (h1 : i.toInt + 4 < L) (h2 : L ≤ 2560) (kk : ∀ t' h', lw_E t' t' h' → ik_W (some (L, f)) 0 1131 (lw_LOC i) [] h' 94 4156 lw_post) : ik_W (some (L, f)) 0 812 (lw_LOC i) [] h 94 4156 lw_post := by
  refine ik_Wk 1 (pc' := 813) (loc' := lw_LOC i) (st' := [.ref 0]) (h' := h) (cl' := 94) (sl' := 4156) rfl ?_
  refine lw_cx [] [] rfl rfl (by decide +kernel) hL (pc_stoned hL.1.1) (Nat.le_of_ble_eq_true rfl) (Nat.le_of_ble_eq_true rfl) rfl rfl rfl lw_un.2.2.1 (fun _ _ _ r => sc_fm r lw_un.1 hL.2.1) ?_
  intro v0 h_0 av0 hLv0
  refine ik_Wk 1 (pc' := 817) (loc' := lw_LOC i) (st' := []) (h' := h_0) (cl' := 94) (sl' := 4156) rfl ?_
  refine ik_Wk 1 (pc' := 818) (loc' := lw_LOC i) (st' := [.ref 66]) (h' := h_0) (cl' := 94) (sl' := 4156) rfl ?_
  refine lw_cm [] [] rfl rfl (by decide +kernel) hLv0 (pm_stoned hLv0.1.2.1) (Nat.le_of_ble_eq_true rfl) (Nat.le_of_ble_eq_true rfl) rfl rfl rfl lw_un.2.2.2.1 (fun _ _ _ r => sr_fm r lw_un.2.1 hLv0.2.2) ?_
  intro v1 h_1 av1 hLv1
  refine ik_Wk 1 (pc' := 822) (loc' := lw_LOC i) (st' := []) (h' := h_1) (cl' := 94) (sl' := 4156) rfl ?_
  refine ik_Wk 1 (pc' := 1131) (loc' := lw_LOC i) (st' := []) (h' := h_1) (cl' := 94) (sl' := 4156) rfl ?_
  exact kk _ _ hLv1
set_option maxHeartbeats 4000000 in
set_option maxRecDepth 100000 in
theorem lw_k19 {L : Nat} {f : Nat → Int32} {i : Int32} {h : List ik_E} {t : zst} (hL : lw_E t t h) (h0 : 0 ≤ i.toInt) (h1 : i.toInt + 4 < L) (h2 : L ≤ 2560) (kk : ∀ t' h', lw_E t' t' h' → ik_W (some (L, f)) 0 1131 (lw_LOC i) [] h' 94 4156 lw_post) : ik_W (some (L, f)) 0 825 (lw_LOC i) [] h 94 4156 lw_post := by
  refine ik_Wk 1 (pc' := 826) (loc' := lw_LOC i) (st' := [.ref 0]) (h' := h) (cl' := 94) (sl' := 4156) rfl ?_
  refine lw_arg 1 ⟨rfl, rfl, rfl, rfl, rfl⟩ (by decide) h0 h1 h2 ?_
  refine lw_arg 2 ⟨rfl, rfl, rfl, rfl, rfl⟩ (by decide) h0 h1 h2 ?_
  refine lw_arg 3 ⟨rfl, rfl, rfl, rfl, rfl⟩ (by decide) h0 h1 h2 ?_
  refine lw_arg 4 ⟨rfl, rfl, rfl, rfl, rfl⟩ (by decide) h0 h1 h2 ?_
  refine lw_cx [.int (f (i.toInt.toNat + 1)), .int (f (i.toInt.toNat + 2)), .int (f (i.toInt.toNat + 3)), .int (f (i.toInt.toNat + 4))] [] rfl rfl (by decide +kernel) hL (pc_dig hL.1.1) (Nat.le_of_ble_eq_true rfl) (Nat.le_of_ble_eq_true rfl) rfl rfl rfl lw_un.2.2.1 (fun _ _ _ r => sc_fm r lw_un.1 hL.2.1) ?_
  intro v0 h_0 av0 hLv0
  refine ik_Wk 1 (pc' := 850) (loc' := lw_LOC i) (st' := []) (h' := h_0) (cl' := 94) (sl' := 4156) rfl ?_
  refine ik_Wk 1 (pc' := 851) (loc' := lw_LOC i) (st' := [.ref 66]) (h' := h_0) (cl' := 94) (sl' := 4156) rfl ?_
  refine lw_arg 1 ⟨rfl, rfl, rfl, rfl, rfl⟩ (by decide) h0 h1 h2 ?_
  refine lw_arg 2 ⟨rfl, rfl, rfl, rfl, rfl⟩ (by decide) h0 h1 h2 ?_
  refine lw_arg 3 ⟨rfl, rfl, rfl, rfl, rfl⟩ (by decide) h0 h1 h2 ?_
  refine lw_arg 4 ⟨rfl, rfl, rfl, rfl, rfl⟩ (by decide) h0 h1 h2 ?_
  refine lw_cm [.int (f (i.toInt.toNat + 1)), .int (f (i.toInt.toNat + 2)), .int (f (i.toInt.toNat + 3)), .int (f (i.toInt.toNat + 4))] [] rfl rfl (by decide +kernel) hLv0 (pm_dig hLv0.1.2.1) (Nat.le_of_ble_eq_true rfl) (Nat.le_of_ble_eq_true rfl) rfl rfl rfl lw_un.2.2.2.1 (fun _ _ _ r => sr_fm r lw_un.2.1 hLv0.2.2) ?_
  intro v1 h_1 av1 hLv1
  refine ik_Wk 1 (pc' := 875) (loc' := lw_LOC i) (st' := []) (h' := h_1) (cl' := 94) (sl' := 4156) rfl ?_
  refine ik_Wk 1 (pc' := 1131) (loc' := lw_LOC i) (st' := []) (h' := h_1) (cl' := 94) (sl' := 4156) rfl ?_
  exact kk _ _ hLv1
set_option maxHeartbeats 4000000 in
set_option maxRecDepth 100000 in
theorem lw_k20 {L : Nat} {f : Nat → Int32} {i : Int32} {h : List ik_E} {t : zst} (hL : lw_E t t h) (h0 : 0 ≤ i.toInt) (h1 : i.toInt + 4 < L) (h2 : L ≤ 2560) (kk : ∀ t' h', lw_E t' t' h' → ik_W (some (L, f)) 0 1131 (lw_LOC i) [] h' 94 4156 lw_post) : ik_W (some (L, f)) 0 878 (lw_LOC i) [] h 94 4156 lw_post := by
  refine ik_Wk 1 (pc' := 879) (loc' := lw_LOC i) (st' := [.ref 0]) (h' := h) (cl' := 94) (sl' := 4156) rfl ?_
  refine lw_arg 1 ⟨rfl, rfl, rfl, rfl, rfl⟩ (by decide) h0 h1 h2 ?_
  refine lw_arg 2 ⟨rfl, rfl, rfl, rfl, rfl⟩ (by decide) h0 h1 h2 ?_
  refine lw_cx [.int (f (i.toInt.toNat + 1)), .int (f (i.toInt.toNat + 2))] [] rfl rfl (by decide +kernel) hL (pc_fair hL.1.1) (Nat.le_of_ble_eq_true rfl) (Nat.le_of_ble_eq_true rfl) rfl rfl rfl lw_un.2.2.1 (fun _ _ _ r => sc_fm r lw_un.1 hL.2.1) ?_
  intro v0 h_0 av0 hLv0
  refine ik_Wk 1 (pc' := 893) (loc' := lw_LOC i) (st' := []) (h' := h_0) (cl' := 94) (sl' := 4156) rfl ?_
  refine ik_Wk 1 (pc' := 894) (loc' := lw_LOC i) (st' := [.ref 66]) (h' := h_0) (cl' := 94) (sl' := 4156) rfl ?_
  refine lw_arg 1 ⟨rfl, rfl, rfl, rfl, rfl⟩ (by decide) h0 h1 h2 ?_
  refine lw_arg 2 ⟨rfl, rfl, rfl, rfl, rfl⟩ (by decide) h0 h1 h2 ?_
  refine lw_cm [.int (f (i.toInt.toNat + 1)), .int (f (i.toInt.toNat + 2))] [] rfl rfl (by decide +kernel) hLv0 (pm_fair hLv0.1.2.1) (Nat.le_of_ble_eq_true rfl) (Nat.le_of_ble_eq_true rfl) rfl rfl rfl lw_un.2.2.2.1 (fun _ _ _ r => sr_fm r lw_un.2.1 hLv0.2.2) ?_
  intro v1 h_1 av1 hLv1
  refine ik_Wk 1 (pc' := 908) (loc' := lw_LOC i) (st' := []) (h' := h_1) (cl' := 94) (sl' := 4156) rfl ?_
  refine ik_Wk 1 (pc' := 1131) (loc' := lw_LOC i) (st' := []) (h' := h_1) (cl' := 94) (sl' := 4156) rfl ?_
  exact kk _ _ hLv1
set_option maxHeartbeats 4000000 in
set_option maxRecDepth 100000 in
theorem lw_k21 {L : Nat} {f : Nat → Int32} {i : Int32} {h : List ik_E} {t : zst} (hL : lw_E t t h) (h0 : 0 ≤ i.toInt) (h1 : i.toInt + 4 < L) (h2 : L ≤ 2560) (kk : ∀ t' h', lw_E t' t' h' → ik_W (some (L, f)) 0 1131 (lw_LOC i) [] h' 94 4156 lw_post) : ik_W (some (L, f)) 0 911 (lw_LOC i) [] h 94 4156 lw_post := by
  refine ik_Wk 1 (pc' := 912) (loc' := lw_LOC i) (st' := [.ref 0]) (h' := h) (cl' := 94) (sl' := 4156) rfl ?_
  refine lw_arg 1 ⟨rfl, rfl, rfl, rfl, rfl⟩ (by decide) h0 h1 h2 ?_
  refine lw_cx [.int (f (i.toInt.toNat + 1))] [] rfl rfl (by decide +kernel) hL (pc_drift hL.1.1) (Nat.le_of_ble_eq_true rfl) (Nat.le_of_ble_eq_true rfl) rfl rfl rfl lw_un.2.2.1 (fun _ _ _ r => sc_fm r lw_un.1 hL.2.1) ?_
  intro v0 h_0 av0 hLv0
  refine ik_Wk 1 (pc' := 921) (loc' := lw_LOC i) (st' := []) (h' := h_0) (cl' := 94) (sl' := 4156) rfl ?_
  refine ik_Wk 1 (pc' := 922) (loc' := lw_LOC i) (st' := [.ref 66]) (h' := h_0) (cl' := 94) (sl' := 4156) rfl ?_
  refine lw_arg 1 ⟨rfl, rfl, rfl, rfl, rfl⟩ (by decide) h0 h1 h2 ?_
  refine lw_cm [.int (f (i.toInt.toNat + 1))] [] rfl rfl (by decide +kernel) hLv0 (pm_drift hLv0.1.2.1) (Nat.le_of_ble_eq_true rfl) (Nat.le_of_ble_eq_true rfl) rfl rfl rfl lw_un.2.2.2.1 (fun _ _ _ r => sr_fm r lw_un.2.1 hLv0.2.2) ?_
  intro v1 h_1 av1 hLv1
  refine ik_Wk 1 (pc' := 931) (loc' := lw_LOC i) (st' := []) (h' := h_1) (cl' := 94) (sl' := 4156) rfl ?_
  refine ik_Wk 1 (pc' := 1131) (loc' := lw_LOC i) (st' := []) (h' := h_1) (cl' := 94) (sl' := 4156) rfl ?_
  exact kk _ _ hLv1
set_option maxHeartbeats 4000000 in
set_option maxRecDepth 100000 in
theorem lw_k22 {L : Nat} {f : Nat → Int32} {i : Int32} {h : List ik_E} {t : zst} (hL : lw_E t t h) (h0 : 0 ≤ i.toInt) (h1 : i.toInt + 4 < L) (h2 : L ≤ 2560) (kk : ∀ t' h', lw_E t' t' h' → ik_W (some (L, f)) 0 1131 (lw_LOC i) [] h' 94 4156 lw_post) : ik_W (some (L, f)) 0 934 (lw_LOC i) [] h 94 4156 lw_post := by
  refine ik_Wk 1 (pc' := 935) (loc' := lw_LOC i) (st' := [.ref 0]) (h' := h) (cl' := 94) (sl' := 4156) rfl ?_
  refine lw_arg 1 ⟨rfl, rfl, rfl, rfl, rfl⟩ (by decide) h0 h1 h2 ?_
  refine lw_cx [.int (f (i.toInt.toNat + 1))] [] rfl rfl (by decide +kernel) hL (pc_where hL.1.1) (Nat.le_of_ble_eq_true rfl) (Nat.le_of_ble_eq_true rfl) rfl rfl rfl lw_un.2.2.1 (fun _ _ _ r => sc_fm r lw_un.1 hL.2.1) ?_
  intro v0 h_0 av0 hLv0
  refine ik_Wk 1 (pc' := 944) (loc' := lw_LOC i) (st' := []) (h' := h_0) (cl' := 94) (sl' := 4156) rfl ?_
  refine ik_Wk 1 (pc' := 945) (loc' := lw_LOC i) (st' := [.ref 66]) (h' := h_0) (cl' := 94) (sl' := 4156) rfl ?_
  refine lw_arg 1 ⟨rfl, rfl, rfl, rfl, rfl⟩ (by decide) h0 h1 h2 ?_
  refine lw_cm [.int (f (i.toInt.toNat + 1))] [] rfl rfl (by decide +kernel) hLv0 (pm_where hLv0.1.2.1) (Nat.le_of_ble_eq_true rfl) (Nat.le_of_ble_eq_true rfl) rfl rfl rfl lw_un.2.2.2.1 (fun _ _ _ r => sr_fm r lw_un.2.1 hLv0.2.2) ?_
  intro v1 h_1 av1 hLv1
  refine ik_Wk 1 (pc' := 954) (loc' := lw_LOC i) (st' := []) (h' := h_1) (cl' := 94) (sl' := 4156) rfl ?_
  refine ik_Wk 1 (pc' := 1131) (loc' := lw_LOC i) (st' := []) (h' := h_1) (cl' := 94) (sl' := 4156) rfl ?_
  exact kk _ _ hLv1
set_option maxHeartbeats 4000000 in
set_option maxRecDepth 100000 in
theorem lw_k23 {L : Nat} {f : Nat → Int32} {i : Int32} {h : List ik_E} {t : zst} (hL : lw_E t t h) (h0 : 0 ≤ i.toInt) (h1 : i.toInt + 4 < L) (h2 : L ≤ 2560) (kk : ∀ t' h', lw_E t' t' h' → ik_W (some (L, f)) 0 1131 (lw_LOC i) [] h' 94 4156 lw_post) : ik_W (some (L, f)) 0 957 (lw_LOC i) [] h 94 4156 lw_post := by
  refine ik_Wk 1 (pc' := 958) (loc' := lw_LOC i) (st' := [.ref 0]) (h' := h) (cl' := 94) (sl' := 4156) rfl ?_
  refine lw_cx [] [] rfl rfl (by decide +kernel) hL (pc_begin hL.1.1) (Nat.le_of_ble_eq_true rfl) (Nat.le_of_ble_eq_true rfl) rfl rfl rfl lw_un.2.2.1 (fun _ _ _ r => sc_fm r lw_un.1 hL.2.1) ?_
  intro v0 h_0 av0 hLv0
  refine ik_Wk 1 (pc' := 962) (loc' := lw_LOC i) (st' := []) (h' := h_0) (cl' := 94) (sl' := 4156) rfl ?_
  refine ik_Wk 1 (pc' := 963) (loc' := lw_LOC i) (st' := [.ref 66]) (h' := h_0) (cl' := 94) (sl' := 4156) rfl ?_
  refine lw_cm [] [] rfl rfl (by decide +kernel) hLv0 (pm_begin hLv0.1.2.1) (Nat.le_of_ble_eq_true rfl) (Nat.le_of_ble_eq_true rfl) rfl rfl rfl lw_un.2.2.2.1 (fun _ _ _ r => sr_fm r lw_un.2.1 hLv0.2.2) ?_
  intro v1 h_1 av1 hLv1
  refine ik_Wk 1 (pc' := 967) (loc' := lw_LOC i) (st' := []) (h' := h_1) (cl' := 94) (sl' := 4156) rfl ?_
  refine ik_Wk 1 (pc' := 1131) (loc' := lw_LOC i) (st' := []) (h' := h_1) (cl' := 94) (sl' := 4156) rfl ?_
  exact kk _ _ hLv1
set_option maxHeartbeats 4000000 in
set_option maxRecDepth 100000 in
theorem lw_k24 {L : Nat} {f : Nat → Int32} {i : Int32} {h : List ik_E} {t : zst} (hL : lw_E t t h) (h0 : 0 ≤ i.toInt) (h1 : i.toInt + 4 < L) (h2 : L ≤ 2560) (kk : ∀ t' h', lw_E t' t' h' → ik_W (some (L, f)) 0 1131 (lw_LOC i) [] h' 94 4156 lw_post) : ik_W (some (L, f)) 0 970 (lw_LOC i) [] h 94 4156 lw_post := by
  refine ik_Wk 1 (pc' := 971) (loc' := lw_LOC i) (st' := [.ref 0]) (h' := h) (cl' := 94) (sl' := 4156) rfl ?_
  refine lw_arg 1 ⟨rfl, rfl, rfl, rfl, rfl⟩ (by decide) h0 h1 h2 ?_
  refine lw_cx [.int (f (i.toInt.toNat + 1))] [] rfl rfl (by decide +kernel) hL (pc_morning hL.1.1) (Nat.le_of_ble_eq_true rfl) (Nat.le_of_ble_eq_true rfl) rfl rfl rfl lw_un.2.2.1 (fun _ _ _ r => sc_fm r lw_un.1 hL.2.1) ?_
  intro v0 h_0 av0 hLv0
  refine ik_Wk 1 (pc' := 980) (loc' := lw_LOC i) (st' := []) (h' := h_0) (cl' := 94) (sl' := 4156) rfl ?_
  refine ik_Wk 1 (pc' := 981) (loc' := lw_LOC i) (st' := [.ref 66]) (h' := h_0) (cl' := 94) (sl' := 4156) rfl ?_
  refine lw_arg 1 ⟨rfl, rfl, rfl, rfl, rfl⟩ (by decide) h0 h1 h2 ?_
  refine lw_cm [.int (f (i.toInt.toNat + 1))] [] rfl rfl (by decide +kernel) hLv0 (pm_morning hLv0.1.2.1) (Nat.le_of_ble_eq_true rfl) (Nat.le_of_ble_eq_true rfl) rfl rfl rfl lw_un.2.2.2.1 (fun _ _ _ r => sr_fm r lw_un.2.1 hLv0.2.2) ?_
  intro v1 h_1 av1 hLv1
  refine ik_Wk 1 (pc' := 990) (loc' := lw_LOC i) (st' := []) (h' := h_1) (cl' := 94) (sl' := 4156) rfl ?_
  refine ik_Wk 1 (pc' := 1131) (loc' := lw_LOC i) (st' := []) (h' := h_1) (cl' := 94) (sl' := 4156) rfl ?_
  exact kk _ _ hLv1
set_option maxHeartbeats 4000000 in
set_option maxRecDepth 100000 in
theorem lw_k25 {L : Nat} {f : Nat → Int32} {i : Int32} {h : List ik_E} {t : zst} (hL : lw_E t t h) (h0 : 0 ≤ i.toInt) (h1 : i.toInt + 4 < L) (h2 : L ≤ 2560) (kk : ∀ t' h', lw_E t' t' h' → ik_W (some (L, f)) 0 1131 (lw_LOC i) [] h' 94 4156 lw_post) : ik_W (some (L, f)) 0 993 (lw_LOC i) [] h 94 4156 lw_post := by
  refine ik_Wk 1 (pc' := 994) (loc' := lw_LOC i) (st' := [.ref 0]) (h' := h) (cl' := 94) (sl' := 4156) rfl ?_
  refine lw_arg 1 ⟨rfl, rfl, rfl, rfl, rfl⟩ (by decide) h0 h1 h2 ?_
  refine lw_arg 2 ⟨rfl, rfl, rfl, rfl, rfl⟩ (by decide) h0 h1 h2 ?_
  refine lw_cx [.int (f (i.toInt.toNat + 1)), .int (f (i.toInt.toNat + 2))] [] rfl rfl (by decide +kernel) hL (zc_log hL.1.1 hL.1.2.2 hL.2.1) (Nat.le_of_ble_eq_true rfl) (Nat.le_of_ble_eq_true rfl) rfl rfl rfl lw_uq.2.1 (fun _ _ r _ => r.2) ?_
  intro v0 h_0 av0 hLv0
  refine ik_Wk 1 (pc' := 1008) (loc' := lw_LOC i) (st' := []) (h' := h_0) (cl' := 94) (sl' := 4156) rfl ?_
  refine ik_Wk 1 (pc' := 1009) (loc' := lw_LOC i) (st' := [.ref 66]) (h' := h_0) (cl' := 94) (sl' := 4156) rfl ?_
  refine lw_arg 1 ⟨rfl, rfl, rfl, rfl, rfl⟩ (by decide) h0 h1 h2 ?_
  refine lw_arg 2 ⟨rfl, rfl, rfl, rfl, rfl⟩ (by decide) h0 h1 h2 ?_
  refine lw_cm [.int (f (i.toInt.toNat + 1)), .int (f (i.toInt.toNat + 2))] [] rfl rfl (by decide +kernel) hLv0 (zr_log hLv0.1.2.1 hLv0.1.2.2 hLv0.2.2) (Nat.le_of_ble_eq_true rfl) (Nat.le_of_ble_eq_true rfl) rfl rfl rfl lw_uq.2.2.2.2.1 (fun _ _ r _ => r.2) ?_
  intro v1 h_1 av1 hLv1
  refine ik_Wk 1 (pc' := 1023) (loc' := lw_LOC i) (st' := []) (h' := h_1) (cl' := 94) (sl' := 4156) rfl ?_
  refine ik_Wk 1 (pc' := 1131) (loc' := lw_LOC i) (st' := []) (h' := h_1) (cl' := 94) (sl' := 4156) rfl ?_
  exact kk _ _ hLv1
set_option maxHeartbeats 4000000 in
set_option maxRecDepth 100000 in
theorem lw_k26 {L : Nat} {f : Nat → Int32} {i : Int32} {h : List ik_E} {t : zst} (hL : lw_E t t h) (h0 : 0 ≤ i.toInt) (h1 : i.toInt + 4 < L) (h2 : L ≤ 2560) (kk : ∀ t' h', lw_E t' t' h' → ik_W (some (L, f)) 0 1131 (lw_LOC i) [] h' 94 4156 lw_post) : ik_W (some (L, f)) 0 1026 (lw_LOC i) [] h 94 4156 lw_post := by
  refine ik_Wk 1 (pc' := 1027) (loc' := lw_LOC i) (st' := [.ref 0]) (h' := h) (cl' := 94) (sl' := 4156) rfl ?_
  refine lw_cx [] [] rfl rfl (by decide +kernel) hL (zc_clear hL.1.1 hL.1.2.2 hL.2.1) (Nat.le_of_ble_eq_true rfl) (Nat.le_of_ble_eq_true rfl) rfl rfl rfl lw_uq.2.1 (fun _ _ r _ => r.2) ?_
  intro v0 h_0 av0 hLv0
  refine ik_Wk 1 (pc' := 1031) (loc' := lw_LOC i) (st' := [.ref 66, .int v0]) (h' := h_0) (cl' := 94) (sl' := 4156) rfl ?_
  refine lw_cm [] [.int v0] rfl rfl (by decide +kernel) hLv0 (zr_clear hLv0.1.2.1 hLv0.1.2.2 hLv0.2.2) (Nat.le_of_ble_eq_true rfl) (Nat.le_of_ble_eq_true rfl) rfl rfl rfl lw_uq.2.2.2.2.1 (fun _ _ r _ => r.2) ?_
  intro v1 h_1 av1 hLv1
  have hv : v0 = v1 := by
    rw [cv_eq]
    rw [av0.1, av1.1]
  refine ik_Wif 1 1131 1037 (loc' := lw_LOC i) (st' := []) (h' := h_1) (cl' := 94) (sl' := 4156) rfl ?_ ?_
  · intro _
    exact kk _ _ hLv1
  · intro q
    exact absurd hv q
set_option maxHeartbeats 4000000 in
set_option maxRecDepth 100000 in
theorem lw_k27 {L : Nat} {f : Nat → Int32} {i : Int32} {h : List ik_E} {t : zst} (hL : lw_E t t h) (h0 : 0 ≤ i.toInt) (h1 : i.toInt + 4 < L) (h2 : L ≤ 2560) (kk : ∀ t' h', lw_E t' t' h' → ik_W (some (L, f)) 0 1131 (lw_LOC i) [] h' 94 4156 lw_post) : ik_W (some (L, f)) 0 1039 (lw_LOC i) [] h 94 4156 lw_post := by
  refine ik_Wk 1 (pc' := 1040) (loc' := lw_LOC i) (st' := [.ref 0]) (h' := h) (cl' := 94) (sl' := 4156) rfl ?_
  refine lw_arg 1 ⟨rfl, rfl, rfl, rfl, rfl⟩ (by decide) h0 h1 h2 ?_
  refine lw_cx [.int (f (i.toInt.toNat + 1))] [] rfl rfl (by decide +kernel) hL (pc_judge hL.1.1) (Nat.le_of_ble_eq_true rfl) (Nat.le_of_ble_eq_true rfl) rfl rfl rfl lw_un.2.2.1 (fun _ _ _ r => sc_fm r lw_un.1 hL.2.1) ?_
  intro v0 h_0 av0 hLv0
  refine ik_Wk 1 (pc' := 1049) (loc' := lw_LOC i) (st' := []) (h' := h_0) (cl' := 94) (sl' := 4156) rfl ?_
  refine ik_Wk 1 (pc' := 1050) (loc' := lw_LOC i) (st' := [.ref 66]) (h' := h_0) (cl' := 94) (sl' := 4156) rfl ?_
  refine lw_arg 1 ⟨rfl, rfl, rfl, rfl, rfl⟩ (by decide) h0 h1 h2 ?_
  refine lw_cm [.int (f (i.toInt.toNat + 1))] [] rfl rfl (by decide +kernel) hLv0 (pm_judge hLv0.1.2.1) (Nat.le_of_ble_eq_true rfl) (Nat.le_of_ble_eq_true rfl) rfl rfl rfl lw_un.2.2.2.1 (fun _ _ _ r => sr_fm r lw_un.2.1 hLv0.2.2) ?_
  intro v1 h_1 av1 hLv1
  refine ik_Wk 1 (pc' := 1059) (loc' := lw_LOC i) (st' := []) (h' := h_1) (cl' := 94) (sl' := 4156) rfl ?_
  refine ik_Wk 1 (pc' := 1131) (loc' := lw_LOC i) (st' := []) (h' := h_1) (cl' := 94) (sl' := 4156) rfl ?_
  exact kk _ _ hLv1
set_option maxHeartbeats 4000000 in
set_option maxRecDepth 100000 in
theorem lw_k28 {L : Nat} {f : Nat → Int32} {i : Int32} {h : List ik_E} {t : zst} (hL : lw_E t t h) (h0 : 0 ≤ i.toInt) (h1 : i.toInt + 4 < L) (h2 : L ≤ 2560) (kk : ∀ t' h', lw_E t' t' h' → ik_W (some (L, f)) 0 1131 (lw_LOC i) [] h' 94 4156 lw_post) : ik_W (some (L, f)) 0 1062 (lw_LOC i) [] h 94 4156 lw_post := by
  refine ik_Wk 1 (pc' := 1063) (loc' := lw_LOC i) (st' := [.ref 0]) (h' := h) (cl' := 94) (sl' := 4156) rfl ?_
  refine lw_arg 1 ⟨rfl, rfl, rfl, rfl, rfl⟩ (by decide) h0 h1 h2 ?_
  refine lw_cx [.int (f (i.toInt.toNat + 1))] [] rfl rfl (by decide +kernel) hL (pc_seed hL.1.1) (Nat.le_of_ble_eq_true rfl) (Nat.le_of_ble_eq_true rfl) rfl rfl rfl lw_un.2.2.1 (fun _ _ _ r => sc_fm r lw_un.1 hL.2.1) ?_
  intro v0 h_0 av0 hLv0
  refine ik_Wk 1 (pc' := 1072) (loc' := lw_LOC i) (st' := []) (h' := h_0) (cl' := 94) (sl' := 4156) rfl ?_
  refine ik_Wk 1 (pc' := 1073) (loc' := lw_LOC i) (st' := [.ref 66]) (h' := h_0) (cl' := 94) (sl' := 4156) rfl ?_
  refine lw_arg 1 ⟨rfl, rfl, rfl, rfl, rfl⟩ (by decide) h0 h1 h2 ?_
  refine lw_cm [.int (f (i.toInt.toNat + 1))] [] rfl rfl (by decide +kernel) hLv0 (pm_seed hLv0.1.2.1) (Nat.le_of_ble_eq_true rfl) (Nat.le_of_ble_eq_true rfl) rfl rfl rfl lw_un.2.2.2.1 (fun _ _ _ r => sr_fm r lw_un.2.1 hLv0.2.2) ?_
  intro v1 h_1 av1 hLv1
  refine ik_Wk 1 (pc' := 1082) (loc' := lw_LOC i) (st' := []) (h' := h_1) (cl' := 94) (sl' := 4156) rfl ?_
  refine ik_Wk 1 (pc' := 1131) (loc' := lw_LOC i) (st' := []) (h' := h_1) (cl' := 94) (sl' := 4156) rfl ?_
  exact kk _ _ hLv1
set_option maxHeartbeats 4000000 in
set_option maxRecDepth 100000 in
theorem lw_k29 {L : Nat} {f : Nat → Int32} {i : Int32} {h : List ik_E} {t : zst} (hL : lw_E t t h) (h0 : 0 ≤ i.toInt) (h1 : i.toInt + 4 < L) (h2 : L ≤ 2560) (kk : ∀ t' h', lw_E t' t' h' → ik_W (some (L, f)) 0 1131 (lw_LOC i) [] h' 94 4156 lw_post) : ik_W (some (L, f)) 0 1085 (lw_LOC i) [] h 94 4156 lw_post := by
  refine ik_Wk 1 (pc' := 1086) (loc' := lw_LOC i) (st' := [.ref 0]) (h' := h) (cl' := 94) (sl' := 4156) rfl ?_
  refine lw_arg 1 ⟨rfl, rfl, rfl, rfl, rfl⟩ (by decide) h0 h1 h2 ?_
  refine lw_cx [.int (f (i.toInt.toNat + 1))] [] rfl rfl (by decide +kernel) hL (zc_keep hL.1.1 hL.1.2.2 hL.2.1) (Nat.le_of_ble_eq_true rfl) (Nat.le_of_ble_eq_true rfl) rfl rfl rfl lw_uq.2.2.1 (fun _ _ r _ => r.2) ?_
  intro v0 h_0 av0 hLv0
  refine ik_Wk 1 (pc' := 1095) (loc' := lw_LOC i) (st' := []) (h' := h_0) (cl' := 94) (sl' := 4156) rfl ?_
  refine ik_Wk 1 (pc' := 1096) (loc' := lw_LOC i) (st' := [.ref 66]) (h' := h_0) (cl' := 94) (sl' := 4156) rfl ?_
  refine lw_arg 1 ⟨rfl, rfl, rfl, rfl, rfl⟩ (by decide) h0 h1 h2 ?_
  refine lw_cm [.int (f (i.toInt.toNat + 1))] [] rfl rfl (by decide +kernel) hLv0 (zr_keep hLv0.1.2.1 hLv0.1.2.2 hLv0.2.2) (Nat.le_of_ble_eq_true rfl) (Nat.le_of_ble_eq_true rfl) rfl rfl rfl lw_uq.2.2.2.2.2 (fun _ _ r _ => r.2) ?_
  intro v1 h_1 av1 hLv1
  refine ik_Wk 1 (pc' := 1105) (loc' := lw_LOC i) (st' := []) (h' := h_1) (cl' := 94) (sl' := 4156) rfl ?_
  refine ik_Wk 1 (pc' := 1131) (loc' := lw_LOC i) (st' := []) (h' := h_1) (cl' := 94) (sl' := 4156) rfl ?_
  exact kk _ _ hLv1
set_option maxHeartbeats 4000000 in
set_option maxRecDepth 100000 in
theorem lw_k30 {L : Nat} {f : Nat → Int32} {i : Int32} {h : List ik_E} {t : zst} (hL : lw_E t t h) (h0 : 0 ≤ i.toInt) (h1 : i.toInt + 4 < L) (h2 : L ≤ 2560) (kk : ∀ t' h', lw_E t' t' h' → ik_W (some (L, f)) 0 1131 (lw_LOC i) [] h' 94 4156 lw_post) : ik_W (some (L, f)) 0 1108 (lw_LOC i) [] h 94 4156 lw_post := by
  refine ik_Wk 1 (pc' := 1109) (loc' := lw_LOC i) (st' := [.ref 0]) (h' := h) (cl' := 94) (sl' := 4156) rfl ?_
  refine lw_arg 1 ⟨rfl, rfl, rfl, rfl, rfl⟩ (by decide) h0 h1 h2 ?_
  refine lw_cx [.int (f (i.toInt.toNat + 1))] [] rfl rfl (by decide +kernel) hL (zc_goBack hL.1.1 hL.1.2.2 hL.2.1) (Nat.le_of_ble_eq_true rfl) (Nat.le_of_ble_eq_true rfl) rfl rfl rfl lw_un.2.2.1 (fun _ _ _ r => sc_fm r lw_un.1 hL.2.1) ?_
  intro v0 h_0 av0 hLv0
  refine ik_Wk 1 (pc' := 1118) (loc' := lw_LOC i) (st' := []) (h' := h_0) (cl' := 94) (sl' := 4156) rfl ?_
  refine ik_Wk 1 (pc' := 1119) (loc' := lw_LOC i) (st' := [.ref 66]) (h' := h_0) (cl' := 94) (sl' := 4156) rfl ?_
  refine lw_arg 1 ⟨rfl, rfl, rfl, rfl, rfl⟩ (by decide) h0 h1 h2 ?_
  refine lw_cm [.int (f (i.toInt.toNat + 1))] [] rfl rfl (by decide +kernel) hLv0 (zr_goBack hLv0.1.2.1 hLv0.1.2.2 hLv0.2.2) (Nat.le_of_ble_eq_true rfl) (Nat.le_of_ble_eq_true rfl) rfl rfl rfl lw_un.2.2.2.1 (fun _ _ _ r => sr_fm r lw_un.2.1 hLv0.2.2) ?_
  intro v1 h_1 av1 hLv1
  refine ik_Wk 1 (pc' := 1128) (loc' := lw_LOC i) (st' := []) (h' := h_1) (cl' := 94) (sl' := 4156) rfl ?_
  refine ik_Wk 1 (pc' := 1131) (loc' := lw_LOC i) (st' := []) (h' := h_1) (cl' := 94) (sl' := 4156) rfl ?_
  exact kk _ _ hLv1
set_option maxHeartbeats 4000000 in
set_option maxRecDepth 100000 in
theorem lw_body {L : Nat} {f : Nat → Int32} {i : Int32} {h : List ik_E} {t : zst} (hL : lw_E t t h) (h0 : 0 ≤ i.toInt) (h1 : i.toInt + 4 < L) (h2 : L ≤ 2560) (kk : ∀ t' h', lw_E t' t' h' → ik_W (some (L, f)) 0 1131 (lw_LOC i) [] h' 94 4156 lw_post) : ik_W (some (L, f)) 0 26 (lw_LOC i) [] h 94 4156 lw_post := by
  refine ik_Wk 2 (pc' := 28) (loc' := lw_LOC i) (st' := [.int i, .retAddr 0]) (h' := h) (cl' := 94) (sl' := 4156) rfl ?_
  refine lw_ld rfl h0 (by omega) ?_
  refine ik_Wk 2 (pc' := 32) (loc' := lw_LOC i) (st' := [.int (f i.toInt.toNat &&& 31)]) (h' := h) (cl' := 94) (sl' := 4156) rfl ?_
  obtain ⟨j, hj, ej⟩ := pk_andE (f i.toInt.toNat) (m := 31) 5 (by decide)
  rw [ej]
  have hj2 : j = 0 ∨ j = 1 ∨ j = 2 ∨ j = 3 ∨ j = 4 ∨ j = 5 ∨ j = 6 ∨ j = 7 ∨ j = 8 ∨ j = 9 ∨ j = 10 ∨ j = 11 ∨ j = 12 ∨ j = 13 ∨ j = 14 ∨ j = 15 ∨ j = 16 ∨ j = 17 ∨ j = 18 ∨ j = 19 ∨ j = 20 ∨ j = 21 ∨ j = 22 ∨ j = 23 ∨ j = 24 ∨ j = 25 ∨ j = 26 ∨ j = 27 ∨ j = 28 ∨ j = 29 ∨ j = 30 ∨ j = 31 := by omega
  rcases hj2 with rfl | rfl | rfl | rfl | rfl | rfl | rfl | rfl | rfl | rfl | rfl | rfl | rfl | rfl | rfl | rfl | rfl | rfl | rfl | rfl | rfl | rfl | rfl | rfl | rfl | rfl | rfl | rfl | rfl | rfl | rfl | rfl
  · exact ik_Wsi 1099 0 30 #[140, 203, 216, 229, 252, 295, 338, 381, 434, 477, 520, 543, 586, 629, 678, 711, 744, 757, 780, 793, 846, 879, 902, 925, 938, 961, 994, 1007, 1030, 1053, 1076] 140 172 rfl (by decide) (by decide) rfl (lw_k0 hL h0 h1 h2 kk)
  · exact ik_Wsi 1099 0 30 #[140, 203, 216, 229, 252, 295, 338, 381, 434, 477, 520, 543, 586, 629, 678, 711, 744, 757, 780, 793, 846, 879, 902, 925, 938, 961, 994, 1007, 1030, 1053, 1076] 203 235 rfl (by decide) (by decide) rfl (lw_k1 hL h0 h1 h2 kk)
  · exact ik_Wsi 1099 0 30 #[140, 203, 216, 229, 252, 295, 338, 381, 434, 477, 520, 543, 586, 629, 678, 711, 744, 757, 780, 793, 846, 879, 902, 925, 938, 961, 994, 1007, 1030, 1053, 1076] 216 248 rfl (by decide) (by decide) rfl (lw_k2 hL h0 h1 h2 kk)
  · exact ik_Wsi 1099 0 30 #[140, 203, 216, 229, 252, 295, 338, 381, 434, 477, 520, 543, 586, 629, 678, 711, 744, 757, 780, 793, 846, 879, 902, 925, 938, 961, 994, 1007, 1030, 1053, 1076] 229 261 rfl (by decide) (by decide) rfl (lw_k3 hL h0 h1 h2 kk)
  · exact ik_Wsi 1099 0 30 #[140, 203, 216, 229, 252, 295, 338, 381, 434, 477, 520, 543, 586, 629, 678, 711, 744, 757, 780, 793, 846, 879, 902, 925, 938, 961, 994, 1007, 1030, 1053, 1076] 252 284 rfl (by decide) (by decide) rfl (lw_k4 hL h0 h1 h2 kk)
  · exact ik_Wsi 1099 0 30 #[140, 203, 216, 229, 252, 295, 338, 381, 434, 477, 520, 543, 586, 629, 678, 711, 744, 757, 780, 793, 846, 879, 902, 925, 938, 961, 994, 1007, 1030, 1053, 1076] 295 327 rfl (by decide) (by decide) rfl (lw_k5 hL h0 h1 h2 kk)
  · exact ik_Wsi 1099 0 30 #[140, 203, 216, 229, 252, 295, 338, 381, 434, 477, 520, 543, 586, 629, 678, 711, 744, 757, 780, 793, 846, 879, 902, 925, 938, 961, 994, 1007, 1030, 1053, 1076] 338 370 rfl (by decide) (by decide) rfl (lw_k6 hL h0 h1 h2 kk)
  · exact ik_Wsi 1099 0 30 #[140, 203, 216, 229, 252, 295, 338, 381, 434, 477, 520, 543, 586, 629, 678, 711, 744, 757, 780, 793, 846, 879, 902, 925, 938, 961, 994, 1007, 1030, 1053, 1076] 381 413 rfl (by decide) (by decide) rfl (lw_k7 hL h0 h1 h2 kk)
  · exact ik_Wsi 1099 0 30 #[140, 203, 216, 229, 252, 295, 338, 381, 434, 477, 520, 543, 586, 629, 678, 711, 744, 757, 780, 793, 846, 879, 902, 925, 938, 961, 994, 1007, 1030, 1053, 1076] 434 466 rfl (by decide) (by decide) rfl (lw_k8 hL h0 h1 h2 kk)
  · exact ik_Wsi 1099 0 30 #[140, 203, 216, 229, 252, 295, 338, 381, 434, 477, 520, 543, 586, 629, 678, 711, 744, 757, 780, 793, 846, 879, 902, 925, 938, 961, 994, 1007, 1030, 1053, 1076] 477 509 rfl (by decide) (by decide) rfl (lw_k9 hL h0 h1 h2 kk)
  · exact ik_Wsi 1099 0 30 #[140, 203, 216, 229, 252, 295, 338, 381, 434, 477, 520, 543, 586, 629, 678, 711, 744, 757, 780, 793, 846, 879, 902, 925, 938, 961, 994, 1007, 1030, 1053, 1076] 520 552 rfl (by decide) (by decide) rfl (lw_k10 hL h0 h1 h2 kk)
  · exact ik_Wsi 1099 0 30 #[140, 203, 216, 229, 252, 295, 338, 381, 434, 477, 520, 543, 586, 629, 678, 711, 744, 757, 780, 793, 846, 879, 902, 925, 938, 961, 994, 1007, 1030, 1053, 1076] 543 575 rfl (by decide) (by decide) rfl (lw_k11 hL h0 h1 h2 kk)
  · exact ik_Wsi 1099 0 30 #[140, 203, 216, 229, 252, 295, 338, 381, 434, 477, 520, 543, 586, 629, 678, 711, 744, 757, 780, 793, 846, 879, 902, 925, 938, 961, 994, 1007, 1030, 1053, 1076] 586 618 rfl (by decide) (by decide) rfl (lw_k12 hL h0 h1 h2 kk)
  · exact ik_Wsi 1099 0 30 #[140, 203, 216, 229, 252, 295, 338, 381, 434, 477, 520, 543, 586, 629, 678, 711, 744, 757, 780, 793, 846, 879, 902, 925, 938, 961, 994, 1007, 1030, 1053, 1076] 629 661 rfl (by decide) (by decide) rfl (lw_k13 hL h0 h1 h2 kk)
  · exact ik_Wsi 1099 0 30 #[140, 203, 216, 229, 252, 295, 338, 381, 434, 477, 520, 543, 586, 629, 678, 711, 744, 757, 780, 793, 846, 879, 902, 925, 938, 961, 994, 1007, 1030, 1053, 1076] 678 710 rfl (by decide) (by decide) rfl (lw_k14 hL h0 h1 h2 kk)
  · exact ik_Wsi 1099 0 30 #[140, 203, 216, 229, 252, 295, 338, 381, 434, 477, 520, 543, 586, 629, 678, 711, 744, 757, 780, 793, 846, 879, 902, 925, 938, 961, 994, 1007, 1030, 1053, 1076] 711 743 rfl (by decide) (by decide) rfl (lw_k15 hL h0 h1 h2 kk)
  · exact ik_Wsi 1099 0 30 #[140, 203, 216, 229, 252, 295, 338, 381, 434, 477, 520, 543, 586, 629, 678, 711, 744, 757, 780, 793, 846, 879, 902, 925, 938, 961, 994, 1007, 1030, 1053, 1076] 744 776 rfl (by decide) (by decide) rfl (lw_k16 hL h0 h1 h2 kk)
  · exact ik_Wsi 1099 0 30 #[140, 203, 216, 229, 252, 295, 338, 381, 434, 477, 520, 543, 586, 629, 678, 711, 744, 757, 780, 793, 846, 879, 902, 925, 938, 961, 994, 1007, 1030, 1053, 1076] 757 789 rfl (by decide) (by decide) rfl (lw_k17 hL h0 h1 h2 kk)
  · exact ik_Wsi 1099 0 30 #[140, 203, 216, 229, 252, 295, 338, 381, 434, 477, 520, 543, 586, 629, 678, 711, 744, 757, 780, 793, 846, 879, 902, 925, 938, 961, 994, 1007, 1030, 1053, 1076] 780 812 rfl (by decide) (by decide) rfl (lw_k18 hL h0 h1 h2 kk)
  · exact ik_Wsi 1099 0 30 #[140, 203, 216, 229, 252, 295, 338, 381, 434, 477, 520, 543, 586, 629, 678, 711, 744, 757, 780, 793, 846, 879, 902, 925, 938, 961, 994, 1007, 1030, 1053, 1076] 793 825 rfl (by decide) (by decide) rfl (lw_k19 hL h0 h1 h2 kk)
  · exact ik_Wsi 1099 0 30 #[140, 203, 216, 229, 252, 295, 338, 381, 434, 477, 520, 543, 586, 629, 678, 711, 744, 757, 780, 793, 846, 879, 902, 925, 938, 961, 994, 1007, 1030, 1053, 1076] 846 878 rfl (by decide) (by decide) rfl (lw_k20 hL h0 h1 h2 kk)
  · exact ik_Wsi 1099 0 30 #[140, 203, 216, 229, 252, 295, 338, 381, 434, 477, 520, 543, 586, 629, 678, 711, 744, 757, 780, 793, 846, 879, 902, 925, 938, 961, 994, 1007, 1030, 1053, 1076] 879 911 rfl (by decide) (by decide) rfl (lw_k21 hL h0 h1 h2 kk)
  · exact ik_Wsi 1099 0 30 #[140, 203, 216, 229, 252, 295, 338, 381, 434, 477, 520, 543, 586, 629, 678, 711, 744, 757, 780, 793, 846, 879, 902, 925, 938, 961, 994, 1007, 1030, 1053, 1076] 902 934 rfl (by decide) (by decide) rfl (lw_k22 hL h0 h1 h2 kk)
  · exact ik_Wsi 1099 0 30 #[140, 203, 216, 229, 252, 295, 338, 381, 434, 477, 520, 543, 586, 629, 678, 711, 744, 757, 780, 793, 846, 879, 902, 925, 938, 961, 994, 1007, 1030, 1053, 1076] 925 957 rfl (by decide) (by decide) rfl (lw_k23 hL h0 h1 h2 kk)
  · exact ik_Wsi 1099 0 30 #[140, 203, 216, 229, 252, 295, 338, 381, 434, 477, 520, 543, 586, 629, 678, 711, 744, 757, 780, 793, 846, 879, 902, 925, 938, 961, 994, 1007, 1030, 1053, 1076] 938 970 rfl (by decide) (by decide) rfl (lw_k24 hL h0 h1 h2 kk)
  · exact ik_Wsi 1099 0 30 #[140, 203, 216, 229, 252, 295, 338, 381, 434, 477, 520, 543, 586, 629, 678, 711, 744, 757, 780, 793, 846, 879, 902, 925, 938, 961, 994, 1007, 1030, 1053, 1076] 961 993 rfl (by decide) (by decide) rfl (lw_k25 hL h0 h1 h2 kk)
  · exact ik_Wsi 1099 0 30 #[140, 203, 216, 229, 252, 295, 338, 381, 434, 477, 520, 543, 586, 629, 678, 711, 744, 757, 780, 793, 846, 879, 902, 925, 938, 961, 994, 1007, 1030, 1053, 1076] 994 1026 rfl (by decide) (by decide) rfl (lw_k26 hL h0 h1 h2 kk)
  · exact ik_Wsi 1099 0 30 #[140, 203, 216, 229, 252, 295, 338, 381, 434, 477, 520, 543, 586, 629, 678, 711, 744, 757, 780, 793, 846, 879, 902, 925, 938, 961, 994, 1007, 1030, 1053, 1076] 1007 1039 rfl (by decide) (by decide) rfl (lw_k27 hL h0 h1 h2 kk)
  · exact ik_Wsi 1099 0 30 #[140, 203, 216, 229, 252, 295, 338, 381, 434, 477, 520, 543, 586, 629, 678, 711, 744, 757, 780, 793, 846, 879, 902, 925, 938, 961, 994, 1007, 1030, 1053, 1076] 1030 1062 rfl (by decide) (by decide) rfl (lw_k28 hL h0 h1 h2 kk)
  · exact ik_Wsi 1099 0 30 #[140, 203, 216, 229, 252, 295, 338, 381, 434, 477, 520, 543, 586, 629, 678, 711, 744, 757, 780, 793, 846, 879, 902, 925, 938, 961, 994, 1007, 1030, 1053, 1076] 1053 1085 rfl (by decide) (by decide) rfl (lw_k29 hL h0 h1 h2 kk)
  · exact ik_Wsi 1099 0 30 #[140, 203, 216, 229, 252, 295, 338, 381, 434, 477, 520, 543, 586, 629, 678, 711, 744, 757, 780, 793, 846, 879, 902, 925, 938, 961, 994, 1007, 1030, 1053, 1076] 1076 1108 rfl (by decide) (by decide) rfl (lw_k30 hL h0 h1 h2 kk)
  · refine ik_Wsw 1099 0 30 #[140, 203, 216, 229, 252, 295, 338, 381, 434, 477, 520, 543, 586, 629, 678, 711, 744, 757, 780, 793, 846, 879, 902, 925, 938, 961, 994, 1007, 1030, 1053, 1076] 1131 rfl rfl (by decide) ?_
    exact kk _ _ hL
theorem lw_len {L : Nat} (h2 : L ≤ 2560) : (Int32.ofNat L - Int32.ofInt 5).toInt = (L : Int) - 5 := by
  have e1 : (Int32.ofNat L).toInt = L := by
    exact Int32.toInt_ofNat_of_lt (by omega)
  rw [Int32.toInt_sub, e1, show (Int32.ofInt 5).toInt = 5 from rfl]
  exact sx_bm (by omega) (by omega)
set_option maxHeartbeats 4000000 in
set_option maxRecDepth 100000 in
theorem lw_exit {L : Nat} {f : Nat → Int32} (h2 : L ≤ 2560) {i : Int32} {h : List ik_E} (h0 : 0 ≤ i.toInt) (hi : i.toInt ≤ 2560) (hx : ¬ i.toInt + 4 < L) : ik_W (some (L, f)) 0 18 (lw_LOC i) [] h 94 4156 lw_post := by
  refine ik_Wif 6 1137 26 (loc' := lw_LOC i) (st' := []) (h' := h) (cl' := 94) (sl' := 4156) rfl ?_ ?_
  · intro _
    refine ik_Wk 1 (pc' := 1138) (loc' := lw_LOC i) (st' := [.int 1]) (h' := h) (cl' := 94) (sl' := 4156) rfl ?_
    exact ik_Wret rfl rfl ⟨rfl, rfl, Nat.le_of_ble_eq_true rfl, Nat.le_of_ble_eq_true rfl⟩
  · intro q
    rw [cv_lt, lw_len h2] at q
    omega
set_option maxHeartbeats 4000000 in
set_option maxRecDepth 100000 in
theorem lw_loop {L : Nat} {f : Nat → Int32} (h2 : L ≤ 2560) : ∀ (n : Nat) (i : Int32) {h : List ik_E}, 0 ≤ i.toInt → i.toInt ≤ 2560 → (L : Int) - i.toInt < n → ∀ {t : zst}, lw_E t t h → ik_W (some (L, f)) 0 18 (lw_LOC i) [] h 94 4156 lw_post := by
  intro n
  induction n with
  | zero =>
    intro i h h0 hi hn t hL
    refine lw_exit h2 h0 hi (by omega)
  | succ n ih =>
    intro i h h0 hi hn t hL
    by_cases hx : i.toInt + 4 < L
    · refine ik_Wif 6 1137 26 (loc' := lw_LOC i) (st' := []) (h' := h) (cl' := 94) (sl' := 4156) rfl ?_ ?_
      · intro q
        rw [cv_lt, lw_len h2] at q
        omega
      · intro _
        refine lw_body hL h0 hx h2 ?_
        intro t' h' hL'
        have e5 : (i + Int32.ofInt 5).toInt = i.toInt + 5 := by
          rw [Int32.toInt_add, show (Int32.ofInt 5).toInt = 5 from rfl]
          exact sx_bm (by omega) (by omega)
        refine ik_Wk 2 (pc' := 18) (loc' := lw_LOC (i + Int32.ofInt 5)) (st' := []) (h' := h') (cl' := 94) (sl' := 4156) rfl ?_
        exact ih (i + Int32.ofInt 5) (by omega) (by omega) (by omega) hL'
    · exact lw_exit h2 h0 hi (by omega)
end
