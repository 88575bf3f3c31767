noncomputable section
/-! the reference from call to call, and stream -/
theorem sx_cx_nil {loc : ik_L} {st : List Value} {h : List ik_E} : sx_cx loc st h [] := fun _ hx => nomatch hx
def rc_MR : sx_M := (List.range 28).map fun k => (66 + k, [9999])
/-- all but the number of places, the text and its length, the byte of the fault, the runs and logs told, which images are kept -/
def rc_N : sx_M := (66, (List.range 43).filter fun k => !(Nat.beq k 0 || Nat.beq k 10 || Nat.beq k 11 || Nat.beq k 36)) :: ((List.range 27).filter fun k => !(Nat.beq k 5 || Nat.beq k 23 || Nat.beq k 26)).map fun k => (67 + k, [9999])
/-- and images kept -/
def rc_Nk : sx_M := (93, [9999]) :: rc_N
def rc_RI (h : List ik_E) : Prop := (sx_iv' rc_TA h ∨ sx_iv' rc_TB h) ∧ qq h
/-- what a call of the reference comes to -/
def pr_P (N : sx_M) (q : Nat) (A : Int32 → List ik_E → Prop) (h : List ik_E) (z : ik_St) : Prop := ∃ ir v, ik_at q z.1 = some ir ∧ ik_rv (ik_rt q) ir z.2.2.1 = some [.int v] ∧ A v z.2.2.2.1 ∧ rc_RI z.2.2.2.1 ∧ sx_fm N h z.2.2.2.1 ∧ z.2.2.2.2.1 = 0 ∧ z.2.2.2.2.2 = 0
theorem rc_TAf : sx_lh 0 ((0, []), []) rc_TA.1 (rf_H rc_f) = true := by decide +kernel
theorem rc_TBf : sx_lh 0 ((0, []), []) rc_TB.1 (rf_H rc_f) = true := by decide +kernel
theorem rc_gen {h : List ik_E} (hI : rc_RI h) : sx_hr [] (rf_H rc_f) h := by
  rcases hI.1 with q | q
  · exact sx_lh0 q.1 rc_TAf
  · exact sx_lh0 q.1 rc_TBf
/-- without a stream the rows say nothing -/
theorem rc_TBq : ((List.range 11).all fun p => sx_stk rc_TB.1 [qf_lo qf_pl p]) = true := by decide +kernel
theorem qq_B {h : List ik_E} (hh : sx_hr [] rc_TB.1 h) : qq h := by
  have h1 : ∀ p, p < 11 → sx_cx [] [] h [qf_lo qf_pl p] := fun p hp => sx_st hh (List.all_eq_true.mp rc_TBq p (List.mem_range.mpr hp))
  exact ⟨fun p hp => ⟨_, List.mem_cons_self, h1 p hp⟩, fun i _ p hp => ⟨_, List.mem_cons_self, h1 p hp⟩⟩
/-! stream: to takeAll -/
def s1_M : sx_M := [(66, [11, 12, 17])]
def s1_L : sx_L := [some (sx_va [66]), none, none]
theorem s1_k : sx_sg [] [] s1_M false 100 147 0 (sx_lo (ik_ml 147) [sx_va [66]]) (rf_H rc_f) [] [] [15] [(false, 15, s1_L, [], rf_H (rc_rp 0), [], [])] = true := by decide +kernel
theorem s1_fit : (decide (ik_fr 145 + 1 ≤ ik_fr 147) && decide (8 + (ik_ml 145 + 11) + ik_lo 145 ≤ ik_lo 147) && decide (1 ≤ ik_ml 145) && decide (145 < ik_M.length) && decide (10 = ik_ow 145)) = true := by decide +kernel
def st_Mf : sx_M := [(66, [10, 11, 12, 13, 14, 15, 16, 17]), (73, [9999]), (74, [9999]), (75, [9999]), (76, [9999])]
theorem s1_rd : sx_lh 0 ((0, []), []) (rf_H (rc_rp 0)) (rd_H (rc_rp 0)) = true := by decide +kernel
theorem s1_tk : sx_tk (rf_H (rc_rp 0), []) (rf_H rc_f, []) ta_M (rd_H rc_f) [] = true := by decide +kernel
theorem st_m1 : ∀ a k, sx_md s1_M a k = true → sx_md st_Mf a k = true := sx_mle_ok (by decide +kernel)
theorem st_m2 : ∀ a k, sx_md ta_M a k = true → sx_md st_Mf a k = true := sx_mle_ok (by decide +kernel)
/-- stream, as far as behind takeAll -/
theorem st_pre {h : List ik_E} (hh : sx_hr [] (rf_H rc_f) h) {post : ik_St → Prop} (kk : ∀ (v : Int32) (o : Option Value) (h' : List ik_E), ik_wl h'.length o = true → sx_hr [] (rf_H rc_f) h' → sx_fm st_Mf h h' → ((1 ≤ v.toInt ∧ v.toInt ≤ 6) ∨ (v.toInt = 0 ∧ ∀ p, p < 11 → sx_dh h' (qf_G p))) → ik_W none 147 20 [some (.ref 66), some (.int v), o] [] h' 0 0 post) : ik_W none 147 0 (ik_loc (ik_ml 147) [.ref 66]) [] h 0 0 post := by
  refine sx_seg (Q := qq) sx_h0 s1_k (sx_lo_ok ⟨⟨66, List.mem_singleton.mpr rfl, rfl⟩, trivial⟩) hh (fun x hx => (nomatch hx)) (fun u => nomatch u) ?_ ?_
  · intro O hO hb
    rw [List.mem_singleton] at hO
    subst hO
    cases hb
  · intro O hO hb loc' h1 huc
    rw [List.mem_singleton] at hO
    subst hO
    obtain ⟨u1, u2, u3, u4, u5, u6⟩ := huc
    have hwl : loc'.all (ik_wl h1.length) = true := sx_wl_ok u3.1 (by rw [u2]; exact u4) rfl
    have u4' := u4
    match loc', u4', hwl with
    | [o0, o1, o2], ⟨⟨v0, e0, k0, hk0, e0'⟩, hw1, hw2, _⟩, hwl =>
      subst e0; subst e0'
      rw [List.mem_singleton] at hk0
      subst hk0
      refine ik_Wk 1 (pc' := 16) (loc' := [some (.ref 66), o1, o2]) (st' := [.ref 66]) (h' := h1) (cl' := 0) (sl' := 0) rfl ?_
      have hrd : sx_hr [] (rd_H (rc_rp 0)) h1 := sx_lh0 u3 s1_rd
      obtain ⟨fs, h66⟩ := rc_66 hrd
      refine ik_Wc 145 1 0 [.ref 66] [] rfl rfl rfl (by decide) rfl rfl (rc_fit s1_fit h66 hwl) ?_
      refine sx_W_mono (ta_all hrd) ?_
      rintro z ⟨ir, v, z1, z2, z3, z4, z5, z6, z7⟩
      refine ⟨ir, [.int v], z1, z2, ?_⟩
      rw [z6, z7]
      refine ik_Wk 1 (pc' := 20) (loc' := [some (.ref 66), some (.int v), o2]) (st' := []) (h' := z.2.2.2.1) (cl' := 0) (sl' := 0) rfl ?_
      have hT := sx_tk_ok (T := (rf_H (rc_rp 0), [])) (T' := (rf_H rc_f, [])) (xs := []) (loc := []) (st := []) ⟨u3, sx_cx_nil⟩ z4 z3 sx_cx_nil s1_tk
      refine kk v o2 z.2.2.2.1 ?_ hT.1 (sx_fm_trans st_m2 (sx_fm_trans st_m1 (sx_fm_refl _ _) u1) z4) z5
      rw [z4.1, u2]
      exact hw2
/-- a field as it is -/
theorem rc_fix {f : List sx_V} {h : List ik_E} (hh : sx_hr [] (rf_H f) h) {k : Nat} {l u : Int} (hk : f[k]? = some (sx_ri l u)) : ∃ x : Int, l ≤ x ∧ x ≤ u ∧ (∀ loc st, sx_lk loc st h (1, 66, k) = some x) ∧ sx_hr [] (rf_H (f.set k (sx_ri x x))) h := by
  obtain ⟨d, hd, fs, e1, e2⟩ := hh.2 66 (.inl (10, f)) rfl
  subst e1
  obtain ⟨v, hv, x, rfl, x1, x2⟩ := sx_sr_get0 e2 hk
  refine ⟨x.toInt, x1, x2, ?_, ?_⟩
  · intro loc st
    simp only [sx_lk, hd, sx_pt, hv, sx_iv]
  · have := sx_hr_see (a := 66) (c := .inl (10, sx_set f (sx_ri x.toInt x.toInt) k)) hh hd ⟨fs, rfl, sx_sr_see e2 hv ⟨x, rfl, Int.le_refl _, Int.le_refl _⟩⟩
    rw [sx_set_eq] at this
    exact this
def rc_f0 : List sx_V := rc_f.set 10 (sx_ri 0 0)
theorem rc_f0g : sx_lh 0 ((0, []), []) (rf_H rc_f0) (rf_H rc_f) = true := by decide +kernel
theorem rc_tx {f : List sx_V} {h : List ik_E} (hh : sx_hr [] (rf_H f) h) (hk : f[10]? = some (sx_ri 0 0)) : sx_lk [] [] h (1, 66, 10) = some 0 := by
  obtain ⟨x, x1, x2, hx, _⟩ := rc_fix hh hk
  have : x = 0 := by omega
  rw [← this]
  exact hx [] []
/-! stream: a fault -/
theorem s2f_k : sx_sg [] [] [(66, [10])] false 100 147 20 [some (sx_va [66]), some (sx_ri 1 6), none] (rf_H rc_f) [] [] [] [(true, 0, [], [sx_ri (-16) (-11)], rf_H rc_f0, [], [])] = true := by decide +kernel
theorem st_m3 : ∀ a k, sx_md [(66, [10])] a k = true → sx_md st_Mf a k = true := sx_mle_ok (by decide +kernel)
theorem st_mR : ∀ a k, sx_md st_Mf a k = true → sx_md rc_MR a k = true := sx_mle_ok (by decide +kernel)
theorem st_tA : sx_tk rc_TA rc_TA st_Mf (rf_H rc_f) [] = true := by decide +kernel
theorem st_tB : sx_tk rc_TB rc_TB st_Mf (rf_H rc_f) [] = true := by decide +kernel
theorem st_qf : qq_ut st_Mf = true := by decide +kernel
theorem st_fault {h0 h : List ik_E} (hI : rc_RI h0) (hf : sx_fm st_Mf h0 h) (hh : sx_hr [] (rf_H rc_f) h) {v : Int32} (h1 : 1 ≤ v.toInt) (h2 : v.toInt ≤ 6) {o : Option Value} (hw : ik_wl h.length o = true) : ik_W none 147 20 [some (.ref 66), some (.int v), o] [] h 0 0 (pr_P rc_MR 147 (fun _ h' => sx_lk [] [] h' (1, 66, 10) = some 0) h0) := by
  refine sx_seg (Q := qq) sx_h0 s2f_k ⟨⟨_, rfl, 66, List.mem_singleton.mpr rfl, rfl⟩, ⟨_, rfl, v, rfl, h1, h2⟩, hw, trivial⟩ hh (fun x hx => (nomatch hx)) (fun u => nomatch u) ?_ ?_
  · intro O hO hb pc' loc' st' h' hur
    rw [List.mem_singleton] at hO
    subst hO
    obtain ⟨u1, u2, u3, ir, rv, u4, u5, u6, u7, u8⟩ := hur
    have hf' : sx_fm st_Mf h0 h' := sx_fm_trans st_m3 hf u1
    have u3' : sx_hr [] (rf_H rc_f) h' := sx_lh0 u3 rc_f0g
    match rv, u6 with
    | [_], ⟨⟨x, rfl, x1, x2⟩, _⟩ =>
      refine ⟨ir, x, u4, u5, rc_tx u3 rfl, ⟨?_, qq_fr st_qf hf' hI.2⟩, sx_fm_trans st_mR (sx_fm_refl _ _) hf', rfl, rfl⟩
      rcases hI.1 with q | q
      · exact Or.inl (sx_tk_ok (xs := []) (loc := []) (st := []) q hf' u3' sx_cx_nil st_tA)
      · exact Or.inr (sx_tk_ok (xs := []) (loc := []) (st := []) q hf' u3' sx_cx_nil st_tB)
  · intro O hO hb
    rw [List.mem_singleton] at hO
    subst hO
    cases hb
/-! stream: a new stream -/
def qf_G2 (p : Nat) : sx_D := [qf_lo qf_pl p] :: [1, 2, 3, 4].map (fun m => qf_hi qf_pl p :: (qf_rx 73 69 0 p m ++ qf_tx 68 qf_pl p m))
def s2_rl (p : Nat) : List (sx_X × sx_X) := ((qf_G p).zip (qf_G2 p)).flatMap fun r => r.1.zip r.2
def s2_ra : List (sx_X × sx_X) := (List.range 11).flatMap s2_rl
def s2_M : sx_M := [(66, [0, 10]), (68, [9999]), (69, [9999])]
def s2_xs : List sx_X := [(0, [(1, qf_pl), (-1, qf_rp)]), (0, [(-1, qf_pl), (1, qf_rp)])]
def s2_O : sx_U := (false, 80, [some (sx_va [66]), none, none], [], rf_H rc_f0, s2_xs, s2_ra)
theorem s2_k : sx_sg [] [] s2_M false 3000 147 20 [some (sx_va [66]), some (sx_ri 0 0), none] (rf_H rc_f) (s2_ra.map fun p => p.1) [] [80] [s2_O] = true := by decide +kernel
theorem s2_dj : ((List.range 11).all fun p => sx_dj s2_M [] (s2_rl p) (qf_G p) (qf_G2 p)) = true := by decide +kernel
def s3_f (j : Int) : List sx_V := (rc_f0.set 17 (sx_ri j j)).set 0 (sx_ri j j)
def s3_H (j : Int) : sx_H := rf_H ((s3_f j).set 36 (sx_ri 0 0))
def s3_rl (j : Nat) : List (sx_X × sx_X) := ((List.range 11).filter fun p => Nat.blt (p + 1) j).flatMap fun p => [1, 2, 3, 4].flatMap fun m => [((-(m : Int), [(1, 1, 73, p)]), (-(m : Int), [(1, 1, 67, p)])), (((m : Int), [(-1, 1, 73, p)]), ((m : Int), [(-1, 1, 67, p)]))]
def s3_M : sx_M := [(66, [4, 7, 36]), (67, [9999]), (70, [9999]), (71, [9999]), (90, [9999]), (93, [9999])]
def s3_xs (j : Nat) : List sx_X := [(0, [(-1, 1, 93, 0)]), (0, [(-1, 1, 93, 1)])] ++ (bif Nat.ble 2 j then rc_CS else [])
def s3_O (j : Nat) : sx_U := (true, 0, [], [sx_ri j j], s3_H j, s3_xs j, s3_rl j)
def s3_k (j : Nat) : Bool := sx_sg [] [] s3_M false 1000 147 80 [some (sx_va [66]), none, none] (rf_H (s3_f j)) ((s3_rl j).map fun p => p.1) [] [] [s3_O j]
theorem s3_ka : (List.range 13).all s3_k = true := by decide +kernel
theorem s3_dj : ((List.range 13).all fun j => (List.range 11).all fun p => (!(Nat.blt (p + 1) j) && sx_stk (s3_H j) [qf_lo qf_pl p]) || sx_dj s3_M [] (s3_rl j) (qf_G2 p) (qf_F p)) = true := by decide +kernel
theorem s3_lA : ((List.range 13).all fun j => bif Nat.ble 2 j then sx_lh 0 ((0, []), []) (s3_H j) rc_TA.1 else sx_lh 0 ((0, []), []) (s3_H j) rc_TB.1) = true := by decide +kernel
theorem s3_ho : (rc_CS.all sx_ho) = true := by decide +kernel
theorem s2_mR : ∀ a k, sx_md s2_M a k = true → sx_md rc_MR a k = true := sx_mle_ok (by decide +kernel)
theorem s3_mR : ∀ a k, sx_md s3_M a k = true → sx_md rc_MR a k = true := sx_mle_ok (by decide +kernel)
theorem s3_all {j : Nat} (hj : j < 13) {h0 h1 : List ik_E} {loc : ik_L} (hl : sx_lr [] h1.length [some (sx_va [66]), none, none] loc) (hh : sx_hr [] (rf_H (s3_f j)) h1) (hG : ∀ p, p < 11 → sx_dh h1 (qf_G2 p)) (hf : sx_fm rc_MR h0 h1) : ik_W none 147 80 loc [] h1 0 0 (pr_P rc_MR 147 (fun _ h' => sx_lk [] [] h' (1, 66, 10) = some 0) h0) := by
  have hck := List.all_eq_true.mp s3_ka j (List.mem_range.mpr hj)
  refine sx_seg (Q := qq) sx_h0 hck hl hh (fun x hx => (nomatch hx)) (fun u => nomatch u) ?_ ?_
  · intro O hO hb pc' loc' st' h' hur
    rw [List.mem_singleton] at hO
    subst hO
    obtain ⟨u1, u2, u3, ir, rv, u4, u5, u6, u7, u8⟩ := hur
    match rv, u6, u7, u8 with
    | [_], ⟨⟨x, rfl, x1, x2⟩, _⟩, u7, u8 =>
      refine ⟨ir, x, u4, u5, rc_tx u3 rfl, ⟨?_, ?_, ?_⟩, sx_fm_trans s3_mR hf u1, rfl, rfl⟩
      · have hA := List.all_eq_true.mp s3_lA j (List.mem_range.mpr hj)
        cases hb2 : Nat.ble 2 j with
        | true =>
          rw [hb2, cond_true] at hA
          refine Or.inl ⟨sx_lh0 u3 hA, sx_cx_oh (loc := loc') (st := [.int x]) (fun y hy => u7 y ?_) s3_ho⟩
          unfold s3_O s3_xs
          rw [hb2]
          exact List.mem_append_right _ hy
        | false =>
          rw [hb2, cond_false] at hA
          exact Or.inr ⟨sx_lh0 u3 hA, fun y hy => (nomatch hy)⟩
      · intro p hp
        have hd := List.all_eq_true.mp (List.all_eq_true.mp s3_dj j (List.mem_range.mpr hj)) p (List.mem_range.mpr hp)
        rcases Bool.or_eq_true_iff.mp hd with hd | hd
        · exact ⟨_, List.mem_cons_self, sx_st u3 (Bool.and_eq_true_iff.mp hd).2⟩
        · exact sx_dj_ok (xs := []) (loc := loc) (loc' := loc') (st' := [.int x]) u1 sx_cx_nil u8 (hG p hp) hd
      · intro i hi p hp
        refine ⟨[(0, [(-1, 1, 93, i)])], List.mem_cons_of_mem _ List.mem_cons_self, ?_⟩
        refine sx_cx_oh (loc := loc') (st := [.int x]) (fun y hy => u7 y ?_) rfl
        rw [List.mem_singleton] at hy
        subst hy
        have hi2 : i = 0 ∨ i = 1 := by omega
        rcases hi2 with rfl | rfl
        · exact List.mem_append_left _ List.mem_cons_self
        · exact List.mem_append_left _ (List.mem_cons_of_mem _ List.mem_cons_self)
  · intro O hO hb
    rw [List.mem_singleton] at hO
    subst hO
    cases hb
theorem st_new {h0 h : List ik_E} (hf : sx_fm st_Mf h0 h) (hh : sx_hr [] (rf_H rc_f) h) {v : Int32} (hv : v.toInt = 0) (hG : ∀ p, p < 11 → sx_dh h (qf_G p)) {o : Option Value} (hw : ik_wl h.length o = true) : ik_W none 147 20 [some (.ref 66), some (.int v), o] [] h 0 0 (pr_P rc_MR 147 (fun _ h' => sx_lk [] [] h' (1, 66, 10) = some 0) h0) := by
  refine sx_seg (Q := qq) sx_h0 s2_k ⟨⟨_, rfl, 66, List.mem_singleton.mpr rfl, rfl⟩, ⟨_, rfl, v, rfl, by omega, by omega⟩, hw, trivial⟩ hh (fun x hx => (nomatch hx)) (fun u => nomatch u) ?_ ?_
  · intro O hO hb
    rw [List.mem_singleton] at hO
    subst hO
    cases hb
  · intro O hO hb loc' h1 huc
    rw [List.mem_singleton] at hO
    subst hO
    obtain ⟨u1, u2, u3, u4, u5, u6⟩ := huc
    have hG2 : ∀ p, p < 11 → sx_dh h1 (qf_G2 p) := fun p hp => sx_dj_ok (xs := []) (rl := s2_rl p) (loc := [some (.ref 66), some (.int v), o]) (loc' := loc') (st' := []) u1 sx_cx_nil (fun q hq => u6 q (List.mem_flatMap.mpr ⟨p, List.mem_range.mpr hp, hq⟩)) (hG p hp) (List.all_eq_true.mp s2_dj p (List.mem_range.mpr hp))
    obtain ⟨x, x1, x2, hx, hh1⟩ := rc_fix (k := 17) (l := 0) (u := 12) u3 rfl
    obtain ⟨y, y1, y2, hy, hh2⟩ := rc_fix (k := 0) (l := 0) (u := 12) hh1 rfl
    have hxy : y = x := by
      obtain ⟨a, a1, a2⟩ := u5 (0, [(1, qf_pl), (-1, qf_rp)]) List.mem_cons_self
      obtain ⟨b, b1, b2⟩ := u5 (0, [(-1, qf_pl), (1, qf_rp)]) (List.mem_cons_of_mem _ List.mem_cons_self)
      simp only [sx_xc, sx_xk, qf_pl, qf_rp, hx, hy, Option.some.injEq] at a1 b1
      omega
    subst hxy
    obtain ⟨j, hj⟩ : ∃ j : Nat, y = (j : Int) := ⟨y.toNat, by omega⟩
    subst hj
    exact s3_all (by omega) (by rw [u2]; exact u4) hh2 hG2 (sx_fm_trans s2_mR (sx_fm_trans st_mR (sx_fm_refl _ _) hf) u1)
/-- stream, from every state -/
theorem pr_stream {h : List ik_E} (hI : rc_RI h) : ik_W none 147 0 (ik_loc (ik_ml 147) [.ref 66]) [] h 0 0 (pr_P rc_MR 147 (fun _ h' => sx_lk [] [] h' (1, 66, 10) = some 0) h) := by
  refine st_pre (rc_gen hI) ?_
  intro v o h' hw hh hf hv
  rcases hv with ⟨v1, v2⟩ | ⟨v0, hG⟩
  · exact st_fault hI hf hh v1 v2 hw
  · exact st_new hf hh v0 hG hw
end
