noncomputable section
/-! keep and goBack of the reference: rows into images and back -/
def kp_rl (i p : Nat) : List (sx_X × sx_X) := (((qf_F p).drop 1).zip ((qf_I i p).drop 2)).flatMap fun r => (r.1.zip r.2).filter fun q => !(q.1 == q.2)
def kp_ra (i : Nat) : List (sx_X × sx_X) := (List.range 11).flatMap (kp_rl i)
def kp_M (i : Nat) : sx_M := [(92, (List.range 59).map fun k => 80 * i + k), (93, [i])]
def kp_O (T : sx_T) (rl : List (sx_X × sx_X)) : sx_U := (true, 0, [], [sx_ri 1 1], T.1, T.2, rl)
def kp_kA (i : Nat) : Bool := sx_sg [] [] (kp_M i) false 3000 209 0 (sx_lo (ik_ml 209) [sx_va [66], sx_ri i i]) rc_TA.1 ((kp_ra i).map fun p => p.1) rc_TA.2 [] [kp_O rc_TA (kp_ra i)]
def kp_kB (i : Nat) : Bool := sx_sg [] [] (kp_M i) false 3000 209 0 (sx_lo (ik_ml 209) [sx_va [66], sx_ri i i]) rc_TB.1 [] rc_TB.2 [] [kp_O rc_TB []]
theorem kp_kA0 : kp_kA 0 = true := by decide +kernel
theorem kp_kA1 : kp_kA 1 = true := by decide +kernel
theorem kp_kB0 : kp_kB 0 = true := by decide +kernel
theorem kp_kB1 : kp_kB 1 = true := by decide +kernel
theorem kp_t : ((List.range 2).all fun i => sx_mle (kp_M i) rc_Nk && (List.range 11).all (fun p => sx_dut (kp_M i) (qf_F p) && sx_dj (kp_M i) [] (kp_rl i p) (qf_F p) (qf_I i p) && sx_dut (kp_M i) (qf_I (1 - i) p))) = true := by decide +kernel
theorem rc_hoA : rc_TA.2.all sx_ho = true := by decide +kernel
theorem kp_lo : sx_sg [] [] [] false 200 209 0 (sx_lo (ik_ml 209) [sx_va [66], sx_ri (-2147483648) (-1)]) (rf_H rc_f) [] [] [] [(true, 0, [], [sx_ri (-1000000001) (-1000000001)], ([], []), [], [])] = true := by decide +kernel
theorem kp_hi : sx_sg [] [] [] false 200 209 0 (sx_lo (ik_ml 209) [sx_va [66], sx_ri 2 2147483647]) (rf_H rc_f) [] [] [] [(true, 0, [], [sx_ri (-1000000001) (-1000000001)], ([], []), [], [])] = true := by decide +kernel
/-- what keep answers -/
def kp_A (x v : Int32) : Prop := v.toInt = if 0 ≤ x.toInt ∧ x.toInt ≤ 1 then 1 else -1000000001
theorem pr_keep {h : List ik_E} (hI : rc_RI h) {x : Int32} : ik_W none 209 0 (ik_loc (ik_ml 209) [.ref 66, .int x]) [] h 0 0 (pr_P rc_Nk 209 (fun v _ => kp_A x v) h) := by
  have hx := sx_i32 x
  have h66 : sx_vr [] (sx_va [66]) (.ref 66) := ⟨66, List.mem_singleton.mpr rfl, rfl⟩
  by_cases hx0 : x.toInt < 0
  · refine pr_refuse (A := kp_A x) kp_lo hI (as := [.ref 66, .int x]) ⟨h66, ⟨x, rfl, hx.1, by omega⟩, trivial⟩ (fun rv hrv => ?_)
    obtain ⟨v, e, v1, v2⟩ := sx_sr1 hrv
    refine ⟨v, e, ?_⟩
    unfold kp_A
    rw [if_neg (by omega)]
    omega
  · by_cases hx1 : 2 ≤ x.toInt
    · refine pr_refuse (A := kp_A x) kp_hi hI (as := [.ref 66, .int x]) ⟨h66, ⟨x, rfl, hx1, hx.2⟩, trivial⟩ (fun rv hrv => ?_)
      obtain ⟨v, e, v1, v2⟩ := sx_sr1 hrv
      refine ⟨v, e, ?_⟩
      unfold kp_A
      rw [if_neg (by omega)]
      omega
    · obtain ⟨i, hi⟩ : ∃ i : Nat, x.toInt = (i : Int) := ⟨x.toInt.toNat, by omega⟩
      have hi2 : i < 2 := by omega
      have ht := List.all_eq_true.mp kp_t i (List.mem_range.mpr hi2)
      obtain ⟨t1, t2⟩ := Bool.and_eq_true_iff.mp ht
      have hsr : sx_sr [] [sx_va [66], sx_ri i i] [.ref 66, .int x] := ⟨h66, ⟨x, rfl, by omega, by omega⟩, trivial⟩
      have ans : ∀ v : Int32, 1 ≤ v.toInt → v.toInt ≤ 1 → kp_A x v := by
        intro v v1 v2
        unfold kp_A
        rw [if_pos (by omega)]
        omega
      rcases hI.1 with q | q
      · have hck : kp_kA i = true := by
          have : i = 0 ∨ i = 1 := by omega
          rcases this with rfl | rfl
          · exact kp_kA0
          · exact kp_kA1
        refine sx_seg (Q := qq) sx_h0 hck (sx_lo_ok hsr) q.1 (sx_cx_ho q.2 rc_hoA) (fun u => nomatch u) ?_ ?_
        · intro O hO hb pc' loc' st' h' hur
          rw [List.mem_singleton] at hO
          subst hO
          obtain ⟨u1, u2, u3, ir, rv, u4, u5, u6, u7, u8⟩ := hur
          obtain ⟨v, rfl, v1, v2⟩ := sx_sr1 u6
          refine ⟨ir, v, u4, u5, ans v v1 v2, ⟨Or.inl ⟨u3, sx_cx_oh (loc := loc') (st := [.int v]) u7 rc_hoA⟩, ?_, ?_⟩, sx_fm_trans (sx_mle_ok t1) (sx_fm_refl _ _) u1, rfl, rfl⟩
          · intro p hp
            have t3 := List.all_eq_true.mp t2 p (List.mem_range.mpr hp)
            exact sx_dut_ok u1 (hI.2.1 p hp) (Bool.and_eq_true_iff.mp (Bool.and_eq_true_iff.mp t3).1).1
          · intro i' hi' p hp
            have t3 := List.all_eq_true.mp t2 p (List.mem_range.mpr hp)
            by_cases hii : i' = i
            · subst hii
              exact sx_dj_ok (xs := []) (rl := kp_rl i' p) (loc := ik_loc (ik_ml 209) [.ref 66, .int x]) (loc' := loc') (st' := [.int v]) u1 sx_cx_nil (fun z hz => u8 z (List.mem_flatMap.mpr ⟨p, List.mem_range.mpr hp, hz⟩)) (hI.2.1 p hp) (Bool.and_eq_true_iff.mp (Bool.and_eq_true_iff.mp t3).1).2
            · have : i' = 1 - i := by omega
              subst this
              exact sx_dut_ok u1 (hI.2.2 _ hi' p hp) (Bool.and_eq_true_iff.mp t3).2
        · intro O hO hb
          rw [List.mem_singleton] at hO
          subst hO
          cases hb
      · have hck : kp_kB i = true := by
          have : i = 0 ∨ i = 1 := by omega
          rcases this with rfl | rfl
          · exact kp_kB0
          · exact kp_kB1
        refine sx_seg (Q := qq) sx_h0 hck (sx_lo_ok hsr) q.1 (fun x hx => (nomatch hx)) (fun u => nomatch u) ?_ ?_
        · intro O hO hb pc' loc' st' h' hur
          rw [List.mem_singleton] at hO
          subst hO
          obtain ⟨u1, u2, u3, ir, rv, u4, u5, u6, u7, u8⟩ := hur
          obtain ⟨v, rfl, v1, v2⟩ := sx_sr1 u6
          exact ⟨ir, v, u4, u5, ans v v1 v2, ⟨Or.inr ⟨u3, fun y hy => (nomatch hy)⟩, qq_B u3⟩, sx_fm_trans (sx_mle_ok t1) (sx_fm_refl _ _) u1, rfl, rfl⟩
        · intro O hO hb
          rw [List.mem_singleton] at hO
          subst hO
          cases hb
/-! goBack -/
def gb_H (T : sx_T) (i : Nat) (x : Int) : sx_H := sx_hs T.1 93 (some (.inr (.inl (3, ([sx_ri 0 1, sx_ri 0 1] : List sx_V).set i (sx_ri x x)))))
def gb_M : sx_M := [(66, [4, 7, 8]), (69, [9999]), (70, [9999]), (71, [9999])]
def gb_rl (i p : Nat) : List (sx_X × sx_X) := (kp_rl i p).map fun q => (q.2, q.1)
def gb_ra (i : Nat) : List (sx_X × sx_X) := (List.range 11).flatMap (gb_rl i)
def gb_k0 (T : sx_T) (i : Nat) : Bool := sx_sg [] [] [] false 200 210 0 (sx_lo (ik_ml 210) [sx_va [66], sx_ri i i]) (gb_H T i 0) [] T.2 [] [(true, 0, [], [sx_I], ([], []), [], [])]
def gb_kA (i : Nat) : Bool := sx_sg [] [] gb_M false 3000 210 0 (sx_lo (ik_ml 210) [sx_va [66], sx_ri i i]) (gb_H rc_TA i 1) ((gb_ra i).map fun p => p.1) rc_TA.2 [] [(true, 0, [], [sx_I], rc_TA.1, rc_TA.2, gb_ra i)]
def gb_kB (i : Nat) : Bool := sx_sg [] [] gb_M false 3000 210 0 (sx_lo (ik_ml 210) [sx_va [66], sx_ri i i]) (gb_H rc_TB i 1) [] rc_TB.2 [] [(true, 0, [], [sx_I], rc_TB.1, rc_TB.2, [])]
theorem gb_k0a : ((List.range 2).all fun i => gb_k0 rc_TA i && gb_k0 rc_TB i) = true := by decide +kernel
theorem gb_kA0 : gb_kA 0 = true := by decide +kernel
theorem gb_kA1 : gb_kA 1 = true := by decide +kernel
theorem gb_kBa : (List.range 2).all gb_kB = true := by decide +kernel
/-- an image that was kept -/
def gb_I (i p : Nat) : sx_D := [qf_lo qf_pl p] :: (qf_I i p).drop 2
theorem gb_t : (sx_mle gb_M rc_N && (List.range 11).all (fun p => (List.range 2).all fun i => sx_dut gb_M (qf_I i p) && sx_dj gb_M [] (gb_rl i p) (gb_I i p) (qf_F p))) = true := by decide +kernel
theorem gb_lo : sx_sg [] [] [] false 200 210 0 (sx_lo (ik_ml 210) [sx_va [66], sx_ri (-2147483648) (-1)]) (rf_H rc_f) [] [] [] [(true, 0, [], [sx_I], ([], []), [], [])] = true := by decide +kernel
theorem gb_hi : sx_sg [] [] [] false 200 210 0 (sx_lo (ik_ml 210) [sx_va [66], sx_ri 2 2147483647]) (rf_H rc_f) [] [] [] [(true, 0, [], [sx_I], ([], []), [], [])] = true := by decide +kernel
theorem gb_c : sx_hg rc_TA.1 93 = some (some (.inr (.inl (3, [sx_ri 0 1, sx_ri 0 1])))) ∧ sx_hg rc_TB.1 93 = some (some (.inr (.inl (3, [sx_ri 0 1, sx_ri 0 1])))) := ⟨rfl, rfl⟩
/-- an image is kept, or it isn't -/
theorem gb_fix {T : sx_T} (hT : sx_hg T.1 93 = some (some (.inr (.inl (3, [sx_ri 0 1, sx_ri 0 1]))))) {h : List ik_E} (hh : sx_hr [] T.1 h) {i : Nat} (hi : i < 2) : (sx_hr [] (gb_H T i 0) h) ∨ (sx_hr [] (gb_H T i 1) h ∧ sx_lk [] [] h (1, 93, i) = some 1) := by
  obtain ⟨d, hd, vs, e1, e2⟩ := hh.2 93 _ hT
  subst e1
  have hget : ([sx_ri 0 1, sx_ri 0 1] : List sx_V)[i]? = some (sx_ri 0 1) := by
    have : i = 0 ∨ i = 1 := by omega
    rcases this with rfl | rfl <;> rfl
  obtain ⟨v, hv, x, rfl, x1, x2⟩ := sx_sr_get0 e2 hget
  have hs := sx_hr_see (a := 93) (c := .inr (.inl (3, sx_set ([sx_ri 0 1, sx_ri 0 1] : List sx_V) (sx_ri x.toInt x.toInt) i))) hh hd ⟨vs, rfl, sx_sr_see e2 hv ⟨x, rfl, Int.le_refl _, Int.le_refl _⟩⟩
  rw [sx_set_eq] at hs
  have hx : x.toInt = 0 ∨ x.toInt = 1 := by omega
  rcases hx with hx | hx
  · rw [hx] at hs
    exact Or.inl hs
  · rw [hx] at hs
    refine Or.inr ⟨hs, ?_⟩
    simp only [sx_lk, hd, sx_pt, hv, sx_iv, hx]
theorem gb_not {T : sx_T} {h : List ik_E} (hI : rc_RI h) (hx : sx_cx [] [] h T.2) (ho : T.2.all sx_ho = true) {i : Nat} (hck : gb_k0 T i = true) {as : List Value} (has : sx_sr [] [sx_va [66], sx_ri i i] as) (hh : sx_hr [] (gb_H T i 0) h) : ik_W none 210 0 (ik_loc (ik_ml 210) as) [] h 0 0 (pr_P rc_N 210 (fun _ _ => True) h) := by
  refine sx_seg (Q := qq) sx_h0 hck (sx_lo_ok has) hh (sx_cx_ho hx ho) (fun u => nomatch u) ?_ ?_
  · intro O hO hb pc' loc' st' h' hur
    rw [List.mem_singleton] at hO
    subst hO
    obtain ⟨u1, u2, u3, ir, rv, u4, u5, u6, u7, u8⟩ := hur
    obtain ⟨v, rfl, _⟩ := sx_sr1 u6
    exact ⟨ir, v, u4, u5, trivial, rc_none hI u1, sx_fm_trans rc_m0 (sx_fm_refl _ _) u1, rfl, rfl⟩
  · intro O hO hb
    rw [List.mem_singleton] at hO
    subst hO
    cases hb
theorem pr_goBack {h : List ik_E} (hI : rc_RI h) {as : List Value} (has : sx_sr [] [sx_va [66], sx_I] as) : ik_W none 210 0 (ik_loc (ik_ml 210) as) [] h 0 0 (pr_P rc_N 210 (fun _ _ => True) h) := by
  match as, has with
  | [v0, _], ⟨h0, ⟨x, rfl, x1, x2⟩, _⟩ =>
    by_cases hx : x.toInt < 0
    · exact pr_refuse (A := fun _ => True) gb_lo hI (as := [v0, .int x]) ⟨h0, ⟨x, rfl, x1, by omega⟩, trivial⟩ (fun rv hrv => by obtain ⟨v, e, _⟩ := sx_sr1 hrv; exact ⟨v, e, trivial⟩)
    · by_cases hx2 : 2 ≤ x.toInt
      · exact pr_refuse (A := fun _ => True) gb_hi hI (as := [v0, .int x]) ⟨h0, ⟨x, rfl, hx2, x2⟩, trivial⟩ (fun rv hrv => by obtain ⟨v, e, _⟩ := sx_sr1 hrv; exact ⟨v, e, trivial⟩)
      · obtain ⟨i, hi⟩ : ∃ i : Nat, x.toInt = (i : Int) := ⟨x.toInt.toNat, by omega⟩
        have hi2 : i < 2 := by omega
        have hsr : sx_sr [] [sx_va [66], sx_ri i i] [v0, .int x] := ⟨h0, ⟨x, rfl, by omega, by omega⟩, trivial⟩
        obtain ⟨k1, k2⟩ := Bool.and_eq_true_iff.mp (List.all_eq_true.mp gb_k0a i (List.mem_range.mpr hi2))
        obtain ⟨t1, t2⟩ := Bool.and_eq_true_iff.mp gb_t
        rcases hI.1 with q | q
        · rcases gb_fix gb_c.1 q.1 hi2 with hh | ⟨hh, hk⟩
          · exact gb_not hI q.2 rc_hoA k1 hsr hh
          · have hck : gb_kA i = true := by
              have : i = 0 ∨ i = 1 := by omega
              rcases this with rfl | rfl
              · exact gb_kA0
              · exact gb_kA1
            refine sx_seg (Q := qq) sx_h0 hck (sx_lo_ok hsr) hh (sx_cx_ho q.2 rc_hoA) (fun u => nomatch u) ?_ ?_
            · intro O hO hb pc' loc' st' h' hur
              rw [List.mem_singleton] at hO
              subst hO
              obtain ⟨u1, u2, u3, ir, rv, u4, u5, u6, u7, u8⟩ := hur
              obtain ⟨v, rfl, _⟩ := sx_sr1 u6
              refine ⟨ir, v, u4, u5, trivial, ⟨Or.inl ⟨u3, sx_cx_oh (loc := loc') (st := [.int v]) u7 rc_hoA⟩, ?_, ?_⟩, sx_fm_trans (sx_mle_ok t1) (sx_fm_refl _ _) u1, rfl, rfl⟩
              · intro p hp
                have t3 := (Bool.and_eq_true_iff.mp (List.all_eq_true.mp (List.all_eq_true.mp t2 p (List.mem_range.mpr hp)) i (List.mem_range.mpr hi2))).2
                have hd : sx_dh h (gb_I i p) := by
                  obtain ⟨r, hr, hrx⟩ := hI.2.2 i hi2 p hp
                  rcases List.mem_cons.mp hr with rfl | hr
                  · exact ⟨_, List.mem_cons_self, hrx⟩
                  · rcases List.mem_cons.mp hr with rfl | hr
                    · obtain ⟨y, y1, y2⟩ := hrx _ (List.mem_singleton.mpr rfl)
                      simp only [sx_xc, sx_xk, hk, Option.some.injEq] at y1
                      omega
                    · exact ⟨r, List.mem_cons_of_mem _ hr, hrx⟩
                exact sx_dj_ok (xs := []) (rl := gb_rl i p) (loc := ik_loc (ik_ml 210) [v0, .int x]) (loc' := loc') (st' := [.int v]) u1 sx_cx_nil (fun z hz => u8 z (List.mem_flatMap.mpr ⟨p, List.mem_range.mpr hp, hz⟩)) hd t3
              · intro i' hi' p hp
                have t3 := (Bool.and_eq_true_iff.mp (List.all_eq_true.mp (List.all_eq_true.mp t2 p (List.mem_range.mpr hp)) i' (List.mem_range.mpr hi'))).1
                exact sx_dut_ok u1 (hI.2.2 i' hi' p hp) t3
            · intro O hO hb
              rw [List.mem_singleton] at hO
              subst hO
              cases hb
        · rcases gb_fix gb_c.2 q.1 hi2 with hh | ⟨hh, hk⟩
          · exact gb_not (T := rc_TB) hI sx_cx_nil rfl k2 hsr hh
          · have hck := List.all_eq_true.mp gb_kBa i (List.mem_range.mpr hi2)
            refine sx_seg (Q := qq) sx_h0 hck (sx_lo_ok hsr) hh (fun x hx => (nomatch hx)) (fun u => nomatch u) ?_ ?_
            · intro O hO hb pc' loc' st' h' hur
              rw [List.mem_singleton] at hO
              subst hO
              obtain ⟨u1, u2, u3, ir, rv, u4, u5, u6, u7, u8⟩ := hur
              obtain ⟨v, rfl, _⟩ := sx_sr1 u6
              exact ⟨ir, v, u4, u5, trivial, ⟨Or.inr ⟨u3, fun y hy => (nomatch hy)⟩, qq_B u3⟩, sx_fm_trans (sx_mle_ok t1) (sx_fm_refl _ _) u1, rfl, rfl⟩
            · intro O hO hb
              rw [List.mem_singleton] at hO
              subst hO
              cases hb
end
