noncomputable section
/-! the class from call to call (written by wip/sx/pub4.py) -/
def sd_0 : sx_C := .inl (9, [sx_va [1], sx_va [7], sx_va [14], sx_va [17], sx_va [45], sx_va [51], sx_va [54], sx_va [57]])
def sd_1 : sx_C := .inl (6, [sx_va [2], sx_ri 0 500, sx_ri 0 500, sx_ri (-2147483648) 2147483647, sx_ri (-2147483648) 2147483647, sx_ri 0 12, sx_va [3], sx_va [4], sx_va [5], sx_va [6]])
def sd_2 : sx_C := .inr (.inr (2, 500, (-128), 127))
def sd_3 : sx_C := .inr (.inr (0, 12, 0, 4))
def sd_4 : sx_C := .inr (.inr (0, 48, 0, 11))
def sd_5 : sx_C := .inr (.inr (0, 48, (-2147483648), 2147483647))
def sd_6 : sx_C := .inl (0, [sx_ri 1 12, sx_ri (-2147483648) 2147483647, sx_ri (-2147483648) 2147483647, sx_va [8], sx_va [9], sx_va [10], sx_va [11], sx_va [12], sx_va [13]])
def sd_7 : sx_C := .inr (.inr (0, 60, 0, 11))
def sd_8 : sx_C := .inr (.inr (0, 60, (-2147483648), 2147483647))
def sd_9 : sx_C := .inr (.inr (0, 12, 0, 60))
def sd_10 : sx_C := .inl (1, [sx_va [7], sx_va [15], sx_va [16], sx_ri (-2147483648) 2147483647, sx_rl (-9223372036854775808) 9223372036854775807])
def sd_11 : sx_C := .inr (.inl (0, [sx_ri 0 2, sx_ri 0 11, sx_ri 0 30, sx_ri 0 2, sx_ri 0 11, sx_ri 0 30]))
def sd_12 : sx_C := .inr (.inl (0, [sx_ri (-1) 11, sx_ri (-1) 11]))
def sd_13 : sx_C := .inl (8, [sx_va [7], sx_va [15], sx_va [18], sx_va [19], sx_rl (-9223372036854775808) 9223372036854775807, sx_va [20]])
def sd_14 : sx_C := .inr (.inl (6, [sx_va [21], sx_va [25], sx_va [29], sx_va [33], sx_va [37], sx_va [41]]))
def sd_15 : sx_C := .inr (.inl (1, [sx_rl (-9223372036854775808) 9223372036854775807, sx_rl (-9223372036854775808) 9223372036854775807]))
def sd_16 : sx_C := .inr (.inl (0, [sx_ri (-2147483648) 2147483647, sx_ri (-2147483648) 2147483647, sx_ri (-2147483648) 2147483647, sx_ri (-2147483648) 2147483647]))
def sd_17 : sx_C := .inl (2, [sx_va [7], sx_ri (-2147483648) 2147483647, sx_ri 0 200, sx_va [22], sx_va [23, 24, 27, 28, 31, 32, 35, 36, 39, 40, 43, 44], sx_va [23, 24, 27, 28, 31, 32, 35, 36, 39, 40, 43, 44]])
def sd_18 : sx_C := .inr (.inr (0, 201, (-2147483648), 2147483647))
def sd_19 : sx_C := .inr (.inr (1, 12, (-9223372036854775808), 9223372036854775807))
def sd_20 : sx_C := .inl (2, [sx_va [7], sx_ri (-2147483648) 2147483647, sx_ri 0 200, sx_va [26], sx_va [23, 24, 27, 28, 31, 32, 35, 36, 39, 40, 43, 44], sx_va [23, 24, 27, 28, 31, 32, 35, 36, 39, 40, 43, 44]])
def sd_21 : sx_C := .inl (2, [sx_va [7], sx_ri (-2147483648) 2147483647, sx_ri 0 200, sx_va [30], sx_va [23, 24, 27, 28, 31, 32, 35, 36, 39, 40, 43, 44], sx_va [23, 24, 27, 28, 31, 32, 35, 36, 39, 40, 43, 44]])
def sd_22 : sx_C := .inl (2, [sx_va [7], sx_ri (-2147483648) 2147483647, sx_ri 0 200, sx_va [34], sx_va [23, 24, 27, 28, 31, 32, 35, 36, 39, 40, 43, 44], sx_va [23, 24, 27, 28, 31, 32, 35, 36, 39, 40, 43, 44]])
def sd_23 : sx_C := .inl (2, [sx_va [7], sx_ri (-2147483648) 2147483647, sx_ri 0 200, sx_va [38], sx_va [23, 24, 27, 28, 31, 32, 35, 36, 39, 40, 43, 44], sx_va [23, 24, 27, 28, 31, 32, 35, 36, 39, 40, 43, 44]])
def sd_24 : sx_C := .inl (2, [sx_va [7], sx_ri (-2147483648) 2147483647, sx_ri 0 200, sx_va [42], sx_va [23, 24, 27, 28, 31, 32, 35, 36, 39, 40, 43, 44], sx_va [23, 24, 27, 28, 31, 32, 35, 36, 39, 40, 43, 44]])
def sd_25 : sx_C := .inl (5, [sx_va [46], sx_va [47], sx_va [48], sx_va [49], sx_va [50]])
def sd_26 : sx_C := .inr (.inr (0, 9, (-2147483648), 2147483647))
def sd_27 : sx_C := .inr (.inr (1, 6, (-9223372036854775808), 9223372036854775807))
def sd_28 : sx_C := .inl (7, [sx_va [7], sx_ri 0 12, sx_va [52], sx_va [53]])
def sd_29 : sx_C := .inr (.inr (0, 12, 0, 11))
def sd_30 : sx_C := .inr (.inr (0, 12, 0, 200))
def sd_31 : sx_C := .inl (4, [sx_va [55], sx_va [56]])
def sd_32 : sx_C := .inr (.inr (0, 80, 0, 12))
def sd_33 : sx_C := .inr (.inl (0, [sx_ri 0 40, sx_ri 0 40]))
def sd_34 : sx_C := .inr (.inl (7, [sx_va [58], sx_va [62]]))
def sd_35 : sx_C := .inl (3, [sx_ri 0 1, sx_va [59], sx_va [60], sx_ri (-2147483648) 2147483647, sx_rl (-9223372036854775808) 9223372036854775807, sx_ri (-2147483648) 2147483647, sx_va [61]])
def sd_36 : sx_C := .inl (3, [sx_ri 0 1, sx_va [63], sx_va [64], sx_ri (-2147483648) 2147483647, sx_rl (-9223372036854775808) 9223372036854775807, sx_ri (-2147483648) 2147483647, sx_va [65]])
def sdh_0 : sx_H := ([some sd_0, some sd_1, some sd_2, some sd_3, some sd_4, some sd_5, some sd_5, some sd_6, some sd_3, some sd_4, some sd_5, some sd_7, some sd_8, some sd_9, some sd_10, some sd_11, some sd_12, some sd_13, some sd_14, some sd_15, some sd_16, some sd_17, some sd_18, some sd_19, some sd_19, some sd_20, some sd_18, some sd_19, some sd_19, some sd_21, some sd_18, some sd_19, some sd_19, some sd_22, some sd_18, some sd_19, some sd_19, some sd_23, some sd_18, some sd_19, some sd_19, some sd_24, some sd_18, some sd_19, some sd_19, some sd_25, some sd_26, some sd_19, some sd_27, some sd_15, some sd_15, some sd_28, some sd_29, some sd_30, some sd_31, some sd_32, some sd_33, some sd_34, some sd_35, some sd_11, some sd_12, some sd_5, some sd_36, some sd_11, some sd_12, some sd_5], [])
def sd_37 : sx_C := .inl (0, [sx_ri 0 0, sx_ri (-2147483648) 2147483647, sx_ri (-2147483648) 2147483647, sx_va [8], sx_va [9], sx_va [10], sx_va [11], sx_va [12], sx_va [13]])
def sd_38 : sx_C := .inl (7, [sx_va [7], sx_ri 0 0, sx_va [52], sx_va [53]])
def sdh_1 : sx_H := ([some sd_0, some sd_1, some sd_2, some sd_3, some sd_4, some sd_5, some sd_5, some sd_37, some sd_3, some sd_4, some sd_5, some sd_7, some sd_8, some sd_9, some sd_10, some sd_11, some sd_12, some sd_13, some sd_14, some sd_15, some sd_16, some sd_17, some sd_18, some sd_19, some sd_19, some sd_20, some sd_18, some sd_19, some sd_19, some sd_21, some sd_18, some sd_19, some sd_19, some sd_22, some sd_18, some sd_19, some sd_19, some sd_23, some sd_18, some sd_19, some sd_19, some sd_24, some sd_18, some sd_19, some sd_19, some sd_25, some sd_26, some sd_19, some sd_27, some sd_15, some sd_15, some sd_38, some sd_29, some sd_30, some sd_31, some sd_32, some sd_33, some sd_34, some sd_35, some sd_11, some sd_12, some sd_5, some sd_36, some sd_11, some sd_12, some sd_5], [])
def cc_TA : sx_T := (sdh_0, [])
def cc_TB : sx_T := (sdh_1, [])
def cc_MC : sx_M := (List.range 66).map fun k => (k, [9999])
def cc_CI (h : List ik_E) : Prop := sx_iv' cc_TA h ∨ sx_iv' cc_TB h
def pc_P (q : Nat) (A : Int32 → Prop) (h : List ik_E) (z : ik_St) : Prop := ∃ ir v, ik_at q z.1 = some ir ∧ ik_rv (ik_rt q) ir z.2.2.1 = some [.int v] ∧ A v ∧ cc_CI z.2.2.2.1 ∧ sx_fm cc_MC h z.2.2.2.1 ∧ z.2.2.2.2.1 = 0 ∧ z.2.2.2.2.2 = 0
/-- an int -/
def sx_pi1 (vs : List sx_V) : Bool := match vs with
  | [.inr (.inr (.inr (.inr (.inl _))))] => true
  | _ => false
theorem sx_pi1_ok {vs : List sx_V} {rv : List Value} (hp : sx_pi1 vs = true) (h : sx_sr [] vs rv) : ∃ v, rv = [.int v] := by
  unfold sx_pi1 at hp
  split at hp
  · match rv, h with
    | [_], ⟨⟨x, rfl, _⟩, _⟩ => exact ⟨x, rfl⟩
  · cases hp
def cc_pk (C : sx_K) (T : sx_T) : Bool := sx_lh 0 ((0, []), []) T.1 C.2.1.2.1 && C.2.1.2.2.isEmpty && C.2.2.2.1.all (fun P => sx_pi1 P.1 && (sx_tk T cc_TA C.2.2.1 P.2.1 P.2.2 || sx_tk T cc_TB C.2.2.1 P.2.1 P.2.2)) && sx_mle C.2.2.1 cc_MC && !C.2.2.2.2
theorem pc_of2 {C : sx_K} (hC : ∀ Q, sx_hd Q C) {T : sx_T} (hk : cc_pk C T = true) {h : List ik_E} (hT : sx_iv' T h) {as : List Value} (has : sx_sr [] C.2.1.1 as) {A : Int32 → Prop} (hA : ∀ P, P ∈ C.2.2.2.1 → ∀ v h', sx_sr [] P.1 [.int v] → sx_cx (ik_loc (ik_ml C.1) as) [.int v] h' P.2.2 → A v) : ik_W none C.1 0 (ik_loc (ik_ml C.1) as) [] h 0 0 (pc_P C.1 A h) := by
  unfold cc_pk at hk
  obtain ⟨hk, k5⟩ := Bool.and_eq_true_iff.mp hk
  obtain ⟨hk, k4⟩ := Bool.and_eq_true_iff.mp hk
  obtain ⟨hk, k3⟩ := Bool.and_eq_true_iff.mp hk
  obtain ⟨k1, k2⟩ := Bool.and_eq_true_iff.mp hk
  refine sx_W_mono ((hC (fun _ => True)).2 as h has (sx_lh0 hT.1 k1) ?_ (fun _ => trivial)) ?_
  · intro x hx
    rw [List.isEmpty_iff.mp k2] at hx
    cases hx
  · rintro z ⟨ir, rv, P, hP, z1, z2, z3, z4, z5, z6, z7, z8⟩
    obtain ⟨p1, p2⟩ := Bool.and_eq_true_iff.mp (List.all_eq_true.mp k3 P hP)
    obtain ⟨v, rfl⟩ := sx_pi1_ok p1 z3
    refine ⟨ir, v, z1, z2, hA P hP v _ z3 z6, ?_, sx_fm_trans (sx_mle_ok k4) (sx_fm_refl _ _) z5, z7, z8⟩
    rcases Bool.or_eq_true_iff.mp p2 with p2 | p2
    · exact Or.inl (sx_tk_ok hT z5 z4 z6 p2)
    · exact Or.inr (sx_tk_ok hT z5 z4 z6 p2)
theorem pc_of {C : sx_K} (hC : ∀ Q, sx_hd Q C) {T : sx_T} (hk : cc_pk C T = true) {h : List ik_E} (hT : sx_iv' T h) {as : List Value} (has : sx_sr [] C.2.1.1 as) : ik_W none C.1 0 (ik_loc (ik_ml C.1) as) [] h 0 0 (pc_P C.1 (fun _ => True) h) := pc_of2 hC hk hT has (fun _ _ _ _ _ _ => trivial)
def rc_pk (C : sx_K) (T : sx_T) : Bool := sx_lh 0 ((0, []), []) T.1 C.2.1.2.1 && C.2.1.2.2.all (fun x => sx_ho x && T.2.contains x) && C.2.2.2.1.all (fun P => sx_pi1 P.1 && sx_tk T T C.2.2.1 P.2.1 P.2.2) && sx_mle C.2.2.1 rc_MR && qq_ut C.2.2.1
theorem pr_of {C : sx_K} (hC : sx_hd qq C) {T : sx_T} (hinj : ∀ {h' : List ik_E}, sx_iv' T h' → sx_iv' rc_TA h' ∨ sx_iv' rc_TB h') (hk : rc_pk C T = true) {h : List ik_E} (hT : sx_iv' T h) (hq : qq h) {as : List Value} (has : sx_sr [] C.2.1.1 as) : ik_W none C.1 0 (ik_loc (ik_ml C.1) as) [] h 0 0 (pr_P C.1 (fun _ => True) h) := by
  unfold rc_pk at hk
  obtain ⟨hk, k5⟩ := Bool.and_eq_true_iff.mp hk
  obtain ⟨hk, k4⟩ := Bool.and_eq_true_iff.mp hk
  obtain ⟨hk, k3⟩ := Bool.and_eq_true_iff.mp hk
  obtain ⟨k1, k2⟩ := Bool.and_eq_true_iff.mp hk
  refine sx_W_mono (hC.2 as h has (sx_lh0 hT.1 k1) ?_ (fun _ => hq)) ?_
  · intro x hx
    obtain ⟨e1, e2⟩ := Bool.and_eq_true_iff.mp (List.all_eq_true.mp k2 x hx)
    obtain ⟨y, y1, y2⟩ := hT.2 x (List.contains_iff_mem.mp e2)
    exact ⟨y, by rw [sx_xc_ho e1]; exact y1, y2⟩
  · rintro z ⟨ir, rv, P, hP, z1, z2, z3, z4, z5, z6, z7, z8⟩
    obtain ⟨p1, p2⟩ := Bool.and_eq_true_iff.mp (List.all_eq_true.mp k3 P hP)
    obtain ⟨v, rfl⟩ := sx_pi1_ok p1 z3
    exact ⟨ir, v, z1, z2, trivial, ⟨hinj (sx_tk_ok hT z5 z4 z6 p2), qq_fr k5 z5 hq⟩, sx_fm_trans (sx_mle_ok k4) (sx_fm_refl _ _) z5, z7, z8⟩
/-- keep of the class -/
def ck_M : sx_M := [(58, [9999]), (59, [9999]), (60, [9999]), (61, [9999]), (62, [9999]), (63, [9999]), (64, [9999]), (65, [9999])]
def ck_k (T : sx_T) (lo hi r : Int) : Bool := sx_sg [] [(119, 16)] ck_M false 2000 119 0 (sx_lo (ik_ml 119) [sx_va [0], sx_ri lo hi]) T.1 [] [] [] [(true, 0, [], [sx_ri r r], T.1, [], [])]
theorem ck_a : (ck_k cc_TA (-2147483648) (-1) (-1000000001) && ck_k cc_TA 0 1 1 && ck_k cc_TA 2 2147483647 (-1000000001) && sx_tk cc_TA cc_TA ck_M cc_TA.1 []) = true := by decide +kernel
theorem ck_b : (ck_k cc_TB (-2147483648) (-1) (-1000000001) && ck_k cc_TB 0 1 1 && ck_k cc_TB 2 2147483647 (-1000000001) && sx_tk cc_TB cc_TB ck_M cc_TB.1 []) = true := by decide +kernel
theorem ck_m : ∀ a k, sx_md ck_M a k = true → sx_md cc_MC a k = true := sx_mle_ok (by decide +kernel)
theorem ck_seg {T : sx_T} (hinj : ∀ {h' : List ik_E}, sx_iv' T h' → cc_CI h') {lo hi r : Int} (hck : ck_k T lo hi r = true) (ht : sx_tk T T ck_M T.1 [] = true) {h : List ik_E} (hT : sx_iv' T h) {x : Int32} (x1 : lo ≤ x.toInt) (x2 : x.toInt ≤ hi) {A : Int32 → Prop} (hA : ∀ v : Int32, v.toInt = r → A v) : ik_W none 119 0 (ik_loc (ik_ml 119) [.ref 0, .int x]) [] h 0 0 (pc_P 119 A h) := by
  have hsr : sx_sr [] [sx_va [0], sx_ri lo hi] [.ref 0, .int x] := ⟨⟨0, List.mem_singleton.mpr rfl, rfl⟩, ⟨x, rfl, x1, x2⟩, trivial⟩
  refine sx_seg (Q := fun _ => True) sx_h0 hck (sx_lo_ok hsr) hT.1 sx_cx_nil (fun u => nomatch u) ?_ ?_
  · intro O hO hb pc' loc' st' h' hur
    rw [List.mem_singleton] at hO
    subst hO
    obtain ⟨u1, u2, u3, ir, rv, u4, u5, u6, u7, u8⟩ := hur
    obtain ⟨v, rfl, v1, v2⟩ := sx_sr1 u6
    exact ⟨ir, v, u4, u5, hA v (by omega), hinj (sx_tk_ok (xs := []) (loc := []) (st := []) hT u1 u3 sx_cx_nil ht), sx_fm_trans ck_m (sx_fm_refl _ _) u1, rfl, rfl⟩
  · intro O hO hb
    rw [List.mem_singleton] at hO
    subst hO
    cases hb
theorem pc_keep {h : List ik_E} (hC : cc_CI h) {x : Int32} : ik_W none 119 0 (ik_loc (ik_ml 119) [.ref 0, .int x]) [] h 0 0 (pc_P 119 (kp_A x) h) := by
  have hx := sx_i32 x
  have ka := ck_a
  have kb := ck_b
  simp only [Bool.and_eq_true] at ka kb
  by_cases hx0 : x.toInt < 0
  · have hA : ∀ v : Int32, v.toInt = -1000000001 → kp_A x v := by
      intro v hv
      unfold kp_A
      rw [if_neg (by omega)]
      exact hv
    rcases hC with q | q
    · exact ck_seg (fun r => Or.inl r) ka.1.1.1 ka.2 q hx.1 (by omega) hA
    · exact ck_seg (fun r => Or.inr r) kb.1.1.1 kb.2 q hx.1 (by omega) hA
  · by_cases hx1 : 2 ≤ x.toInt
    · have hA : ∀ v : Int32, v.toInt = -1000000001 → kp_A x v := by
        intro v hv
        unfold kp_A
        rw [if_neg (by omega)]
        exact hv
      rcases hC with q | q
      · exact ck_seg (fun r => Or.inl r) ka.1.2 ka.2 q hx1 hx.2 hA
      · exact ck_seg (fun r => Or.inr r) kb.1.2 kb.2 q hx1 hx.2 hA
    · have hA : ∀ v : Int32, v.toInt = 1 → kp_A x v := by
        intro v hv
        unfold kp_A
        rw [if_pos (by omega)]
        exact hv
      rcases hC with q | q
      · exact ck_seg (fun r => Or.inl r) ka.1.1.2 ka.2 q (by omega) (by omega) hA
      · exact ck_seg (fun r => Or.inr r) kb.1.1.2 kb.2 q (by omega) (by omega) hA
end
