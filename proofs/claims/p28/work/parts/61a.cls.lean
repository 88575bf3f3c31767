noncomputable section
/-! the class from call to call (written by wip/sx/pub4.py) -/
def sd_0 : sx_C := .inl (9, [sx_va [1], sx_va [7], sx_va [14], sx_va [17], sx_va [45], sx_va [51], sx_va [54], sx_va [57]])
def sd_1 : sx_C := .inl (6, [sx_va [2], sx_ri 0 500, sx_ri 0 500, sx_ri (-2147483648) 2147483647, sx_ri (-2147483648) 2147483647, sx_ri 0 12, sx_va [3], sx_va [4], sx_va [5], sx_va [6]])
def sd_2 : sx_C := .inr (.inr (2, 500, (-128), 127))
def sd_3 : sx_C := .inr (.inr (0, 12, 0, 4))
def sd_4 : sx_C := .inr (.inr (0, 48, 0, 11))
def sd_5 : sx_C := .inr (.inr (0, 48, (-2147483648), 2147483647))
def sd_6 : sx_C := .inl (0, [sx_ri 1 12, sx_ri (-2147483648) 2147483647, sx_ri (-2147483648) 2147483647, sx_va [8], sx_va [9], sx_va [10], sx_va [11], sx_va [12], sx_va [13]])
def sd_7 : sx_C := .inr (.inr (0, 60, 0, 11))
def sd_8 : sx_C := .inr (.inr (0, 60, (-2147483648), 2147483647))
def sd_9 : sx_C := .inr (.inr (0, 12, 0, 60))
def sd_10 : sx_C := .inl (1, [sx_va [7], sx_va [15], sx_va [16], sx_ri (-2147483648) 2147483647, sx_rl (-9223372036854775808) 9223372036854775807])
def sd_11 : sx_C := .inr (.inl (0, [sx_ri 0 2, sx_ri 0 11, sx_ri 0 30, sx_ri 0 2, sx_ri 0 11, sx_ri 0 30]))
def sd_12 : sx_C := .inr (.inl (0, [sx_ri (-1) 11, sx_ri (-1) 11]))
def sd_13 : sx_C := .inl (8, [sx_va [7], sx_va [15], sx_va [18], sx_va [19], sx_rl (-9223372036854775808) 9223372036854775807, sx_va [20]])
def sd_14 : sx_C := .inr (.inl (6, [sx_va [21], sx_va [25], sx_va [29], sx_va [33], sx_va [37], sx_va [41]]))
def sd_15 : sx_C := .inr (.inl (1, [sx_rl (-9223372036854775808) 9223372036854775807, sx_rl (-9223372036854775808) 9223372036854775807]))
def sd_16 : sx_C := .inr (.inl (0, [sx_ri (-2147483648) 2147483647, sx_ri (-2147483648) 2147483647, sx_ri (-2147483648) 2147483647, sx_ri (-2147483648) 2147483647]))
def sd_17 : sx_C := .inl (2, [sx_va [7], sx_ri (-2147483648) 2147483647, sx_ri 0 200, sx_va [22], sx_va [23, 24, 27, 28, 31, 32, 35, 36, 39, 40, 43, 44], sx_va [23, 24, 27, 28, 31, 32, 35, 36, 39, 40, 43, 44]])
def sd_18 : sx_C := .inr (.inr (0, 201, (-2147483648), 2147483647))
def sd_19 : sx_C := .inr (.inr (1, 12, (-9223372036854775808), 9223372036854775807))
def sd_20 : sx_C := .inl (2, [sx_va [7], sx_ri (-2147483648) 2147483647, sx_ri 0 200, sx_va [26], sx_va [23, 24, 27, 28, 31, 32, 35, 36, 39, 40, 43, 44], sx_va [23, 24, 27, 28, 31, 32, 35, 36, 39, 40, 43, 44]])
def sd_21 : sx_C := .inl (2, [sx_va [7], sx_ri (-2147483648) 2147483647, sx_ri 0 200, sx_va [30], sx_va [23, 24, 27, 28, 31, 32, 35, 36, 39, 40, 43, 44], sx_va [23, 24, 27, 28, 31, 32, 35, 36, 39, 40, 43, 44]])
def sd_22 : sx_C := .inl (2, [sx_va [7], sx_ri (-2147483648) 2147483647, sx_ri 0 200, sx_va [34], sx_va [23, 24, 27, 28, 31, 32, 35, 36, 39, 40, 43, 44], sx_va [23, 24, 27, 28, 31, 32, 35, 36, 39, 40, 43, 44]])
def sd_23 : sx_C := .inl (2, [sx_va [7], sx_ri (-2147483648) 2147483647, sx_ri 0 200, sx_va [38], sx_va [23, 24, 27, 28, 31, 32, 35, 36, 39, 40, 43, 44], sx_va [23, 24, 27, 28, 31, 32, 35, 36, 39, 40, 43, 44]])
def sd_24 : sx_C := .inl (2, [sx_va [7], sx_ri (-2147483648) 2147483647, sx_ri 0 200, sx_va [42], sx_va [23, 24, 27, 28, 31, 32, 35, 36, 39, 40, 43, 44], sx_va [23, 24, 27, 28, 31, 32, 35, 36, 39, 40, 43, 44]])
def sd_25 : sx_C := .inl (5, [sx_va [46], sx_va [47], sx_va [48], sx_va [49], sx_va [50]])
def sd_26 : sx_C := .inr (.inr (0, 9, (-2147483648), 2147483647))
def sd_27 : sx_C := .inr (.inr (1, 6, (-9223372036854775808), 9223372036854775807))
def sd_28 : sx_C := .inl (7, [sx_va [7], sx_ri 0 12, sx_va [52], sx_va [53]])
def sd_29 : sx_C := .inr (.inr (0, 12, 0, 11))
def sd_30 : sx_C := .inr (.inr (0, 12, 0, 200))
def sd_31 : sx_C := .inl (4, [sx_va [55], sx_va [56]])
def sd_32 : sx_C := .inr (.inr (0, 80, 0, 12))
def sd_33 : sx_C := .inr (.inl (0, [sx_ri 0 40, sx_ri 0 40]))
def sd_34 : sx_C := .inr (.inl (7, [sx_va [58], sx_va [62]]))
def sd_35 : sx_C := .inl (3, [sx_ri 0 1, sx_va [59], sx_va [60], sx_ri (-2147483648) 2147483647, sx_rl (-9223372036854775808) 9223372036854775807, sx_ri (-2147483648) 2147483647, sx_va [61]])
def sd_36 : sx_C := .inl (3, [sx_ri 0 1, sx_va [63], sx_va [64], sx_ri (-2147483648) 2147483647, sx_rl (-9223372036854775808) 9223372036854775807, sx_ri (-2147483648) 2147483647, sx_va [65]])
def sdh_0 : sx_H := ([some sd_0, some sd_1, some sd_2, some sd_3, some sd_4, some sd_5, some sd_5, some sd_6, some sd_3, some sd_4, some sd_5, some sd_7, some sd_8, some sd_9, some sd_10, some sd_11, some sd_12, some sd_13, some sd_14, some sd_15, some sd_16, some sd_17, some sd_18, some sd_19, some sd_19, some sd_20, some sd_18, some sd_19, some sd_19, some sd_21, some sd_18, some sd_19, some sd_19, some sd_22, some sd_18, some sd_19, some sd_19, some sd_23, some sd_18, some sd_19, some sd_19, some sd_24, some sd_18, some sd_19, some sd_19, some sd_25, some sd_26, some sd_19, some sd_27, some sd_15, some sd_15, some sd_28, some sd_29, some sd_30, some sd_31, some sd_32, some sd_33, some sd_34, some sd_35, some sd_11, some sd_12, some sd_5, some sd_36, some sd_11, some sd_12, some sd_5], [])
def sd_37 : sx_C := .inl (0, [sx_ri 0 0, sx_ri (-2147483648) 2147483647, sx_ri (-2147483648) 2147483647, sx_va [8], sx_va [9], sx_va [10], sx_va [11], sx_va [12], sx_va [13]])
def sd_38 : sx_C := .inl (7, [sx_va [7], sx_ri 0 0, sx_va [52], sx_va [53]])
def sdh_1 : sx_H := ([some sd_0, some sd_1, some sd_2, some sd_3, some sd_4, some sd_5, some sd_5, some sd_37, some sd_3, some sd_4, some sd_5, some sd_7, some sd_8, some sd_9, some sd_10, some sd_11, some sd_12, some sd_13, some sd_14, some sd_15, some sd_16, some sd_17, some sd_18, some sd_19, some sd_19, some sd_20, some sd_18, some sd_19, some sd_19, some sd_21, some sd_18, some sd_19, some sd_19, some sd_22, some sd_18, some sd_19, some sd_19, some sd_23, some sd_18, some sd_19, some sd_19, some sd_24, some sd_18, some sd_19, some sd_19, some sd_25, some sd_26, some sd_19, some sd_27, some sd_15, some sd_15, some sd_38, some sd_29, some sd_30, some sd_31, some sd_32, some sd_33, some sd_34, some sd_35, some sd_11, some sd_12, some sd_5, some sd_36, some sd_11, some sd_12, some sd_5], [])
def sdh_2 : sx_H := ([some sd_0, some sd_1, some sd_2, some sd_3, some sd_4, some sd_5, some sd_5, some sd_6, some sd_3, some sd_4, some sd_5, some sd_7, some sd_8, some sd_9, some sd_10, some sd_11, some sd_12, none, none, none, none, none, none, none, none, none, none, none, none, none, none, none, none, none, none, none, none, none, none, none, none, none, none, none, none, none, none, none, none, none, none, some sd_28, none, none, some sd_31, none, some sd_33, some sd_34, some sd_35, none, none, none, some sd_36], [])
def sd_39 : sx_C := .inl (6, [sx_va [2], sx_ri 0 0, sx_ri 0 500, sx_ri (-2147483648) 2147483647, sx_ri (-2147483648) 2147483647, sx_ri 0 12, sx_va [3], sx_va [4], sx_va [5], sx_va [6]])
def sdh_3 : sx_H := ([some sd_0, some sd_39, some sd_2, some sd_3, some sd_4, some sd_5, some sd_5, some sd_6, some sd_3, some sd_4, some sd_5, some sd_7, some sd_8, some sd_9, some sd_10, some sd_11, some sd_12, none, none, none, none, none, none, none, none, none, none, none, none, none, none, none, none, none, none, none, none, none, none, none, none, none, none, none, none, none, none, none, none, none, none, some sd_28, none, none, some sd_31, none, some sd_33, some sd_34, some sd_35, none, none, none, some sd_36], [])
def sdh_4 : sx_H := ([some sd_0, some sd_39, some sd_2, some sd_3, some sd_4, some sd_5, some sd_5, some sd_37, some sd_3, some sd_4, some sd_5, some sd_7, some sd_8, some sd_9, some sd_10, some sd_11, some sd_12, none, none, none, none, none, none, none, none, none, none, none, none, none, none, none, none, none, none, none, none, none, none, none, none, none, none, none, none, none, none, none, none, none, none, some sd_38, none, none, some sd_31, none, some sd_33, some sd_34, some sd_35, none, none, none, some sd_36], [])
def sdh_5 : sx_H := ([some sd_0, some sd_1, some sd_2, some sd_3, some sd_4, some sd_5, some sd_5, some sd_37, some sd_3, some sd_4, some sd_5, some sd_7, some sd_8, some sd_9, some sd_10, some sd_11, some sd_12, none, none, none, none, none, none, none, none, none, none, none, none, none, none, none, none, none, none, none, none, none, none, none, none, none, none, none, none, none, none, none, none, none, none, some sd_38, none, none, some sd_31, none, some sd_33, some sd_34, some sd_35, none, none, none, some sd_36], [])
def cc_TA : sx_T := (sdh_0, [])
def cc_TB : sx_T := (sdh_1, [])
def kc_0 : sx_K := (91, ([sx_va [0]], sdh_2, []), [(1, [1, 2, 3, 4, 5]), (3, [9999]), (4, [9999]), (5, [9999]), (6, [9999]), (7, [0, 1, 2]), (8, [9999]), (9, [9999]), (10, [9999]), (11, [9999]), (12, [9999]), (13, [9999]), (14, [3]), (15, [0, 1, 2, 3, 4, 5]), (16, [0, 1]), (51, [1]), (56, [0, 1]), (58, [0]), (62, [0])], [([sx_ri (-2147483648) 2147483647], sdh_3, []), ([sx_ri 0 0], sdh_4, [])], false)
def kcn_0 : List sx_N := []
theorem kcc_0 : sx_chk [ka_10, ka_15, ka_37] [(91, 84)] 6000 kc_0 kcn_0 = true := by decide +kernel
theorem kch_0 (Q : List ik_E → Prop) : sx_hd Q kc_0 := sx_chk_ok (sx_h1 (kah_10 Q) (sx_h1 (kah_15 Q) (sx_h1 (kah_37 Q) sx_h0))) (fun u => nomatch u) kcc_0
def kc_1 : sx_K := (91, ([sx_va [0]], sdh_5, []), [(1, [1, 2, 3, 4, 5]), (3, [9999]), (4, [9999]), (5, [9999]), (6, [9999]), (7, [0, 1, 2]), (8, [9999]), (9, [9999]), (10, [9999]), (11, [9999]), (12, [9999]), (13, [9999]), (14, [3]), (15, [0, 1, 2, 3, 4, 5]), (16, [0, 1]), (51, [1]), (56, [0, 1]), (58, [0]), (62, [0])], [([sx_ri 1 12], sdh_3, []), ([sx_ri (-2147483648) 2147483647], sdh_4, [])], false)
def kcn_1 : List sx_N := []
theorem kcc_1 : sx_chk [ka_10, ka_15, ka_37] [(91, 84)] 6000 kc_1 kcn_1 = true := by decide +kernel
theorem kch_1 (Q : List ik_E → Prop) : sx_hd Q kc_1 := sx_chk_ok (sx_h1 (kah_10 Q) (sx_h1 (kah_15 Q) (sx_h1 (kah_37 Q) sx_h0))) (fun u => nomatch u) kcc_1
def cc_MC : sx_M := (List.range 66).map fun k => (k, [9999])
/-- all but what the state tells -/
def cc_N : sx_M := [(0, [9999]), (1, [0, 2, 3, 5, 6, 7, 8, 9]), (7, [1, 2, 3, 4, 5, 6, 7, 8]), (51, [0, 2, 3]), (58, [1, 2, 3, 4, 5, 6]), (62, [1, 2, 3, 4, 5, 6])] ++ ((List.range 66).filter fun k => !(Nat.ble k 2 || Nat.beq k 7 || Nat.beq k 51 || Nat.beq k 56 || Nat.beq k 58 || Nat.beq k 62)).map fun k => (k, [9999])
def cc_Nr : sx_M := (51, [9999]) :: cc_N
def cc_Nl : sx_M := (56, [9999]) :: cc_N
def cc_Nk : sx_M := (58, [9999]) :: (62, [9999]) :: cc_N
def rc_Nr : sx_M := (66, [36]) :: rc_N
def rc_Nl : sx_M := (90, [9999]) :: rc_N
def cc_CI (h : List ik_E) : Prop := sx_iv' cc_TA h ∨ sx_iv' cc_TB h
def pc_P (N : sx_M) (q : Nat) (A : Int32 → List ik_E → Prop) (h : List ik_E) (z : ik_St) : Prop := ∃ ir v, ik_at q z.1 = some ir ∧ ik_rv (ik_rt q) ir z.2.2.1 = some [.int v] ∧ A v z.2.2.2.1 ∧ cc_CI z.2.2.2.1 ∧ sx_fm N h z.2.2.2.1 ∧ z.2.2.2.2.1 = 0 ∧ z.2.2.2.2.2 = 0
/-- an int -/
def sx_pi1 (vs : List sx_V) : Bool := match vs with
  | [.inr (.inr (.inr (.inr (.inl _))))] => true
  | _ => false
theorem sx_pi1_ok {vs : List sx_V} {rv : List Value} (hp : sx_pi1 vs = true) (h : sx_sr [] vs rv) : ∃ v, rv = [.int v] := by
  unfold sx_pi1 at hp
  split at hp
  · match rv, h with
    | [_], ⟨⟨x, rfl, _⟩, _⟩ => exact ⟨x, rfl⟩
  · cases hp
def cc_pk (N : sx_M) (C : sx_K) (T : sx_T) : Bool := sx_lh 0 ((0, []), []) T.1 C.2.1.2.1 && C.2.1.2.2.isEmpty && C.2.2.2.1.all (fun P => sx_pi1 P.1 && (sx_tk T cc_TA C.2.2.1 P.2.1 P.2.2 || sx_tk T cc_TB C.2.2.1 P.2.1 P.2.2)) && sx_mle C.2.2.1 N && !C.2.2.2.2
theorem pc_of2 {N : sx_M} {C : sx_K} (hC : ∀ Q, sx_hd Q C) {T : sx_T} (hk : cc_pk N C T = true) {h : List ik_E} (hT : sx_iv' T h) {as : List Value} (has : sx_sr [] C.2.1.1 as) {A : Int32 → List ik_E → Prop} (hA : ∀ P, P ∈ C.2.2.2.1 → ∀ v h', sx_sr [] P.1 [.int v] → sx_hr [] P.2.1 h' → A v h') : ik_W none C.1 0 (ik_loc (ik_ml C.1) as) [] h 0 0 (pc_P N C.1 A h) := by
  unfold cc_pk at hk
  obtain ⟨hk, k5⟩ := Bool.and_eq_true_iff.mp hk
  obtain ⟨hk, k4⟩ := Bool.and_eq_true_iff.mp hk
  obtain ⟨hk, k3⟩ := Bool.and_eq_true_iff.mp hk
  obtain ⟨k1, k2⟩ := Bool.and_eq_true_iff.mp hk
  refine sx_W_mono ((hC (fun _ => True)).2 as h has (sx_lh0 hT.1 k1) ?_ (fun _ => trivial)) ?_
  · intro x hx
    rw [List.isEmpty_iff.mp k2] at hx
    cases hx
  · rintro z ⟨ir, rv, P, hP, z1, z2, z3, z4, z5, z6, z7, z8⟩
    obtain ⟨p1, p2⟩ := Bool.and_eq_true_iff.mp (List.all_eq_true.mp k3 P hP)
    obtain ⟨v, rfl⟩ := sx_pi1_ok p1 z3
    refine ⟨ir, v, z1, z2, hA P hP v _ z3 z4, ?_, sx_fm_trans (sx_mle_ok k4) (sx_fm_refl _ _) z5, z7, z8⟩
    rcases Bool.or_eq_true_iff.mp p2 with p2 | p2
    · exact Or.inl (sx_tk_ok hT z5 z4 z6 p2)
    · exact Or.inr (sx_tk_ok hT z5 z4 z6 p2)
theorem pc_of {N : sx_M} {C : sx_K} (hC : ∀ Q, sx_hd Q C) {T : sx_T} (hk : cc_pk N C T = true) {h : List ik_E} (hT : sx_iv' T h) {as : List Value} (has : sx_sr [] C.2.1.1 as) : ik_W none C.1 0 (ik_loc (ik_ml C.1) as) [] h 0 0 (pc_P N C.1 (fun _ _ => True) h) := pc_of2 hC hk hT has (fun _ _ _ _ _ _ => trivial)
def rc_pk (N : sx_M) (C : sx_K) (T : sx_T) : Bool := sx_lh 0 ((0, []), []) T.1 C.2.1.2.1 && C.2.1.2.2.all (fun x => sx_ho x && T.2.contains x) && C.2.2.2.1.all (fun P => sx_pi1 P.1 && sx_tk T T C.2.2.1 P.2.1 P.2.2) && sx_mle C.2.2.1 N && qq_ut C.2.2.1
theorem pr_of {N : sx_M} {C : sx_K} (hC : sx_hd qq C) {T : sx_T} (hinj : ∀ {h' : List ik_E}, sx_iv' T h' → sx_iv' rc_TA h' ∨ sx_iv' rc_TB h') (hk : rc_pk N C T = true) {h : List ik_E} (hT : sx_iv' T h) (hq : qq h) {as : List Value} (has : sx_sr [] C.2.1.1 as) : ik_W none C.1 0 (ik_loc (ik_ml C.1) as) [] h 0 0 (pr_P N C.1 (fun _ _ => True) h) := by
  unfold rc_pk at hk
  obtain ⟨hk, k5⟩ := Bool.and_eq_true_iff.mp hk
  obtain ⟨hk, k4⟩ := Bool.and_eq_true_iff.mp hk
  obtain ⟨hk, k3⟩ := Bool.and_eq_true_iff.mp hk
  obtain ⟨k1, k2⟩ := Bool.and_eq_true_iff.mp hk
  refine sx_W_mono (hC.2 as h has (sx_lh0 hT.1 k1) ?_ (fun _ => hq)) ?_
  · intro x hx
    obtain ⟨e1, e2⟩ := Bool.and_eq_true_iff.mp (List.all_eq_true.mp k2 x hx)
    obtain ⟨y, y1, y2⟩ := hT.2 x (List.contains_iff_mem.mp e2)
    exact ⟨y, by rw [sx_xc_ho e1]; exact y1, y2⟩
  · rintro z ⟨ir, rv, P, hP, z1, z2, z3, z4, z5, z6, z7, z8⟩
    obtain ⟨p1, p2⟩ := Bool.and_eq_true_iff.mp (List.all_eq_true.mp k3 P hP)
    obtain ⟨v, rfl⟩ := sx_pi1_ok p1 z3
    exact ⟨ir, v, z1, z2, trivial, ⟨hinj (sx_tk_ok hT z5 z4 z6 p2), qq_fr k5 z5 hq⟩, sx_fm_trans (sx_mle_ok k4) (sx_fm_refl _ _) z5, z7, z8⟩
/-- keep of the class -/
def ck_M : sx_M := [(58, [9999]), (59, [9999]), (60, [9999]), (61, [9999]), (62, [9999]), (63, [9999]), (64, [9999]), (65, [9999])]
def ck_k (T : sx_T) (lo hi r : Int) : Bool := sx_sg [] [(119, 16)] ck_M false 2000 119 0 (sx_lo (ik_ml 119) [sx_va [0], sx_ri lo hi]) T.1 [] [] [] [(true, 0, [], [sx_ri r r], T.1, [], [])]
theorem ck_a : (ck_k cc_TA (-2147483648) (-1) (-1000000001) && ck_k cc_TA 0 1 1 && ck_k cc_TA 2 2147483647 (-1000000001) && sx_tk cc_TA cc_TA ck_M cc_TA.1 []) = true := by decide +kernel
theorem ck_b : (ck_k cc_TB (-2147483648) (-1) (-1000000001) && ck_k cc_TB 0 1 1 && ck_k cc_TB 2 2147483647 (-1000000001) && sx_tk cc_TB cc_TB ck_M cc_TB.1 []) = true := by decide +kernel
theorem ck_m : ∀ a k, sx_md ck_M a k = true → sx_md cc_Nk a k = true := sx_mle_ok (by decide +kernel)
theorem ck_seg {T : sx_T} (hinj : ∀ {h' : List ik_E}, sx_iv' T h' → cc_CI h') {lo hi r : Int} (hck : ck_k T lo hi r = true) (ht : sx_tk T T ck_M T.1 [] = true) {h : List ik_E} (hT : sx_iv' T h) {x : Int32} (x1 : lo ≤ x.toInt) (x2 : x.toInt ≤ hi) {A : Int32 → Prop} (hA : ∀ v : Int32, v.toInt = r → A v) : ik_W none 119 0 (ik_loc (ik_ml 119) [.ref 0, .int x]) [] h 0 0 (pc_P cc_Nk 119 (fun v _ => A v) h) := by
  have hsr : sx_sr [] [sx_va [0], sx_ri lo hi] [.ref 0, .int x] := ⟨⟨0, List.mem_singleton.mpr rfl, rfl⟩, ⟨x, rfl, x1, x2⟩, trivial⟩
  refine sx_seg (Q := fun _ => True) sx_h0 hck (sx_lo_ok hsr) hT.1 sx_cx_nil (fun u => nomatch u) ?_ ?_
  · intro O hO hb pc' loc' st' h' hur
    rw [List.mem_singleton] at hO
    subst hO
    obtain ⟨u1, u2, u3, ir, rv, u4, u5, u6, u7, u8⟩ := hur
    obtain ⟨v, rfl, v1, v2⟩ := sx_sr1 u6
    exact ⟨ir, v, u4, u5, hA v (by omega), hinj (sx_tk_ok (xs := []) (loc := []) (st := []) hT u1 u3 sx_cx_nil ht), sx_fm_trans ck_m (sx_fm_refl _ _) u1, rfl, rfl⟩
  · intro O hO hb
    rw [List.mem_singleton] at hO
    subst hO
    cases hb
theorem pc_keep {h : List ik_E} (hC : cc_CI h) {x : Int32} : ik_W none 119 0 (ik_loc (ik_ml 119) [.ref 0, .int x]) [] h 0 0 (pc_P cc_Nk 119 (fun v _ => kp_A x v) h) := by
  have hx := sx_i32 x
  have ka := ck_a
  have kb := ck_b
  simp only [Bool.and_eq_true] at ka kb
  by_cases hx0 : x.toInt < 0
  · have hA : ∀ v : Int32, v.toInt = -1000000001 → kp_A x v := by
      intro v hv
      unfold kp_A
      rw [if_neg (by omega)]
      exact hv
    rcases hC with q | q
    · exact ck_seg (A := kp_A x) (fun r => Or.inl r) ka.1.1.1 ka.2 q hx.1 (by omega) hA
    · exact ck_seg (A := kp_A x) (fun r => Or.inr r) kb.1.1.1 kb.2 q hx.1 (by omega) hA
  · by_cases hx1 : 2 ≤ x.toInt
    · have hA : ∀ v : Int32, v.toInt = -1000000001 → kp_A x v := by
        intro v hv
        unfold kp_A
        rw [if_neg (by omega)]
        exact hv
      rcases hC with q | q
      · exact ck_seg (A := kp_A x) (fun r => Or.inl r) ka.1.2 ka.2 q hx1 hx.2 hA
      · exact ck_seg (A := kp_A x) (fun r => Or.inr r) kb.1.2 kb.2 q hx1 hx.2 hA
    · have hA : ∀ v : Int32, v.toInt = 1 → kp_A x v := by
        intro v hv
        unfold kp_A
        rw [if_pos (by omega)]
        exact hv
      rcases hC with q | q
      · exact ck_seg (A := kp_A x) (fun r => Or.inl r) ka.1.1.2 ka.2 q (by omega) (by omega) hA
      · exact ck_seg (A := kp_A x) (fun r => Or.inr r) kb.1.1.2 kb.2 q (by omega) (by omega) hA
/-! feed: what it answers, and how long the text is behind it -/
def fd_F (n t : Int) : Int := if n < 1 ∨ 8 < n then -1000000002 else if 500 < t + n then -1000000004 else t + n
def fd_T (n t : Int) : Int := if n < 1 ∨ 8 < n then t else if 500 < t + n then t else t + n
theorem sx_lk0 {h : List ik_E} {q : sx_Q} (hc : sx_cx [] [] h [(0, [(1, q)]), (0, [(-1, q)])]) : sx_lk [] [] h q = some 0 := by
  obtain ⟨a, a1, a2⟩ := hc _ List.mem_cons_self
  obtain ⟨b, b1, b2⟩ := hc _ (List.mem_cons_of_mem _ List.mem_cons_self)
  cases hq : sx_lk [] [] h q with
  | none => simp only [sx_xc, sx_xk, hq] at a1; cases a1
  | some x =>
    simp only [sx_xc, sx_xk, hq, Option.some.injEq] at a1 b1
    have : x = 0 := by omega
    rw [this]
/-- the two ends of feed for 1 .. 8 bytes: full, or as many more; q the place of the length -/
def fd_O (H : sx_H) (q : sx_Q) (n : Nat) : List sx_U := [(true, 0, [], [sx_ri (-1000000004) (-1000000004)], H, [((n : Int) - 501, [(1, q)])], [((0, [(1, q)]), (0, [(1, q)])), ((0, [(-1, q)]), (0, [(-1, q)]))]), (true, 0, [], [sx_I], H, [(0, [(1, 2, 0, 0), (-1, q)]), (0, [(-1, 2, 0, 0), (1, q)]), (500, [(-1, q)])], [(((n : Int), [(1, q)]), (0, [(1, q)])), ((-(n : Int), [(-1, q)]), (0, [(-1, q)]))])]
/-- what these ends say -/
theorem fd_end {H : sx_H} {q : sx_Q} (hq : Nat.beq q.1 1 = true) {n : Nat} (h1 : 1 ≤ n) (h8 : n ≤ 8) {O : sx_U} (hO : O ∈ fd_O H q n) {mid : Nat} {M : sx_M} {loc : ik_L} {h : List ik_E} {pc' : Nat} {loc' : ik_L} {st' : List Value} {h' : List ik_E} (hu : sx_ur mid M loc h O pc' loc' st' h') {t : Int} (ht : sx_lk [] [] h q = some t) : sx_fm M h h' ∧ sx_hr [] H h' ∧ ∃ ir v, ik_at mid pc' = some ir ∧ ik_rv (ik_rt mid) ir st' = some [.int v] ∧ v.toInt = fd_F n t ∧ sx_lk [] [] h' q = some (fd_T n t) := by
  obtain ⟨u1, u2, u3, ir, rv, u4, u5, u6, u7, u8⟩ := hu
  have ht' : sx_lk loc [] h q = some t := by rw [sx_lk_ho hq]; exact ht
  unfold fd_O at hO
  rcases List.mem_cons.mp hO with rfl | hO
  · obtain ⟨v, rfl, v1, v2⟩ := sx_sr1 u6
    obtain ⟨a, b, a1, b1, ab⟩ := u8 _ List.mem_cons_self
    obtain ⟨c, d, c1, d1, cd⟩ := u8 _ (List.mem_cons_of_mem _ List.mem_cons_self)
    obtain ⟨e, e1, e2⟩ := u7 _ List.mem_cons_self
    cases hx : sx_lk loc' [.int v] h' q with
    | none => simp only [sx_xc, sx_xk, hx] at b1; cases b1
    | some x =>
      simp only [sx_xc, sx_xk, hx, ht', Option.some.injEq] at a1 b1 c1 d1 e1
      have hxt : x = t := by omega
      refine ⟨u1, u3, ir, v, u4, u5, ?_, ?_⟩
      · unfold fd_F
        rw [if_neg (by omega), if_pos (by omega)]
        omega
      · rw [← sx_lk_ho (loc := loc') (st := [.int v]) hq, hx, hxt]
        unfold fd_T
        rw [if_neg (by omega), if_pos (by omega)]
  · rw [List.mem_singleton] at hO
    subst hO
    obtain ⟨v, rfl, v1, v2⟩ := sx_sr1 u6
    obtain ⟨a, b, a1, b1, ab⟩ := u8 _ List.mem_cons_self
    obtain ⟨c, d, c1, d1, cd⟩ := u8 _ (List.mem_cons_of_mem _ List.mem_cons_self)
    obtain ⟨e, e1, e2⟩ := u7 _ List.mem_cons_self
    obtain ⟨f, f1, f2⟩ := u7 _ (List.mem_cons_of_mem _ List.mem_cons_self)
    obtain ⟨g, g1, g2⟩ := u7 _ (List.mem_cons_of_mem _ (List.mem_cons_of_mem _ List.mem_cons_self))
    have hr : sx_lk loc' [.int v] h' (2, 0, 0) = some v.toInt := rfl
    cases hx : sx_lk loc' [.int v] h' q with
    | none => simp only [sx_xc, sx_xk, hx] at b1; cases b1
    | some x =>
      simp only [sx_xc, sx_xk, hx, hr, ht', Option.some.injEq] at a1 b1 c1 d1 e1 f1 g1
      have hxt : x = t + n := by omega
      refine ⟨u1, u3, ir, v, u4, u5, ?_, ?_⟩
      · unfold fd_F
        rw [if_neg (by omega), if_neg (by omega)]
        omega
      · rw [← sx_lk_ho (loc := loc') (st := [.int v]) hq, hx, hxt]
        unfold fd_T
        rw [if_neg (by omega), if_neg (by omega)]
/-! feed of the class and of the reference -/
def fc_q : sx_Q := (1, 1, 1)
def fm_q : sx_Q := (1, 66, 10)
def fc_M : sx_M := [(1, [1]), (2, [9999])]
def fm_M : sx_M := [(66, [10]), (72, [9999])]
def fd_ma (q : sx_Q) : List sx_X := [(0, [(1, q)])]
def fc_k (T : sx_T) (n : Nat) : Bool := sx_sg [] [] fc_M false 1000 90 0 (sx_lo (ik_ml 90) [sx_va [0], sx_ri n n, sx_rl (-9223372036854775808) 9223372036854775807]) T.1 (fd_ma fc_q) [] [] (fd_O T.1 fc_q n)
def fc_r (T : sx_T) (lo hi : Int) : Bool := sx_sg [] [] [] false 200 90 0 (sx_lo (ik_ml 90) [sx_va [0], sx_ri lo hi, sx_rl (-9223372036854775808) 9223372036854775807]) T.1 [] [] [] [(true, 0, [], [sx_ri (-1000000002) (-1000000002)], T.1, [], [])]
def fm_k (T : sx_T) (n : Nat) : Bool := sx_sg [] [] fm_M false 1000 135 0 (sx_lo (ik_ml 135) [sx_va [66], sx_ri n n, sx_rl (-9223372036854775808) 9223372036854775807]) T.1 (fd_ma fm_q) [] [] (fd_O T.1 fm_q n)
def fm_r (T : sx_T) (lo hi : Int) : Bool := sx_sg [] [] [] false 200 135 0 (sx_lo (ik_ml 135) [sx_va [66], sx_ri lo hi, sx_rl (-9223372036854775808) 9223372036854775807]) T.1 [] [] [] [(true, 0, [], [sx_ri (-1000000002) (-1000000002)], T.1, [], [])]
def fc_all (T : sx_T) : Bool := ((List.range 9).all fun n => Nat.beq n 0 || fc_k T n) && fc_r T (-2147483648) 0 && fc_r T 9 2147483647 && sx_tk T T fc_M T.1 [] && sx_tk T T [] T.1 []
def fm_all (T : sx_T) : Bool := ((List.range 9).all fun n => Nat.beq n 0 || fm_k T n) && fm_r T (-2147483648) 0 && fm_r T 9 2147483647 && sx_tk T T fm_M T.1 [] && sx_tk T T [] T.1 []
theorem fc_A : fc_all cc_TA = true := by decide +kernel
theorem fc_B : fc_all cc_TB = true := by decide +kernel
theorem fm_A : fm_all rc_TA = true := by decide +kernel
theorem fm_B : fm_all rc_TB = true := by decide +kernel
theorem fd_m : (sx_mle fc_M cc_MC && sx_mle fm_M rc_MR && qq_ut fm_M && qq_ut []) = true := by decide +kernel
theorem fc_one {T : sx_T} (hinj : ∀ {h' : List ik_E}, sx_iv' T h' → cc_CI h') (hk : fc_all T = true) {h : List ik_E} (hT : sx_iv' T h) {n : Int32} {b : Int64} {t : Int} (ht : sx_lk [] [] h fc_q = some t) : ik_W none 90 0 (ik_loc (ik_ml 90) [.ref 0, .int n, .long b]) [] h 0 0 (pc_P cc_MC 90 (fun v h' => v.toInt = fd_F n.toInt t ∧ sx_lk [] [] h' fc_q = some (fd_T n.toInt t)) h) := by
  unfold fc_all at hk
  simp only [Bool.and_eq_true] at hk
  have hm := fd_m
  simp only [Bool.and_eq_true] at hm
  obtain ⟨⟨⟨⟨k1, k2⟩, k3⟩, k4⟩, k5⟩ := hk
  have hn := sx_i32 n
  have refuse : ∀ lo hi : Int, fc_r T lo hi = true → lo ≤ n.toInt → n.toInt ≤ hi → (n.toInt < 1 ∨ 8 < n.toInt) → ik_W none 90 0 (ik_loc (ik_ml 90) [.ref 0, .int n, .long b]) [] h 0 0 (pc_P cc_MC 90 (fun v h' => v.toInt = fd_F n.toInt t ∧ sx_lk [] [] h' fc_q = some (fd_T n.toInt t)) h) := by
    intro lo hi hck h1 h2 hout
    refine sx_seg (Q := fun _ => True) sx_h0 hck (sx_lo_ok ⟨⟨0, List.mem_singleton.mpr rfl, rfl⟩, ⟨n, rfl, h1, h2⟩, ⟨b, rfl, (sx_i64 b).1, (sx_i64 b).2⟩, trivial⟩) hT.1 sx_cx_nil (fun u => nomatch u) ?_ ?_
    · intro O hO hb pc' loc' st' h' hur
      rw [List.mem_singleton] at hO
      subst hO
      obtain ⟨u1, u2, u3, ir, rv, u4, u5, u6, u7, u8⟩ := hur
      obtain ⟨v, rfl, v1, v2⟩ := sx_sr1 u6
      refine ⟨ir, v, u4, u5, ⟨?_, ?_⟩, hinj (sx_tk_ok (xs := []) (loc := []) (st := []) hT u1 u3 sx_cx_nil k5), sx_fm_trans (fun a k q => by cases q) (sx_fm_refl _ _) u1, rfl, rfl⟩
      · unfold fd_F
        rw [if_pos hout]
        omega
      · have h9 : sx_xc [] [] h (0, [(1, fc_q)]) = some (0 + (1 * t + 0)) := by simp only [sx_xc, sx_xk, ht]
        have h8 := sx_xc_ut (M := []) u1 (x := (0, [(1, fc_q)])) rfl h9
        unfold fd_T
        rw [if_pos hout]
        cases hx : sx_lk [] [] h' fc_q with
        | none => simp only [sx_xc, sx_xk, hx] at h8; cases h8
        | some x =>
          simp only [sx_xc, sx_xk, hx, Option.some.injEq] at h8
          have : x = t := by omega
          rw [this]
    · intro O hO hb
      rw [List.mem_singleton] at hO
      subst hO
      cases hb
  by_cases h1 : n.toInt < 1
  · exact refuse _ _ k2 hn.1 (by omega) (Or.inl h1)
  · by_cases h8 : 8 < n.toInt
    · exact refuse _ _ k3 (by omega) hn.2 (Or.inr h8)
    · obtain ⟨m, hm2⟩ : ∃ m : Nat, n.toInt = (m : Int) := ⟨n.toInt.toNat, by omega⟩
      have hck : fc_k T m = true := by
        have := List.all_eq_true.mp k1 m (List.mem_range.mpr (by omega))
        rcases Bool.or_eq_true_iff.mp this with e | e
        · have := Nat.eq_of_beq_eq_true e
          omega
        · exact e
      rw [hm2]
      refine sx_seg (Q := fun _ => True) sx_h0 hck (sx_lo_ok ⟨⟨0, List.mem_singleton.mpr rfl, rfl⟩, ⟨n, rfl, by omega, by omega⟩, ⟨b, rfl, (sx_i64 b).1, (sx_i64 b).2⟩, trivial⟩) hT.1 sx_cx_nil (fun u => nomatch u) ?_ ?_
      · intro O hO hb pc' loc' st' h' hur
        obtain ⟨u1, u3, ir, v, u4, u5, u6, u7⟩ := fd_end (q := fc_q) rfl (by omega) (by omega) hO hur ht
        exact ⟨ir, v, u4, u5, ⟨u6, u7⟩, hinj (sx_tk_ok (xs := []) (loc := []) (st := []) hT u1 u3 sx_cx_nil k4), sx_fm_trans (sx_mle_ok hm.1.1.1) (sx_fm_refl _ _) u1, rfl, rfl⟩
      · intro O hO hb
        unfold fd_O at hO
        rcases List.mem_cons.mp hO with rfl | hO
        · cases hb
        · rw [List.mem_singleton] at hO
          subst hO
          cases hb
theorem fm_one {T : sx_T} (hinj : ∀ {h' : List ik_E}, sx_iv' T h' → sx_iv' rc_TA h' ∨ sx_iv' rc_TB h') (hk : fm_all T = true) {h : List ik_E} (hT : sx_iv' T h) (hq : qq h) {n : Int32} {b : Int64} {t : Int} (ht : sx_lk [] [] h fm_q = some t) : ik_W none 135 0 (ik_loc (ik_ml 135) [.ref 66, .int n, .long b]) [] h 0 0 (pr_P rc_MR 135 (fun v h' => v.toInt = fd_F n.toInt t ∧ sx_lk [] [] h' fm_q = some (fd_T n.toInt t)) h) := by
  unfold fm_all at hk
  simp only [Bool.and_eq_true] at hk
  have hm := fd_m
  simp only [Bool.and_eq_true] at hm
  obtain ⟨⟨⟨⟨k1, k2⟩, k3⟩, k4⟩, k5⟩ := hk
  have hn := sx_i32 n
  have refuse : ∀ lo hi : Int, fm_r T lo hi = true → lo ≤ n.toInt → n.toInt ≤ hi → (n.toInt < 1 ∨ 8 < n.toInt) → ik_W none 135 0 (ik_loc (ik_ml 135) [.ref 66, .int n, .long b]) [] h 0 0 (pr_P rc_MR 135 (fun v h' => v.toInt = fd_F n.toInt t ∧ sx_lk [] [] h' fm_q = some (fd_T n.toInt t)) h) := by
    intro lo hi hck h1 h2 hout
    refine sx_seg (Q := qq) sx_h0 hck (sx_lo_ok ⟨⟨66, List.mem_singleton.mpr rfl, rfl⟩, ⟨n, rfl, h1, h2⟩, ⟨b, rfl, (sx_i64 b).1, (sx_i64 b).2⟩, trivial⟩) hT.1 sx_cx_nil (fun u => nomatch u) ?_ ?_
    · intro O hO hb pc' loc' st' h' hur
      rw [List.mem_singleton] at hO
      subst hO
      obtain ⟨u1, u2, u3, ir, rv, u4, u5, u6, u7, u8⟩ := hur
      obtain ⟨v, rfl, v1, v2⟩ := sx_sr1 u6
      refine ⟨ir, v, u4, u5, ⟨?_, ?_⟩, ⟨hinj (sx_tk_ok (xs := []) (loc := []) (st := []) hT u1 u3 sx_cx_nil k5), qq_fr hm.2 u1 hq⟩, sx_fm_trans (fun a k q => by cases q) (sx_fm_refl _ _) u1, rfl, rfl⟩
      · unfold fd_F
        rw [if_pos hout]
        omega
      · have h9 : sx_xc [] [] h (0, [(1, fm_q)]) = some (0 + (1 * t + 0)) := by simp only [sx_xc, sx_xk, ht]
        have h8 := sx_xc_ut (M := []) u1 (x := (0, [(1, fm_q)])) rfl h9
        unfold fd_T
        rw [if_pos hout]
        cases hx : sx_lk [] [] h' fm_q with
        | none => simp only [sx_xc, sx_xk, hx] at h8; cases h8
        | some x =>
          simp only [sx_xc, sx_xk, hx, Option.some.injEq] at h8
          have : x = t := by omega
          rw [this]
    · intro O hO hb
      rw [List.mem_singleton] at hO
      subst hO
      cases hb
  by_cases h1 : n.toInt < 1
  · exact refuse _ _ k2 hn.1 (by omega) (Or.inl h1)
  · by_cases h8 : 8 < n.toInt
    · exact refuse _ _ k3 (by omega) hn.2 (Or.inr h8)
    · obtain ⟨m, hm2⟩ : ∃ m : Nat, n.toInt = (m : Int) := ⟨n.toInt.toNat, by omega⟩
      have hck : fm_k T m = true := by
        have := List.all_eq_true.mp k1 m (List.mem_range.mpr (by omega))
        rcases Bool.or_eq_true_iff.mp this with e | e
        · have := Nat.eq_of_beq_eq_true e
          omega
        · exact e
      rw [hm2]
      refine sx_seg (Q := qq) sx_h0 hck (sx_lo_ok ⟨⟨66, List.mem_singleton.mpr rfl, rfl⟩, ⟨n, rfl, by omega, by omega⟩, ⟨b, rfl, (sx_i64 b).1, (sx_i64 b).2⟩, trivial⟩) hT.1 sx_cx_nil (fun u => nomatch u) ?_ ?_
      · intro O hO hb pc' loc' st' h' hur
        obtain ⟨u1, u3, ir, v, u4, u5, u6, u7⟩ := fd_end (q := fm_q) rfl (by omega) (by omega) hO hur ht
        exact ⟨ir, v, u4, u5, ⟨u6, u7⟩, ⟨hinj (sx_tk_ok (xs := []) (loc := []) (st := []) hT u1 u3 sx_cx_nil k4), qq_fr hm.1.2 u1 hq⟩, sx_fm_trans (sx_mle_ok hm.1.1.2) (sx_fm_refl _ _) u1, rfl, rfl⟩
      · intro O hO hb
        unfold fd_O at hO
        rcases List.mem_cons.mp hO with rfl | hO
        · cases hb
        · rw [List.mem_singleton] at hO
          subst hO
          cases hb
theorem st_z : (kc_0.2.2.2.1.all (fun P => sx_stk P.2.1 [(0, [(1, fc_q)]), (0, [(-1, fc_q)])]) && kc_1.2.2.2.1.all (fun P => sx_stk P.2.1 [(0, [(1, fc_q)]), (0, [(-1, fc_q)])])) = true := by decide +kernel
theorem pc_stream {h : List ik_E} (hC : cc_CI h) : ik_W none 91 0 (ik_loc (ik_ml 91) [.ref 0]) [] h 0 0 (pc_P cc_MC 91 (fun _ h' => sx_lk [] [] h' fc_q = some 0) h) := by
  obtain ⟨z1, z2⟩ := Bool.and_eq_true_iff.mp st_z
  rcases hC with q | q
  · exact pc_of2 (C := kc_0) (as := [.ref 0]) kch_0 (T := cc_TA) (by decide +kernel) q ⟨⟨0, List.mem_singleton.mpr rfl, rfl⟩, trivial⟩ (fun P hP v h' _ hh => sx_lk0 (sx_st hh (List.all_eq_true.mp z1 P hP)))
  · exact pc_of2 (C := kc_1) (as := [.ref 0]) kch_1 (T := cc_TB) (by decide +kernel) q ⟨⟨0, List.mem_singleton.mpr rfl, rfl⟩, trivial⟩ (fun P hP v h' _ hh => sx_lk0 (sx_st hh (List.all_eq_true.mp z2 P hP)))
theorem pc_feed {h : List ik_E} (hC : cc_CI h) {n : Int32} {b : Int64} {t : Int} (ht : sx_lk [] [] h fc_q = some t) : ik_W none 90 0 (ik_loc (ik_ml 90) [.ref 0, .int n, .long b]) [] h 0 0 (pc_P cc_MC 90 (fun v h' => v.toInt = fd_F n.toInt t ∧ sx_lk [] [] h' fc_q = some (fd_T n.toInt t)) h) := by
  rcases hC with q | q
  · exact fc_one (fun r => Or.inl r) fc_A q ht
  · exact fc_one (fun r => Or.inr r) fc_B q ht
theorem pm_feed {h : List ik_E} (hI : rc_RI h) {n : Int32} {b : Int64} {t : Int} (ht : sx_lk [] [] h fm_q = some t) : ik_W none 135 0 (ik_loc (ik_ml 135) [.ref 66, .int n, .long b]) [] h 0 0 (pr_P rc_MR 135 (fun v h' => v.toInt = fd_F n.toInt t ∧ sx_lk [] [] h' fm_q = some (fd_T n.toInt t)) h) := by
  rcases hI.1 with q | q
  · exact fm_one (fun r => Or.inl r) fm_A q hI.2 ht
  · exact fm_one (fun r => Or.inr r) fm_B q hI.2 ht
end
