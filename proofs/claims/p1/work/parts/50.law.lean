/-! p1: the law from its entry: two new objects, no call or one (written by wip/gen/p1law.py) -/
theorem ik_W_X {L : Nat} {f g : Nat → Int32} (hfg : ∀ j, j < L → f j = g j) {mid pc : Nat} {loc : ik_L} {st : List Value} {h : List ik_E} {cl sl : Nat} {post : ik_St → Prop} (k : ik_W (some (L, f)) mid pc loc st h cl sl post) : ik_W (some (L, g)) mid pc loc st h cl sl post := by
  obtain ⟨n, z, he, hp⟩ := k
  exact ⟨n, z, by rw [← ik_ex_X hfg]; exact he, hp⟩
set_option maxHeartbeats 16000000 in
set_option maxRecDepth 100000 in
theorem p1_five (a0 a1 a2 a3 a4 : Int32) : ik_W (some (5, p1_f a0 a1 a2 a3 a4)) 0 18 [some (.retAddr 0), some (.ref 0), some (.ref 66), some (.int 0)] [] p1_h 94 4156 p1_post := by
  refine ik_Wk 11 (pc' := 32) (loc' := [some (.retAddr 0), some (.ref 0), some (.ref 66), some (.int 0)]) (st' := [.int (a0 &&& 31)]) (h' := p1_h) (cl' := 94) (sl' := 4156) rfl ?_
  obtain ⟨j, hj, ej⟩ := pk_andE a0 (m := 31) 5 (by decide)
  rw [ej]
  have hj2 : j = 0 ∨ j = 1 ∨ j = 2 ∨ j = 3 ∨ j = 4 ∨ j = 5 ∨ j = 6 ∨ j = 7 ∨ j = 8 ∨ j = 9 ∨ j = 10 ∨ j = 11 ∨ j = 12 ∨ j = 13 ∨ j = 14 ∨ j = 15 ∨ j = 16 ∨ j = 17 ∨ j = 18 ∨ j = 19 ∨ j = 20 ∨ j = 21 ∨ j = 22 ∨ j = 23 ∨ j = 24 ∨ j = 25 ∨ j = 26 ∨ j = 27 ∨ j = 28 ∨ j = 29 ∨ j = 30 ∨ j = 31 := by omega
  rcases hj2 with rfl | rfl | rfl | rfl | rfl | rfl | rfl | rfl | rfl | rfl | rfl | rfl | rfl | rfl | rfl | rfl | rfl | rfl | rfl | rfl | rfl | rfl | rfl | rfl | rfl | rfl | rfl | rfl | rfl | rfl | rfl | rfl
  · exact ik_Wsi 1099 0 30 #[140, 203, 216, 229, 252, 295, 338, 381, 434, 477, 520, 543, 586, 629, 678, 711, 744, 757, 780, 793, 846, 879, 902, 925, 938, 961, 994, 1007, 1030, 1053, 1076] 140 172 rfl (by decide) (by decide) rfl (p1_k0 a0 a1 a2 a3 a4)
  · exact ik_Wsi 1099 0 30 #[140, 203, 216, 229, 252, 295, 338, 381, 434, 477, 520, 543, 586, 629, 678, 711, 744, 757, 780, 793, 846, 879, 902, 925, 938, 961, 994, 1007, 1030, 1053, 1076] 203 235 rfl (by decide) (by decide) rfl (p1_k1 a0 a1 a2 a3 a4)
  · exact ik_Wsi 1099 0 30 #[140, 203, 216, 229, 252, 295, 338, 381, 434, 477, 520, 543, 586, 629, 678, 711, 744, 757, 780, 793, 846, 879, 902, 925, 938, 961, 994, 1007, 1030, 1053, 1076] 216 248 rfl (by decide) (by decide) rfl (p1_k2 a0 a1 a2 a3 a4)
  · exact ik_Wsi 1099 0 30 #[140, 203, 216, 229, 252, 295, 338, 381, 434, 477, 520, 543, 586, 629, 678, 711, 744, 757, 780, 793, 846, 879, 902, 925, 938, 961, 994, 1007, 1030, 1053, 1076] 229 261 rfl (by decide) (by decide) rfl (p1_k3 a0 a1 a2 a3 a4)
  · exact ik_Wsi 1099 0 30 #[140, 203, 216, 229, 252, 295, 338, 381, 434, 477, 520, 543, 586, 629, 678, 711, 744, 757, 780, 793, 846, 879, 902, 925, 938, 961, 994, 1007, 1030, 1053, 1076] 252 284 rfl (by decide) (by decide) rfl (p1_k4 a0 a1 a2 a3 a4)
  · exact ik_Wsi 1099 0 30 #[140, 203, 216, 229, 252, 295, 338, 381, 434, 477, 520, 543, 586, 629, 678, 711, 744, 757, 780, 793, 846, 879, 902, 925, 938, 961, 994, 1007, 1030, 1053, 1076] 295 327 rfl (by decide) (by decide) rfl (p1_k5 a0 a1 a2 a3 a4)
  · exact ik_Wsi 1099 0 30 #[140, 203, 216, 229, 252, 295, 338, 381, 434, 477, 520, 543, 586, 629, 678, 711, 744, 757, 780, 793, 846, 879, 902, 925, 938, 961, 994, 1007, 1030, 1053, 1076] 338 370 rfl (by decide) (by decide) rfl (p1_k6 a0 a1 a2 a3 a4)
  · exact ik_Wsi 1099 0 30 #[140, 203, 216, 229, 252, 295, 338, 381, 434, 477, 520, 543, 586, 629, 678, 711, 744, 757, 780, 793, 846, 879, 902, 925, 938, 961, 994, 1007, 1030, 1053, 1076] 381 413 rfl (by decide) (by decide) rfl (p1_k7 a0 a1 a2 a3 a4)
  · exact ik_Wsi 1099 0 30 #[140, 203, 216, 229, 252, 295, 338, 381, 434, 477, 520, 543, 586, 629, 678, 711, 744, 757, 780, 793, 846, 879, 902, 925, 938, 961, 994, 1007, 1030, 1053, 1076] 434 466 rfl (by decide) (by decide) rfl (p1_k8 a0 a1 a2 a3 a4)
  · exact ik_Wsi 1099 0 30 #[140, 203, 216, 229, 252, 295, 338, 381, 434, 477, 520, 543, 586, 629, 678, 711, 744, 757, 780, 793, 846, 879, 902, 925, 938, 961, 994, 1007, 1030, 1053, 1076] 477 509 rfl (by decide) (by decide) rfl (p1_k9 a0 a1 a2 a3 a4)
  · exact ik_Wsi 1099 0 30 #[140, 203, 216, 229, 252, 295, 338, 381, 434, 477, 520, 543, 586, 629, 678, 711, 744, 757, 780, 793, 846, 879, 902, 925, 938, 961, 994, 1007, 1030, 1053, 1076] 520 552 rfl (by decide) (by decide) rfl (p1_k10 a0 a1 a2 a3 a4)
  · exact ik_Wsi 1099 0 30 #[140, 203, 216, 229, 252, 295, 338, 381, 434, 477, 520, 543, 586, 629, 678, 711, 744, 757, 780, 793, 846, 879, 902, 925, 938, 961, 994, 1007, 1030, 1053, 1076] 543 575 rfl (by decide) (by decide) rfl (p1_k11 a0 a1 a2 a3 a4)
  · exact ik_Wsi 1099 0 30 #[140, 203, 216, 229, 252, 295, 338, 381, 434, 477, 520, 543, 586, 629, 678, 711, 744, 757, 780, 793, 846, 879, 902, 925, 938, 961, 994, 1007, 1030, 1053, 1076] 586 618 rfl (by decide) (by decide) rfl (p1_k12 a0 a1 a2 a3 a4)
  · exact ik_Wsi 1099 0 30 #[140, 203, 216, 229, 252, 295, 338, 381, 434, 477, 520, 543, 586, 629, 678, 711, 744, 757, 780, 793, 846, 879, 902, 925, 938, 961, 994, 1007, 1030, 1053, 1076] 629 661 rfl (by decide) (by decide) rfl (p1_k13 a0 a1 a2 a3 a4)
  · exact ik_Wsi 1099 0 30 #[140, 203, 216, 229, 252, 295, 338, 381, 434, 477, 520, 543, 586, 629, 678, 711, 744, 757, 780, 793, 846, 879, 902, 925, 938, 961, 994, 1007, 1030, 1053, 1076] 678 710 rfl (by decide) (by decide) rfl (p1_k14 a0 a1 a2 a3 a4)
  · exact ik_Wsi 1099 0 30 #[140, 203, 216, 229, 252, 295, 338, 381, 434, 477, 520, 543, 586, 629, 678, 711, 744, 757, 780, 793, 846, 879, 902, 925, 938, 961, 994, 1007, 1030, 1053, 1076] 711 743 rfl (by decide) (by decide) rfl (p1_k15 a0 a1 a2 a3 a4)
  · exact ik_Wsi 1099 0 30 #[140, 203, 216, 229, 252, 295, 338, 381, 434, 477, 520, 543, 586, 629, 678, 711, 744, 757, 780, 793, 846, 879, 902, 925, 938, 961, 994, 1007, 1030, 1053, 1076] 744 776 rfl (by decide) (by decide) rfl (p1_k16 a0 a1 a2 a3 a4)
  · exact ik_Wsi 1099 0 30 #[140, 203, 216, 229, 252, 295, 338, 381, 434, 477, 520, 543, 586, 629, 678, 711, 744, 757, 780, 793, 846, 879, 902, 925, 938, 961, 994, 1007, 1030, 1053, 1076] 757 789 rfl (by decide) (by decide) rfl (p1_k17 a0 a1 a2 a3 a4)
  · exact ik_Wsi 1099 0 30 #[140, 203, 216, 229, 252, 295, 338, 381, 434, 477, 520, 543, 586, 629, 678, 711, 744, 757, 780, 793, 846, 879, 902, 925, 938, 961, 994, 1007, 1030, 1053, 1076] 780 812 rfl (by decide) (by decide) rfl (p1_k18 a0 a1 a2 a3 a4)
  · exact ik_Wsi 1099 0 30 #[140, 203, 216, 229, 252, 295, 338, 381, 434, 477, 520, 543, 586, 629, 678, 711, 744, 757, 780, 793, 846, 879, 902, 925, 938, 961, 994, 1007, 1030, 1053, 1076] 793 825 rfl (by decide) (by decide) rfl (p1_k19 a0 a1 a2 a3 a4)
  · exact ik_Wsi 1099 0 30 #[140, 203, 216, 229, 252, 295, 338, 381, 434, 477, 520, 543, 586, 629, 678, 711, 744, 757, 780, 793, 846, 879, 902, 925, 938, 961, 994, 1007, 1030, 1053, 1076] 846 878 rfl (by decide) (by decide) rfl (p1_k20 a0 a1 a2 a3 a4)
  · exact ik_Wsi 1099 0 30 #[140, 203, 216, 229, 252, 295, 338, 381, 434, 477, 520, 543, 586, 629, 678, 711, 744, 757, 780, 793, 846, 879, 902, 925, 938, 961, 994, 1007, 1030, 1053, 1076] 879 911 rfl (by decide) (by decide) rfl (p1_k21 a0 a1 a2 a3 a4)
  · exact ik_Wsi 1099 0 30 #[140, 203, 216, 229, 252, 295, 338, 381, 434, 477, 520, 543, 586, 629, 678, 711, 744, 757, 780, 793, 846, 879, 902, 925, 938, 961, 994, 1007, 1030, 1053, 1076] 902 934 rfl (by decide) (by decide) rfl (p1_k22 a0 a1 a2 a3 a4)
  · exact ik_Wsi 1099 0 30 #[140, 203, 216, 229, 252, 295, 338, 381, 434, 477, 520, 543, 586, 629, 678, 711, 744, 757, 780, 793, 846, 879, 902, 925, 938, 961, 994, 1007, 1030, 1053, 1076] 925 957 rfl (by decide) (by decide) rfl (p1_k23 a0 a1 a2 a3 a4)
  · exact ik_Wsi 1099 0 30 #[140, 203, 216, 229, 252, 295, 338, 381, 434, 477, 520, 543, 586, 629, 678, 711, 744, 757, 780, 793, 846, 879, 902, 925, 938, 961, 994, 1007, 1030, 1053, 1076] 938 970 rfl (by decide) (by decide) rfl (p1_k24 a0 a1 a2 a3 a4)
  · exact ik_Wsi 1099 0 30 #[140, 203, 216, 229, 252, 295, 338, 381, 434, 477, 520, 543, 586, 629, 678, 711, 744, 757, 780, 793, 846, 879, 902, 925, 938, 961, 994, 1007, 1030, 1053, 1076] 961 993 rfl (by decide) (by decide) rfl (p1_k25 a0 a1 a2 a3 a4)
  · exact ik_Wsi 1099 0 30 #[140, 203, 216, 229, 252, 295, 338, 381, 434, 477, 520, 543, 586, 629, 678, 711, 744, 757, 780, 793, 846, 879, 902, 925, 938, 961, 994, 1007, 1030, 1053, 1076] 994 1026 rfl (by decide) (by decide) rfl (p1_k26 a0 a1 a2 a3 a4)
  · exact ik_Wsi 1099 0 30 #[140, 203, 216, 229, 252, 295, 338, 381, 434, 477, 520, 543, 586, 629, 678, 711, 744, 757, 780, 793, 846, 879, 902, 925, 938, 961, 994, 1007, 1030, 1053, 1076] 1007 1039 rfl (by decide) (by decide) rfl (p1_k27 a0 a1 a2 a3 a4)
  · exact ik_Wsi 1099 0 30 #[140, 203, 216, 229, 252, 295, 338, 381, 434, 477, 520, 543, 586, 629, 678, 711, 744, 757, 780, 793, 846, 879, 902, 925, 938, 961, 994, 1007, 1030, 1053, 1076] 1030 1062 rfl (by decide) (by decide) rfl (p1_k28 a0 a1 a2 a3 a4)
  · exact ik_Wsi 1099 0 30 #[140, 203, 216, 229, 252, 295, 338, 381, 434, 477, 520, 543, 586, 629, 678, 711, 744, 757, 780, 793, 846, 879, 902, 925, 938, 961, 994, 1007, 1030, 1053, 1076] 1053 1085 rfl (by decide) (by decide) rfl (p1_k29 a0 a1 a2 a3 a4)
  · exact ik_Wsi 1099 0 30 #[140, 203, 216, 229, 252, 295, 338, 381, 434, 477, 520, 543, 586, 629, 678, 711, 744, 757, 780, 793, 846, 879, 902, 925, 938, 961, 994, 1007, 1030, 1053, 1076] 1076 1108 rfl (by decide) (by decide) rfl (p1_k30 a0 a1 a2 a3 a4)
  · refine ik_Wsw 1099 0 30 #[140, 203, 216, 229, 252, 295, 338, 381, 434, 477, 520, 543, 586, 629, 678, 711, 744, 757, 780, 793, 846, 879, 902, 925, 938, 961, 994, 1007, 1030, 1053, 1076] 1131 rfl rfl (by decide) ?_
    refine ik_Wk 9 (pc' := 1138) (loc' := [some (.retAddr 0), some (.ref 0), some (.ref 66), some (.int 5)]) (st' := [.int 1]) (h' := p1_h) (cl' := 94) (sl' := 4156) rfl ?_
    exact ik_Wret rfl rfl ⟨rfl, rfl, Nat.le_of_ble_eq_true rfl, Nat.le_of_ble_eq_true rfl⟩
set_option maxHeartbeats 16000000 in
set_option maxRecDepth 100000 in
theorem p1_loop (L : Nat) (hL : L ≤ 5) (xs : Nat → Int32) : ik_W (some (L, xs)) 0 18 [some (.retAddr 0), some (.ref 0), some (.ref 66), some (.int 0)] [] p1_h 94 4156 p1_post := by
  have hj2 : L = 0 ∨ L = 1 ∨ L = 2 ∨ L = 3 ∨ L = 4 ∨ L = 5 := by omega
  rcases hj2 with rfl | rfl | rfl | rfl | rfl | rfl
  · refine ik_Wk 7 (pc' := 1138) (loc' := [some (.retAddr 0), some (.ref 0), some (.ref 66), some (.int 0)]) (st' := [.int 1]) (h' := p1_h) (cl' := 94) (sl' := 4156) rfl ?_
    exact ik_Wret rfl rfl ⟨rfl, rfl, Nat.le_of_ble_eq_true rfl, Nat.le_of_ble_eq_true rfl⟩
  · refine ik_Wk 7 (pc' := 1138) (loc' := [some (.retAddr 0), some (.ref 0), some (.ref 66), some (.int 0)]) (st' := [.int 1]) (h' := p1_h) (cl' := 94) (sl' := 4156) rfl ?_
    exact ik_Wret rfl rfl ⟨rfl, rfl, Nat.le_of_ble_eq_true rfl, Nat.le_of_ble_eq_true rfl⟩
  · refine ik_Wk 7 (pc' := 1138) (loc' := [some (.retAddr 0), some (.ref 0), some (.ref 66), some (.int 0)]) (st' := [.int 1]) (h' := p1_h) (cl' := 94) (sl' := 4156) rfl ?_
    exact ik_Wret rfl rfl ⟨rfl, rfl, Nat.le_of_ble_eq_true rfl, Nat.le_of_ble_eq_true rfl⟩
  · refine ik_Wk 7 (pc' := 1138) (loc' := [some (.retAddr 0), some (.ref 0), some (.ref 66), some (.int 0)]) (st' := [.int 1]) (h' := p1_h) (cl' := 94) (sl' := 4156) rfl ?_
    exact ik_Wret rfl rfl ⟨rfl, rfl, Nat.le_of_ble_eq_true rfl, Nat.le_of_ble_eq_true rfl⟩
  · refine ik_Wk 7 (pc' := 1138) (loc' := [some (.retAddr 0), some (.ref 0), some (.ref 66), some (.int 0)]) (st' := [.int 1]) (h' := p1_h) (cl' := 94) (sl' := 4156) rfl ?_
    exact ik_Wret rfl rfl ⟨rfl, rfl, Nat.le_of_ble_eq_true rfl, Nat.le_of_ble_eq_true rfl⟩
  · refine ik_W_X (f := p1_f (xs 0) (xs 1) (xs 2) (xs 3) (xs 4)) ?_ (p1_five _ _ _ _ _)
    intro j hj
    have hj2 : j = 0 ∨ j = 1 ∨ j = 2 ∨ j = 3 ∨ j = 4 := by omega
    rcases hj2 with rfl | rfl | rfl | rfl | rfl <;> rfl
theorem p1_wfx : ik_wf [some (.retAddr 0), some (.ref 0), none, none] [] p1_x = true := by decide +kernel
theorem p1_xlen : p1_x.length = 66 := by decide +kernel
set_option maxHeartbeats 16000000 in
set_option maxRecDepth 100000 in
theorem p1_start (L : Nat) (hL : L ≤ 5) (xs : Nat → Int32) : ik_W (some (L, xs)) 0 0 [some (.retAddr 0), none, none, none] [] [] 0 0 p1_post := by
  refine ik_Wk 2 (pc' := 4) (loc' := [some (.retAddr 0), none, none, none]) (st' := [.ref 0, .ref 0]) (h' := [.inr (9, ik_fs 9)]) (cl' := 1) (sl' := 8) rfl ?_
  refine ik_Wce 33 1 1 [.ref 0] [.ref 0] _ [] p1_newX rfl rfl rfl (by decide) rfl rfl rfl rfl rfl ?_
  refine ik_Wk 1 (pc' := 8) (loc' := [some (.retAddr 0), some (.ref 0), none, none]) (st' := []) (h' := p1_x) (cl' := 66) (sl' := 2616) rfl ?_
  have hnew : ik_run 1 (some (L, xs)) 0 (8, [some (.retAddr 0), some (.ref 0), none, none], [], p1_x, 66, 2616) = some (11, [some (.retAddr 0), some (.ref 0), none, none], [.ref 66], p1_x ++ [.inr (10, ik_fs 10)], 67, 2659) := by
    have h1 : ik_at 0 8 = some (.new 10) := rfl
    have h2 : ik_isR (.new 10) = false := rfl
    have h3 : ik_call 0 (.new 10) = none := rfl
    have h4 : ik_nc 0 10 = some (10, 2) ∨ ∃ q, ik_nc 0 10 = some (10, q) := Or.inr ⟨_, rfl⟩
    obtain ⟨q, h4⟩ : ∃ q, ik_nc 0 10 = some (10, q) := ⟨_, rfl⟩
    simp only [ik_run, h1, h2, h3, cond_false, ik_step, h4, ik_bo, p1_wfx, p1_xlen, if_true]
    rfl
  refine ik_Wk 1 hnew ?_
  refine ik_Wk 1 (pc' := 12) (loc' := [some (.retAddr 0), some (.ref 0), none, none]) (st' := [.ref 66, .ref 66]) (h' := p1_x ++ [.inr (10, ik_fs 10)]) (cl' := 67) (sl' := 2659) rfl ?_
  refine ik_Wce 69 1 1 [.ref 66] [.ref 66] _ [] p1_newM rfl rfl rfl (by decide) rfl rfl rfl rfl rfl ?_
  refine ik_Wk 3 (pc' := 18) (loc' := [some (.retAddr 0), some (.ref 0), some (.ref 66), some (.int 0)]) (st' := []) (h' := p1_h) (cl' := 94) (sl' := 4156) rfl ?_
  exact p1_loop L hL xs
