/-! contracts of the class, checked (written by wip/sx/pub2.py) -/
def sch_5 : sx_H := ([none, some sc_0, none, some sc_5, some sc_3, none, some sc_4], [])
def sc_7 : sx_C := .inl (6, [sx_va [2], sx_ri 0 500, sx_ri 0 500, sx_ri (-2147483648) 2147483647, sx_ri (-2147483648) 2147483647, sx_ri 1 12, sx_va [3], sx_va [4], sx_va [5], sx_va [6]])
def sch_6 : sx_H := ([none, some sc_7, none, some sc_5, some sc_3, none, some sc_4], [])
/-- X6_checkGoals  -/
def ka_9 : sx_K := (62, ([sx_va [1]], sch_5, []), [(1, [3, 4])], [([], sch_5, [])], false)
def kan_9 : List sx_N := [(2, [some (sx_va [1]), some (sx_ri 0 12), none], sch_5, [], (12999, [((-1000), (0, 1, 0))])), (12, [some (sx_va [1]), some (sx_ri 0 11), some (sx_ri 0 4)], sch_6, [], (12004, [((-1000), (0, 1, 0)), ((-1), (0, 2, 0))]))]
theorem kac_9 : sx_chk [] [] 6000 ka_9 kan_9 = true := by decide +kernel
theorem kah_9 (Q : List ik_E → Prop) : sx_hd Q ka_9 := sx_chk_ok sx_h0 (fun u => nomatch u) kac_9
def sc_8 : sx_C := .inl (6, [sx_va [2], sx_ri 0 0, sx_ri 0 500, sx_ri (-2147483648) 2147483647, sx_ri (-2147483648) 2147483647, sx_ri 0 12, sx_va [3], sx_va [4], sx_va [5], sx_va [6]])
def sch_7 : sx_H := ([none, some sc_8, some sc_1, some sc_5, some sc_3, some sc_4, some sc_4], [])
/-- X6_readText  -/
def ka_10 : sx_K := (56, ([sx_va [1]], sch_3, []), [(1, [1, 2, 3, 4, 5]), (3, [9999]), (4, [9999]), (5, [9999]), (6, [9999])], [([sx_ri (-2147483648) 2147483647], sch_7, [])], false)
def kan_10 : List sx_N := []
theorem kac_10 : sx_chk [ka_8, ka_9] [] 6000 ka_10 kan_10 = true := by decide +kernel
theorem kah_10 (Q : List ik_E → Prop) : sx_hd Q ka_10 := sx_chk_ok (sx_h1 (kah_8 Q) (sx_h1 (kah_9 Q) sx_h0)) (fun u => nomatch u) kac_10
def sc_9 : sx_C := .inl (0, [sx_ri 0 12, sx_ri (-2147483648) 2147483647, sx_ri (-2147483648) 2147483647, sx_va [8], sx_va [9], sx_va [10], sx_va [11], sx_va [12], sx_va [13]])
def sc_10 : sx_C := .inr (.inr (0, 60, 0, 11))
def sc_11 : sx_C := .inr (.inr (0, 60, (-2147483648), 2147483647))
def sc_12 : sx_C := .inr (.inr (0, 12, 0, 60))
def sch_8 : sx_H := ([none, none, none, none, none, none, none, some sc_9, some sc_5, some sc_3, some sc_4, some sc_10, some sc_11, some sc_12], [])
/-- X0_settle  -/
def ka_11 : sx_K := (12, ([sx_va [7], sx_ri 0 11], sch_8, []), [(11, [9999]), (12, [9999]), (13, [9999])], [([], sch_8, [])], false)
def kan_11 : List sx_N := []
theorem kac_11 : sx_chk [] [] 6000 ka_11 kan_11 = true := by decide +kernel
theorem kah_11 (Q : List ik_E → Prop) : sx_hd Q ka_11 := sx_chk_ok sx_h0 (fun u => nomatch u) kac_11
/-- X0_settleAll  -/
def ka_12 : sx_K := (11, ([sx_va [7]], sch_8, []), [(11, [9999]), (12, [9999]), (13, [9999])], [([], sch_8, [])], false)
def kan_12 : List sx_N := [(2, [some (sx_va [7]), some (sx_ri 0 12)], sch_8, [], (12, [((-1), (0, 1, 0))]))]
theorem kac_12 : sx_chk [ka_11] [] 6000 ka_12 kan_12 = true := by decide +kernel
theorem kah_12 (Q : List ik_E → Prop) : sx_hd Q ka_12 := sx_chk_ok (sx_h1 (kah_11 Q) sx_h0) (fun u => nomatch u) kac_12
def sch_9 : sx_H := ([none, none, none, none, none, none, none, some sc_9, none, none, none, some sc_10, none, some sc_12], [])
/-- X0_goals  -/
def ka_13 : sx_K := (10, ([sx_va [7], sx_ri 0 11], sch_9, []), [], [([sx_ri (-2147483648) 2147483647], sch_9, [])], false)
def kan_13 : List sx_N := [(6, [some (sx_va [7]), some (sx_ri 0 11), some (sx_ri (-2147483648) 2147483647), some (sx_ri 0 60)], sch_9, [], (60, [((-1), (0, 3, 0))]))]
theorem kac_13 : sx_chk [] [] 6000 ka_13 kan_13 = true := by decide +kernel
theorem kah_13 (Q : List ik_E → Prop) : sx_hd Q ka_13 := sx_chk_ok sx_h0 (fun u => nomatch u) kac_13
def sc_13 : sx_C := .inl (0, [sx_ri 1 12, sx_ri (-2147483648) 2147483647, sx_ri (-2147483648) 2147483647, sx_va [8], sx_va [9], sx_va [10], sx_va [11], sx_va [12], sx_va [13]])
def sch_10 : sx_H := ([none, none, none, none, none, none, none, some sc_13, none, none, none, some sc_10, none, some sc_12], [])
/-- X0_findLost  -/
def ka_14 : sx_K := (9, ([sx_va [7]], sch_9, []), [], [([sx_ri (-2147483648) 2147483647], sch_9, [])], false)
def kan_14 : List sx_N := [(18, [some (sx_va [7]), some (sx_ri (-2147483648) 2147483647), some (sx_ri 0 12), none], sch_10, [], (12999, [((-1000), (0, 2, 0))])), (28, [some (sx_va [7]), some (sx_ri (-2147483648) 2147483647), some (sx_ri 0 11), some (sx_ri 0 11)], sch_10, [], (12012, [((-1000), (0, 2, 0)), ((-1), (0, 3, 0))]))]
theorem kac_14 : sx_chk [ka_13] [] 6000 ka_14 kan_14 = true := by decide +kernel
theorem kah_14 (Q : List ik_E → Prop) : sx_hd Q ka_14 := sx_chk_ok (sx_h1 (kah_13 Q) sx_h0) (fun u => nomatch u) kac_14
def sch_11 : sx_H := ([none, some sc_0, none, some sc_5, some sc_3, some sc_4, none, some sc_9, some sc_5, some sc_3, some sc_4, some sc_10, some sc_11, some sc_12], [])
def sc_14 : sx_C := .inl (0, [sx_ri 0 12, sx_ri 0 0, sx_ri (-2147483648) 2147483647, sx_va [8], sx_va [9], sx_va [10], sx_va [11], sx_va [12], sx_va [13]])
def sch_12 : sx_H := ([none, some sc_0, none, some sc_5, some sc_3, some sc_4, none, some sc_14, some sc_5, some sc_3, some sc_4, some sc_10, some sc_11, some sc_12], [])
/-- X0_takeFrom  -/
def ka_15 : sx_K := (8, ([sx_va [7], sx_va [1]], sch_11, []), [(7, [0, 1, 2]), (8, [9999]), (9, [9999]), (10, [9999]), (11, [9999]), (12, [9999]), (13, [9999])], [([], sch_12, [])], false)
def kan_15 : List sx_N := []
theorem kac_15 : sx_chk [ka_12, ka_14] [] 6000 ka_15 kan_15 = true := by decide +kernel
theorem kah_15 (Q : List ik_E → Prop) : sx_hd Q ka_15 := sx_chk_ok (sx_h1 (kah_12 Q) (sx_h1 (kah_14 Q) sx_h0)) (fun u => nomatch u) kac_15
def sc_15 : sx_C := .inr (.inr (1, 12, (-9223372036854775808), 9223372036854775807))
def sch_13 : sx_H := ([none, none, none, none, none, none, none, some sc_13, none, none, none, some sc_10, some sc_11, some sc_12, none, none, none, none, none, none, none, none, none, some sc_15, some sc_15, none, none, some sc_15, some sc_15, none, none, some sc_15, some sc_15, none, none, some sc_15, some sc_15, none, none, some sc_15, some sc_15, none, none, some sc_15, some sc_15], [])
/-- X0_flow  -/
def ka_16 : sx_K := (17, ([sx_va [7], sx_va [23, 24, 27, 28, 31, 32, 35, 36, 39, 40, 43, 44], sx_va [23, 24, 27, 28, 31, 32, 35, 36, 39, 40, 43, 44]], sch_13, []), [(23, [9999]), (24, [9999]), (27, [9999]), (28, [9999]), (31, [9999]), (32, [9999]), (35, [9999]), (36, [9999]), (39, [9999]), (40, [9999]), (43, [9999]), (44, [9999])], [([], sch_13, [])], false)
def kan_16 : List sx_N := [(10, [some (sx_va [7]), some (sx_va [23, 24, 27, 28, 31, 32, 35, 36, 39, 40, 43, 44]), some (sx_va [23, 24, 27, 28, 31, 32, 35, 36, 39, 40, 43, 44]), some (sx_ri 0 11), some (sx_ri 0 11), none, none, none, none, none, none], sch_13, [], (1012999, [((-1000), (0, 4, 0))])), (36, [some (sx_va [7]), some (sx_va [23, 24, 27, 28, 31, 32, 35, 36, 39, 40, 43, 44]), some (sx_va [23, 24, 27, 28, 31, 32, 35, 36, 39, 40, 43, 44]), some (sx_ri 0 11), some (sx_ri 0 11), none, none, none, none, none, none], sch_13, [], (12999, [((-1000), (0, 4, 0))])), (65, [some (sx_va [7]), some (sx_va [23, 24, 27, 28, 31, 32, 35, 36, 39, 40, 43, 44]), some (sx_va [23, 24, 27, 28, 31, 32, 35, 36, 39, 40, 43, 44]), some (sx_ri 1 11), some (sx_ri 0 10), some (sx_rl (-9223372036854775808) 9223372036854775807), none, some (sx_ri (-1) 59), some (sx_ri 0 60), none, none], sch_13, [], (12060, [((-1000), (0, 4, 0)), ((-1), (0, 8, 0))]))]
theorem kac_16 : sx_chk [] [] 6000 ka_16 kan_16 = true := by decide +kernel
theorem kah_16 (Q : List ik_E → Prop) : sx_hd Q ka_16 := sx_chk_ok sx_h0 (fun u => nomatch u) kac_16
def sch_14 : sx_H := ([none, none, none, none, none, none, none, some sc_9, none, none, none, some sc_10, some sc_11, some sc_12], [])
/-- X0_goalBy  -/
def ka_17 : sx_K := (18, ([sx_va [7], sx_ri 0 11, sx_ri (-2147483648) 2147483647], sch_14, []), [], [([sx_ri 0 11], sch_14, [])], false)
def kan_17 : List sx_N := [(7, [some (sx_va [7]), some (sx_ri 0 11), some (sx_ri (-2147483648) 2147483647), some (sx_ri (-2147483648) 2147483647), some (sx_ri 0 60)], sch_14, [], (60, [((-1), (0, 4, 0))]))]
theorem kac_17 : sx_chk [] [] 6000 ka_17 kan_17 = true := by decide +kernel
theorem kah_17 (Q : List ik_E → Prop) : sx_hd Q ka_17 := sx_chk_ok sx_h0 (fun u => nomatch u) kac_17
/-- X0_goOnce  -/
def ka_18 : sx_K := (20, ([sx_va [7], sx_ri (-2147483648) 2147483647], sch_9, []), [], [([sx_ri (-2147483648) 2147483647], sch_9, [])], false)
def kan_18 : List sx_N := [(11, [some (sx_va [7]), some (sx_ri (-2147483648) 2147483647), some (sx_ri (-2147483648) 2147483647), some (sx_ri 0 11)], sch_9, [], (12, [((-1), (0, 3, 0))]))]
theorem kac_18 : sx_chk [ka_13] [] 6000 ka_18 kan_18 = true := by decide +kernel
theorem kah_18 (Q : List ik_E → Prop) : sx_hd Q ka_18 := sx_chk_ok (sx_h1 (kah_13 Q) sx_h0) (fun u => nomatch u) kac_18
/-- X0_leads  -/
def ka_19 : sx_K := (19, ([sx_va [7], sx_ri (-2147483648) 2147483647, sx_ri (-2147483648) 2147483647, sx_ri 0 2], sch_9, []), [], [([sx_ri 0 1], sch_9, [])], false)
def kan_19 : List sx_N := []
theorem kac_19 : sx_chk [ka_18] [] 6000 ka_19 kan_19 = true := by decide +kernel
theorem kah_19 (Q : List ik_E → Prop) : sx_hd Q ka_19 := sx_chk_ok (sx_h1 (kah_18 Q) sx_h0) (fun u => nomatch u) kac_19
def sch_15 : sx_H := ([none, none, none, none, none, none, none, none, none, none, none, none, none, none, none, none, none, none, none, none, none, none, none, some sc_15, some sc_15, none, none, some sc_15, some sc_15, none, none, some sc_15, some sc_15, none, none, some sc_15, some sc_15, none, none, some sc_15, some sc_15, none, none, some sc_15, some sc_15], [])
/-- J7_fill_d0a16  -/
def ka_20 : sx_K := (223, ([sx_va [23, 24, 27, 28, 31, 32, 35, 36, 39, 40, 43, 44], sx_rl (-9223372036854775808) 9223372036854775807], sch_15, []), [(23, [9999]), (24, [9999]), (27, [9999]), (28, [9999]), (31, [9999]), (32, [9999]), (35, [9999]), (36, [9999]), (39, [9999]), (40, [9999]), (43, [9999]), (44, [9999])], [([], sch_15, [])], false)
def kan_20 : List sx_N := [(6, [some (sx_va [23, 24, 27, 28, 31, 32, 35, 36, 39, 40, 43, 44]), some (sx_rl (-9223372036854775808) 9223372036854775807), none, some (sx_ri 0 12), some (sx_ri 12 12)], sch_15, [], (12, [((-1), (0, 3, 0))]))]
theorem kac_20 : sx_chk [] [] 6000 ka_20 kan_20 = true := by decide +kernel
theorem kah_20 (Q : List ik_E → Prop) : sx_hd Q ka_20 := sx_chk_ok sx_h0 (fun u => nomatch u) kac_20
def sc_16 : sx_C := .inl (2, [sx_va [7], sx_ri (-2147483648) 2147483647, sx_ri 0 200, sx_va [22], sx_va [23, 24, 27, 28, 31, 32, 35, 36, 39, 40, 43, 44], sx_va [23, 24, 27, 28, 31, 32, 35, 36, 39, 40, 43, 44]])
def sc_17 : sx_C := .inr (.inr (0, 201, (-2147483648), 2147483647))
def sc_18 : sx_C := .inl (2, [sx_va [7], sx_ri (-2147483648) 2147483647, sx_ri 0 200, sx_va [26], sx_va [23, 24, 27, 28, 31, 32, 35, 36, 39, 40, 43, 44], sx_va [23, 24, 27, 28, 31, 32, 35, 36, 39, 40, 43, 44]])
def sc_19 : sx_C := .inl (2, [sx_va [7], sx_ri (-2147483648) 2147483647, sx_ri 0 200, sx_va [30], sx_va [23, 24, 27, 28, 31, 32, 35, 36, 39, 40, 43, 44], sx_va [23, 24, 27, 28, 31, 32, 35, 36, 39, 40, 43, 44]])
def sc_20 : sx_C := .inl (2, [sx_va [7], sx_ri (-2147483648) 2147483647, sx_ri 0 200, sx_va [34], sx_va [23, 24, 27, 28, 31, 32, 35, 36, 39, 40, 43, 44], sx_va [23, 24, 27, 28, 31, 32, 35, 36, 39, 40, 43, 44]])
def sc_21 : sx_C := .inl (2, [sx_va [7], sx_ri (-2147483648) 2147483647, sx_ri 0 200, sx_va [38], sx_va [23, 24, 27, 28, 31, 32, 35, 36, 39, 40, 43, 44], sx_va [23, 24, 27, 28, 31, 32, 35, 36, 39, 40, 43, 44]])
def sc_22 : sx_C := .inl (2, [sx_va [7], sx_ri (-2147483648) 2147483647, sx_ri 0 200, sx_va [42], sx_va [23, 24, 27, 28, 31, 32, 35, 36, 39, 40, 43, 44], sx_va [23, 24, 27, 28, 31, 32, 35, 36, 39, 40, 43, 44]])
def sch_16 : sx_H := ([none, none, none, none, none, none, none, some sc_13, none, none, none, none, none, none, none, none, none, none, none, none, none, some sc_16, some sc_17, some sc_15, some sc_15, some sc_18, some sc_17, some sc_15, some sc_15, some sc_19, some sc_17, some sc_15, some sc_15, some sc_20, some sc_17, some sc_15, some sc_15, some sc_21, some sc_17, some sc_15, some sc_15, some sc_22, some sc_17, some sc_15, some sc_15], [])
/-- X2_setIn  -/
def ka_21 : sx_K := (30, ([sx_va [21, 25, 29, 33, 37, 41], sx_ri (-2147483648) 2147483647, sx_ri 0 11], sch_16, []), [(21, [1, 2]), (22, [9999]), (23, [9999]), (24, [9999]), (25, [1, 2]), (26, [9999]), (27, [9999]), (28, [9999]), (29, [1, 2]), (30, [9999]), (31, [9999]), (32, [9999]), (33, [1, 2]), (34, [9999]), (35, [9999]), (36, [9999]), (37, [1, 2]), (38, [9999]), (39, [9999]), (40, [9999]), (41, [1, 2]), (42, [9999]), (43, [9999]), (44, [9999])], [([sx_va [21, 25, 29, 33, 37, 41]], sch_16, [])], false)
def kan_21 : List sx_N := []
theorem kac_21 : sx_chk [ka_20] [] 6000 ka_21 kan_21 = true := by decide +kernel
theorem kah_21 (Q : List ik_E → Prop) : sx_hd Q ka_21 := sx_chk_ok (sx_h1 (kah_20 Q) sx_h0) (fun u => nomatch u) kac_21
def sch_17 : sx_H := ([none, none, none, none, none, none, none, some sc_13, none, none, none, some sc_10, some sc_11, some sc_12, none, none, none, none, none, none, none, some sc_16, some sc_17, some sc_15, some sc_15, some sc_18, some sc_17, some sc_15, some sc_15, some sc_19, some sc_17, some sc_15, some sc_15, some sc_20, some sc_17, some sc_15, some sc_15, some sc_21, some sc_17, some sc_15, some sc_15, some sc_22, some sc_17, some sc_15, some sc_15], [])
/-- X2_comeBy  -/
def ka_22 : sx_K := (31, ([sx_va [21, 25, 29, 33, 37, 41], sx_ri (-2147483648) 2147483647], sch_17, []), [(21, [2, 4, 5]), (22, [9999]), (23, [9999]), (24, [9999]), (25, [2, 4, 5]), (26, [9999]), (27, [9999]), (28, [9999]), (29, [2, 4, 5]), (30, [9999]), (31, [9999]), (32, [9999]), (33, [2, 4, 5]), (34, [9999]), (35, [9999]), (36, [9999]), (37, [2, 4, 5]), (38, [9999]), (39, [9999]), (40, [9999]), (41, [2, 4, 5]), (42, [9999]), (43, [9999]), (44, [9999])], [([sx_ri (-2147483648) 2147483647], sch_17, [])], false)
def kan_22 : List sx_N := [(20, [some (sx_va [21, 25, 29, 33, 37, 41]), some (sx_ri 0 200), some (sx_ri 1 201), none, none, none], sch_17, [], (201, [((-1), (0, 2, 0))]))]
theorem kac_22 : sx_chk [ka_16] [] 6000 ka_22 kan_22 = true := by decide +kernel
theorem kah_22 (Q : List ik_E → Prop) : sx_hd Q ka_22 := sx_chk_ok (sx_h1 (kah_16 Q) sx_h0) (fun u => nomatch u) kac_22
/-- X2_oddsAt  -/
def ka_23 : sx_K := (32, ([sx_va [21, 25, 29, 33, 37, 41], sx_ri (-2147483648) 2147483647, sx_ri (-2147483648) 2147483647], sch_17, []), [(21, [2, 4, 5]), (22, [9999]), (23, [9999]), (24, [9999]), (25, [2, 4, 5]), (26, [9999]), (27, [9999]), (28, [9999]), (29, [2, 4, 5]), (30, [9999]), (31, [9999]), (32, [9999]), (33, [2, 4, 5]), (34, [9999]), (35, [9999]), (36, [9999]), (37, [2, 4, 5]), (38, [9999]), (39, [9999]), (40, [9999]), (41, [2, 4, 5]), (42, [9999]), (43, [9999]), (44, [9999])], [([sx_ri (-2147483648) 2147483647], sch_17, [])], false)
def kan_23 : List sx_N := [(11, [some (sx_va [21, 25, 29, 33, 37, 41]), some (sx_ri (-2147483648) 2147483647), some (sx_ri (-2147483648) 2147483647), some (sx_rl (-9223372036854775808) 9223372036854775807), none, some (sx_ri 0 12)], sch_17, [], (12, [((-1), (0, 5, 0))]))]
theorem kac_23 : sx_chk [ka_22] [] 6000 ka_23 kan_23 = true := by decide +kernel
theorem kah_23 (Q : List ik_E → Prop) : sx_hd Q ka_23 := sx_chk_ok (sx_h1 (kah_22 Q) sx_h0) (fun u => nomatch u) kac_23
def sc_23 : sx_C := .inl (8, [sx_va [7], sx_va [15], sx_va [18], sx_va [19], sx_rl (-9223372036854775808) 9223372036854775807, sx_va [20]])
def sc_24 : sx_C := .inr (.inl (1, [sx_rl (-9223372036854775808) 9223372036854775807, sx_rl (-9223372036854775808) 9223372036854775807]))
def sch_18 : sx_H := ([none, none, none, none, none, none, none, some sc_13, none, none, none, some sc_10, some sc_11, some sc_12, none, none, none, some sc_23, none, some sc_24, none, some sc_16, some sc_17, some sc_15, some sc_15, some sc_18, some sc_17, some sc_15, some sc_15, some sc_19, some sc_17, some sc_15, some sc_15, some sc_20, some sc_17, some sc_15, some sc_15, some sc_21, some sc_17, some sc_15, some sc_15, some sc_22, some sc_17, some sc_15, some sc_15], [])
/-- X8_race  -/
def ka_24 : sx_K := (80, ([sx_va [17], sx_va [21, 25, 29, 33, 37, 41], sx_ri (-2147483648) 2147483647, sx_va [21, 25, 29, 33, 37, 41], sx_ri (-2147483648) 2147483647, sx_ri (-2147483648) 2147483647], sch_18, []), [(17, [4]), (19, [0, 1]), (21, [2, 4, 5]), (22, [9999]), (23, [9999]), (24, [9999]), (25, [2, 4, 5]), (26, [9999]), (27, [9999]), (28, [9999]), (29, [2, 4, 5]), (30, [9999]), (31, [9999]), (32, [9999]), (33, [2, 4, 5]), (34, [9999]), (35, [9999]), (36, [9999]), (37, [2, 4, 5]), (38, [9999]), (39, [9999]), (40, [9999]), (41, [2, 4, 5]), (42, [9999]), (43, [9999]), (44, [9999])], [([], sch_18, [])], false)
def kan_24 : List sx_N := [(28, [some (sx_va [17]), some (sx_va [21, 25, 29, 33, 37, 41]), some (sx_ri (-2147483648) 2147483647), some (sx_va [21, 25, 29, 33, 37, 41]), some (sx_ri (-2147483648) 2147483647), some (sx_ri (-2147483648) 2147483647), some (sx_ri (-2147483648) 2147483647), some (sx_ri (-2147483648) 2147483647), some (sx_ri 1 201), none, none, none, none, none, none, none, none, none, none], sch_18, [], (201, [((-1), (0, 8, 0))]))]
theorem kac_24 : sx_chk [ka_22] [] 6000 ka_24 kan_24 = true := by decide +kernel
theorem kah_24 (Q : List ik_E → Prop) : sx_hd Q ka_24 := sx_chk_ok (sx_h1 (kah_22 Q) sx_h0) (fun u => nomatch u) kac_24
