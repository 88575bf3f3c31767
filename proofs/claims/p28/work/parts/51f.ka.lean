/-! contracts of the class, checked (written by wip/sx/pub2.py) -/
/-- X5_fits  -/
def ka_52 : sx_K := (44, ([sx_va [45], sx_ri (-2147483648) 2147483647, sx_ri (-2147483648) 2147483647, sx_ri 1 3, sx_ri 1 3], sch_35, []), [(47, [9999]), (48, [9999]), (49, [0, 1]), (50, [0, 1])], [([sx_ri 0 1], sch_35, [])], false)
def kan_52 : List sx_N := []
theorem kac_52 : sx_chk [ka_45, ka_49, ka_51] [] 6000 ka_52 kan_52 = true := by decide +kernel
theorem kah_52 (Q : List ik_E → Prop) : sx_hd Q ka_52 := sx_chk_ok (sx_h1 (kah_45 Q) (sx_h1 (kah_49 Q) (sx_h1 (kah_51 Q) sx_h0))) (fun u => nomatch u) kac_52
/-- X5_findPair  -/
def ka_53 : sx_K := (43, ([sx_va [45], sx_ri 1 1], sch_35, []), [(47, [9999]), (48, [9999]), (49, [0, 1]), (50, [0, 1])], [([sx_ri 0 1], sch_35, [])], false)
def kan_53 : List sx_N := [(6, [some (sx_va [45]), some (sx_ri 1 1), some (sx_ri 2 2), some (sx_ri 1 2), none, none], sch_35, [], (4999999, [((-1000000), (0, 3, 0))])), (14, [some (sx_va [45]), some (sx_ri 1 1), some (sx_ri 2 2), some (sx_ri 1 1), some (sx_ri 1 2), none], sch_35, [], (4008999, [((-1000000), (0, 3, 0)), ((-1000), (0, 4, 0))])), (23, [some (sx_va [45]), some (sx_ri 1 1), some (sx_ri 2 2), some (sx_ri 1 1), some (sx_ri 1 1), some (sx_ri 1 2)], sch_35, [], (4008008, [((-1000000), (0, 3, 0)), ((-1000), (0, 4, 0)), ((-1), (0, 5, 0))]))]
theorem kac_53 : sx_chk [ka_52] [] 6000 ka_53 kan_53 = true := by decide +kernel
theorem kah_53 (Q : List ik_E → Prop) : sx_hd Q ka_53 := sx_chk_ok (sx_h1 (kah_52 Q) sx_h0) (fun u => nomatch u) kac_53
/-- X5_findPair  -/
def ka_54 : sx_K := (43, ([sx_va [45], sx_ri 2 2], sch_35, []), [(47, [9999]), (48, [9999]), (49, [0, 1]), (50, [0, 1])], [([sx_ri 0 1], sch_35, [])], false)
def kan_54 : List sx_N := [(6, [some (sx_va [45]), some (sx_ri 2 2), some (sx_ri 4 4), some (sx_ri 1 3), none, none], sch_35, [], (4999999, [((-1000000), (0, 3, 0))])), (14, [some (sx_va [45]), some (sx_ri 2 2), some (sx_ri 4 4), some (sx_ri 1 2), some (sx_ri 1 4), none], sch_35, [], (4008999, [((-1000000), (0, 3, 0)), ((-1000), (0, 4, 0))])), (23, [some (sx_va [45]), some (sx_ri 2 2), some (sx_ri 4 4), some (sx_ri 1 2), some (sx_ri 1 3), some (sx_ri 1 4)], sch_35, [], (4008008, [((-1000000), (0, 3, 0)), ((-1000), (0, 4, 0)), ((-1), (0, 5, 0))]))]
theorem kac_54 : sx_chk [ka_52] [] 6000 ka_54 kan_54 = true := by decide +kernel
theorem kah_54 (Q : List ik_E → Prop) : sx_hd Q ka_54 := sx_chk_ok (sx_h1 (kah_52 Q) sx_h0) (fun u => nomatch u) kac_54
/-- X5_findPair  -/
def ka_55 : sx_K := (43, ([sx_va [45], sx_ri 3 3], sch_35, []), [(47, [9999]), (48, [9999]), (49, [0, 1]), (50, [0, 1])], [([sx_ri 0 1], sch_35, [])], false)
def kan_55 : List sx_N := [(6, [some (sx_va [45]), some (sx_ri 3 3), some (sx_ri 8 8), some (sx_ri 1 4), none, none], sch_35, [], (4999999, [((-1000000), (0, 3, 0))])), (14, [some (sx_va [45]), some (sx_ri 3 3), some (sx_ri 8 8), some (sx_ri 1 3), some (sx_ri 1 8), none], sch_35, [], (4008999, [((-1000000), (0, 3, 0)), ((-1000), (0, 4, 0))])), (23, [some (sx_va [45]), some (sx_ri 3 3), some (sx_ri 8 8), some (sx_ri 1 3), some (sx_ri 1 7), some (sx_ri 1 8)], sch_35, [], (4008008, [((-1000000), (0, 3, 0)), ((-1000), (0, 4, 0)), ((-1), (0, 5, 0))]))]
theorem kac_55 : sx_chk [ka_52] [] 6000 ka_55 kan_55 = true := by decide +kernel
theorem kah_55 (Q : List ik_E → Prop) : sx_hd Q ka_55 := sx_chk_ok (sx_h1 (kah_52 Q) sx_h0) (fun u => nomatch u) kac_55
def sc_37 : sx_C := .inl (7, [sx_va [7], sx_ri 0 12, sx_va [52], sx_va [53]])
def sc_38 : sx_C := .inr (.inr (0, 12, 0, 11))
def sc_39 : sx_C := .inr (.inr (0, 12, 0, 200))
def sch_38 : sx_H := ([none, none, none, none, none, none, none, some sc_13, none, none, none, some sc_10, some sc_11, some sc_12, none, none, none, none, none, none, none, some sc_16, some sc_17, some sc_15, some sc_15, some sc_18, some sc_17, some sc_15, some sc_15, some sc_19, some sc_17, some sc_15, some sc_15, some sc_20, some sc_17, some sc_15, some sc_15, some sc_21, some sc_17, some sc_15, some sc_15, some sc_22, some sc_17, some sc_15, some sc_15, none, none, none, none, none, none, some sc_37, some sc_38, some sc_39], [])
/-- X7_fitAsItIs  -/
def ka_56 : sx_K := (70, ([sx_va [51], sx_va [21, 25, 29, 33, 37, 41]], sch_38, []), [(21, [1, 2, 4, 5]), (22, [9999]), (23, [9999]), (24, [9999]), (25, [1, 2, 4, 5]), (26, [9999]), (27, [9999]), (28, [9999]), (29, [1, 2, 4, 5]), (30, [9999]), (31, [9999]), (32, [9999]), (33, [1, 2, 4, 5]), (34, [9999]), (35, [9999]), (36, [9999]), (37, [1, 2, 4, 5]), (38, [9999]), (39, [9999]), (40, [9999]), (41, [1, 2, 4, 5]), (42, [9999]), (43, [9999]), (44, [9999])], [([sx_ri (-2147483648) 2147483647], sch_38, [])], false)
def kan_56 : List sx_N := [(7, [some (sx_va [51]), some (sx_va [21, 25, 29, 33, 37, 41]), some (sx_rl 1 9223372036854775807), none, some (sx_ri 0 12), none, none], sch_38, [], (12, [((-1), (0, 4, 0))]))]
theorem kac_56 : sx_chk [ka_21, ka_22] [] 6000 ka_56 kan_56 = true := by decide +kernel
theorem kah_56 (Q : List ik_E → Prop) : sx_hd Q ka_56 := sx_chk_ok (sx_h1 (kah_21 Q) (sx_h1 (kah_22 Q) sx_h0)) (fun u => nomatch u) kac_56
def sch_39 : sx_H := ([none, none, none, none, none, none, none, some sc_13, some sc_5, some sc_3, some sc_4, some sc_10, some sc_11, some sc_12, none, none, none, none, none, none, none, some sc_16, some sc_17, some sc_15, some sc_15, some sc_18, some sc_17, some sc_15, some sc_15, some sc_19, some sc_17, some sc_15, some sc_15, some sc_20, some sc_17, some sc_15, some sc_15, some sc_21, some sc_17, some sc_15, some sc_15, some sc_22, some sc_17, some sc_15, some sc_15, none, none, none, none, none, none, some sc_37, some sc_38, some sc_39], [])
/-- X7_findStone  -/
def ka_57 : sx_K := (72, ([sx_va [51], sx_va [21, 25, 29, 33, 37, 41]], sch_39, []), [(7, [1]), (11, [9999]), (12, [9999]), (13, [9999]), (21, [1, 2, 4, 5]), (22, [9999]), (23, [9999]), (24, [9999]), (25, [1, 2, 4, 5]), (26, [9999]), (27, [9999]), (28, [9999]), (29, [1, 2, 4, 5]), (30, [9999]), (31, [9999]), (32, [9999]), (33, [1, 2, 4, 5]), (34, [9999]), (35, [9999]), (36, [9999]), (37, [1, 2, 4, 5]), (38, [9999]), (39, [9999]), (40, [9999]), (41, [1, 2, 4, 5]), (42, [9999]), (43, [9999]), (44, [9999])], [([sx_ri (-1) 10], sch_39, [])], false)
def kan_57 : List sx_N := [(11, [some (sx_va [51]), some (sx_va [21, 25, 29, 33, 37, 41]), some (sx_ri (-2147483648) 2147483647), some (sx_ri (-1) 10), some (sx_ri 0 11), none], sch_39, [], (12, [((-1), (0, 4, 0))]))]
theorem kac_57 : sx_chk [ka_32, ka_56] [] 6000 ka_57 kan_57 = true := by decide +kernel
theorem kah_57 (Q : List ik_E → Prop) : sx_hd Q ka_57 := sx_chk_ok (sx_h1 (kah_32 Q) (sx_h1 (kah_56 Q) sx_h0)) (fun u => nomatch u) kac_57
def sc_40 : sx_C := .inl (4, [sx_va [55], sx_va [56]])
def sc_41 : sx_C := .inr (.inr (0, 80, 0, 12))
def sc_42 : sx_C := .inr (.inl (0, [sx_ri 0 40, sx_ri 0 40]))
def sch_40 : sx_H := ([none, none, none, none, none, none, none, some sc_9, none, none, none, some sc_10, none, some sc_12, none, some sc_26, none, none, none, none, none, none, none, none, none, none, none, none, none, none, none, none, none, none, none, none, none, none, none, none, none, none, none, none, none, none, none, none, none, none, none, none, none, none, some sc_40, some sc_41, some sc_42], [])
/-- X4_firstWrong  -/
def ka_58 : sx_K := (39, ([sx_va [54], sx_ri 0 0, sx_va [7], sx_va [15]], sch_40, []), [], [([sx_ri (-1) 39], sch_40, [])], false)
def kan_58 : List sx_N := [(21, [some (sx_va [54]), some (sx_ri 0 0), some (sx_va [7]), some (sx_va [15]), some (sx_ri 0 2), some (sx_ri 0 30), some (sx_ri 0 40), none, none], sch_40, [], (40, [((-1), (0, 6, 0))]))]
theorem kac_58 : sx_chk [ka_19] [] 6000 ka_58 kan_58 = true := by decide +kernel
theorem kah_58 (Q : List ik_E → Prop) : sx_hd Q ka_58 := sx_chk_ok (sx_h1 (kah_19 Q) sx_h0) (fun u => nomatch u) kac_58
/-- X4_firstWrong  -/
def ka_59 : sx_K := (39, ([sx_va [54], sx_ri 1 1, sx_va [7], sx_va [15]], sch_40, []), [], [([sx_ri (-1) 39], sch_40, [])], false)
def kan_59 : List sx_N := [(21, [some (sx_va [54]), some (sx_ri 1 1), some (sx_va [7]), some (sx_va [15]), some (sx_ri 0 2), some (sx_ri 0 30), some (sx_ri 0 40), none, none], sch_40, [], (40, [((-1), (0, 6, 0))]))]
theorem kac_59 : sx_chk [ka_19] [] 6000 ka_59 kan_59 = true := by decide +kernel
theorem kah_59 (Q : List ik_E → Prop) : sx_hd Q ka_59 := sx_chk_ok (sx_h1 (kah_19 Q) sx_h0) (fun u => nomatch u) kac_59
def sc_43 : sx_C := .inl (7, [sx_va [7], sx_ri 0 0, sx_va [52], sx_va [53]])
def sch_41 : sx_H := ([none, none, none, none, none, none, none, none, none, none, none, none, none, none, none, none, none, none, none, none, none, none, none, none, none, none, none, none, none, none, none, none, none, none, none, none, none, none, none, none, none, none, none, none, none, none, none, none, none, none, none, some sc_43], [])
/-- X7_fitAsItIs  -/
def ka_60 : sx_K := (70, ([sx_va [51], sx_va [21, 25, 29, 33, 37, 41]], sch_41, []), [], [([sx_ri 1000000000 1000000000], sch_41, [])], false)
def kan_60 : List sx_N := []
theorem kac_60 : sx_chk [] [] 6000 ka_60 kan_60 = true := by decide +kernel
theorem kah_60 (Q : List ik_E → Prop) : sx_hd Q ka_60 := sx_chk_ok sx_h0 (fun u => nomatch u) kac_60
def sc_44 : sx_C := .inl (0, [sx_ri 0 0, sx_ri (-2147483648) 2147483647, sx_ri (-2147483648) 2147483647, sx_va [8], sx_va [9], sx_va [10], sx_va [11], sx_va [12], sx_va [13]])
def sch_42 : sx_H := ([none, none, none, none, none, none, none, some sc_44, none, none, none, none, none, none, none, none, none, none, none, none, none, none, none, none, none, none, none, none, none, none, none, none, none, none, none, none, none, none, none, none, none, none, none, none, none, none, none, none, none, none, none, some sc_43], [])
/-- X7_findStone  -/
def ka_61 : sx_K := (72, ([sx_va [51], sx_va [21, 25, 29, 33, 37, 41]], sch_42, []), [], [([sx_ri (-1) (-1)], sch_42, [])], false)
def kan_61 : List sx_N := []
theorem kac_61 : sx_chk [ka_56, ka_60] [] 6000 ka_61 kan_61 = true := by decide +kernel
theorem kah_61 (Q : List ik_E → Prop) : sx_hd Q ka_61 := sx_chk_ok (sx_h1 (kah_56 Q) (sx_h1 (kah_60 Q) sx_h0)) (fun u => nomatch u) kac_61
def sc_45 : sx_C := .inl (9, [sx_va [1], sx_va [7], sx_va [14], sx_va [17], sx_va [45], sx_va [51], sx_va [54], sx_va [57]])
def sch_43 : sx_H := ([some sc_45, some sc_0, some sc_1], [])
/-- X9_feed A -/
def ka_62 : sx_K := (90, ([sx_va [0], sx_ri (-2147483648) 2147483647, sx_rl (-9223372036854775808) 9223372036854775807], sch_43, []), [(1, [1]), (2, [9999])], [([sx_ri (-1000000004) 500], sch_43, [])], false)
def kan_62 : List sx_N := []
theorem kac_62 : sx_chk [] [] 6000 ka_62 kan_62 = true := by decide +kernel
theorem kah_62 (Q : List ik_E → Prop) : sx_hd Q ka_62 := sx_chk_ok sx_h0 (fun u => nomatch u) kac_62
/-- X9_feed B -/
def ka_63 : sx_K := (90, ([sx_va [0], sx_ri (-2147483648) 2147483647, sx_rl (-9223372036854775808) 9223372036854775807], sch_43, []), [(1, [1]), (2, [9999])], [([sx_ri (-1000000004) 500], sch_43, [])], false)
def kan_63 : List sx_N := []
theorem kac_63 : sx_chk [] [] 6000 ka_63 kan_63 = true := by decide +kernel
theorem kah_63 (Q : List ik_E → Prop) : sx_hd Q ka_63 := sx_chk_ok sx_h0 (fun u => nomatch u) kac_63
def sc_46 : sx_C := .inr (.inl (7, [sx_va [58], sx_va [62]]))
def sc_47 : sx_C := .inl (3, [sx_ri 0 1, sx_va [59], sx_va [60], sx_ri (-2147483648) 2147483647, sx_rl (-9223372036854775808) 9223372036854775807, sx_ri (-2147483648) 2147483647, sx_va [61]])
def sc_48 : sx_C := .inl (3, [sx_ri 0 1, sx_va [63], sx_va [64], sx_ri (-2147483648) 2147483647, sx_rl (-9223372036854775808) 9223372036854775807, sx_ri (-2147483648) 2147483647, sx_va [65]])
def sch_44 : sx_H := ([some sc_45, some sc_0, some sc_1, some sc_5, some sc_3, some sc_4, some sc_4, some sc_13, some sc_5, some sc_3, some sc_4, some sc_10, some sc_11, some sc_12, some sc_32, some sc_26, some sc_33, none, none, none, none, none, none, none, none, none, none, none, none, none, none, none, none, none, none, none, none, none, none, none, none, none, none, none, none, none, none, none, none, none, none, some sc_37, none, none, some sc_40, none, some sc_42, some sc_46, some sc_47, none, none, none, some sc_48], [])
def sch_45 : sx_H := ([some sc_45, some sc_0, some sc_1, some sc_5, some sc_3, some sc_4, some sc_4, some sc_44, some sc_5, some sc_3, some sc_4, some sc_10, some sc_11, some sc_12, some sc_32, some sc_26, some sc_33, none, none, none, none, none, none, none, none, none, none, none, none, none, none, none, none, none, none, none, none, none, none, none, none, none, none, none, none, none, none, none, none, none, none, some sc_43, none, none, some sc_40, none, some sc_42, some sc_46, some sc_47, none, none, none, some sc_48], [])
/-- X9_stream A -/
def ka_64 : sx_K := (91, ([sx_va [0]], sch_44, []), [(1, [1, 2, 3, 4, 5]), (3, [9999]), (4, [9999]), (5, [9999]), (6, [9999]), (7, [0, 1, 2]), (8, [9999]), (9, [9999]), (10, [9999]), (11, [9999]), (12, [9999]), (13, [9999]), (14, [3]), (15, [0, 1, 2, 3, 4, 5]), (16, [0, 1]), (51, [1]), (56, [0, 1]), (58, [0]), (62, [0])], [([sx_ri (-2147483648) 2147483647], sch_44, []), ([sx_ri 0 0], sch_45, [])], false)
def kan_64 : List sx_N := []
theorem kac_64 : sx_chk [ka_10, ka_15, ka_37] [(91, 84)] 6000 ka_64 kan_64 = true := by decide +kernel
theorem kah_64 (Q : List ik_E → Prop) : sx_hd Q ka_64 := sx_chk_ok (sx_h1 (kah_10 Q) (sx_h1 (kah_15 Q) (sx_h1 (kah_37 Q) sx_h0))) (fun u => nomatch u) kac_64
/-- X9_stream B -/
def ka_65 : sx_K := (91, ([sx_va [0]], sch_45, []), [(1, [1, 2, 3, 4, 5]), (3, [9999]), (4, [9999]), (5, [9999]), (6, [9999]), (7, [0, 1, 2]), (8, [9999]), (9, [9999]), (10, [9999]), (11, [9999]), (12, [9999]), (13, [9999]), (14, [3]), (15, [0, 1, 2, 3, 4, 5]), (16, [0, 1]), (51, [1]), (56, [0, 1]), (58, [0]), (62, [0])], [([sx_ri 1 12], sch_44, []), ([sx_ri (-2147483648) 2147483647], sch_45, [])], false)
def kan_65 : List sx_N := []
theorem kac_65 : sx_chk [ka_10, ka_15, ka_37] [(91, 84)] 6000 ka_65 kan_65 = true := by decide +kernel
theorem kah_65 (Q : List ik_E → Prop) : sx_hd Q ka_65 := sx_chk_ok (sx_h1 (kah_10 Q) (sx_h1 (kah_15 Q) (sx_h1 (kah_37 Q) sx_h0))) (fun u => nomatch u) kac_65
