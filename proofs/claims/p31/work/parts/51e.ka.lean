/-! contracts of the class, checked (written by wip/sx/pub2.py) -/
def sch_36 : sx_H := [none, none, none, none, none, none, none, none, none, none, none, none, none, none, none, none, none, none, none, none, none, none, none, none, none, none, none, none, none, none, none, none, none, none, none, none, none, none, none, none, none, none, none, none, none, some sc_35, some sc_29, none, some sc_36, none, none, none, none, none, none, none, none, none, none, none, none, none, none, none, none, none, none, none, none, none, none, none, none, none, none, none, none, none, none, none, none, none, none, none, none, none, none, none, none, none, none, none, none, none]
/-- X5_worthBy  -/
def ka_46 : sx_K := (52, ([sx_va [45], sx_ri 0 0, sx_ri 0 2], sch_36, []), [], [([sx_rl (-9223372036854775808) 9223372036854775807], sch_36, [])], false)
def kan_46 : List sx_N := []
theorem kac_46 : sx_chk [] [] 6000 ka_46 kan_46 = true := by decide +kernel
theorem kah_46 (Q : List ik_E → Prop) : sx_hd Q ka_46 := sx_chk_ok sx_h0 (fun u => nomatch u) kac_46
/-- X5_fillBoard  -/
def ka_47 : sx_K := (47, ([sx_va [45], sx_ri 1 1, sx_ri (-2147483648) 2147483647, sx_ri (-2147483648) 2147483647, sx_ri 1 3], sch_32, []), [(47, [9999])], [([], sch_32, [])], false)
def kan_47 : List sx_N := [(6, [some (sx_va [45]), some (sx_ri 1 1), some (sx_ri (-2147483648) 2147483647), some (sx_ri (-2147483648) 2147483647), some (sx_ri 1 3), some (sx_ri 0 3), some (sx_ri 0 3), none, none], sch_32, [(0, [(1, (0, 6, 0)), ((-1), (0, 5, 0))])], (3, [((-1), (0, 6, 0))]))]
theorem kac_47 : sx_chk [] [] 6000 ka_47 kan_47 = true := by decide +kernel
theorem kah_47 (Q : List ik_E → Prop) : sx_hd Q ka_47 := sx_chk_ok sx_h0 (fun u => nomatch u) kac_47
/-- X5_makePositive  -/
def ka_48 : sx_K := (48, ([sx_va [45], sx_ri 1 1], sch_34, []), [(48, [9999]), (49, [1]), (50, [1])], [([sx_ri 0 1], sch_34, [])], false)
def kan_48 : List sx_N := []
theorem kac_48 : sx_chk [] [] 6000 ka_48 kan_48 = true := by decide +kernel
theorem kah_48 (Q : List ik_E → Prop) : sx_hd Q ka_48 := sx_chk_ok sx_h0 (fun u => nomatch u) kac_48
/-- X5_solve  -/
def ka_49 : sx_K := (46, ([sx_va [45], sx_ri 1 1, sx_ri (-2147483648) 2147483647, sx_ri (-2147483648) 2147483647, sx_ri 1 3], sch_35, []), [(47, [9999]), (48, [9999]), (49, [1]), (50, [1])], [([sx_ri 0 1], sch_35, [])], false)
def kan_49 : List sx_N := []
theorem kac_49 : sx_chk [ka_42, ka_43, ka_44, ka_47, ka_48] [] 6000 ka_49 kan_49 = true := by decide +kernel
theorem kah_49 (Q : List ik_E → Prop) : sx_hd Q ka_49 := sx_chk_ok (sx_h1 (kah_42 Q) (sx_h1 (kah_43 Q) (sx_h1 (kah_44 Q) (sx_h1 (kah_47 Q) (sx_h1 (kah_48 Q) sx_h0))))) (fun u => nomatch u) kac_49
/-- X5_worthBy  -/
def ka_50 : sx_K := (52, ([sx_va [45], sx_ri 1 1, sx_ri 0 2], sch_36, []), [], [([sx_rl (-9223372036854775808) 9223372036854775807], sch_36, [])], false)
def kan_50 : List sx_N := []
theorem kac_50 : sx_chk [] [] 6000 ka_50 kan_50 = true := by decide +kernel
theorem kah_50 (Q : List ik_E → Prop) : sx_hd Q ka_50 := sx_chk_ok sx_h0 (fun u => nomatch u) kac_50
def sch_37 : sx_H := [none, none, none, none, none, none, none, none, none, none, none, none, none, none, none, none, none, none, none, none, none, none, none, none, none, none, none, none, none, none, none, none, none, none, none, none, none, none, none, none, none, none, none, none, none, some sc_35, some sc_29, none, some sc_36, none, some sc_24, none, none, none, none, none, none, none, none, none, none, none, none, none, none, none, none, none, none, none, none, none, none, none, none, none, none, none, none, none, none, none, none, none, none, none, none, none, none, none, none, none, none, none]
/-- X5_noneIsBetter  -/
def ka_51 : sx_K := (51, ([sx_va [45], sx_ri (-2147483648) 2147483647, sx_ri (-2147483648) 2147483647, sx_ri 1 3], sch_37, []), [], [([sx_ri 0 1], sch_37, [])], false)
def kan_51 : List sx_N := [(3, [some (sx_va [45]), some (sx_ri (-2147483648) 2147483647), some (sx_ri (-2147483648) 2147483647), some (sx_ri 1 3), some (sx_ri 0 3)], sch_37, [], (3, [((-1), (0, 4, 0))]))]
theorem kac_51 : sx_chk [ka_46, ka_50] [] 6000 ka_51 kan_51 = true := by decide +kernel
theorem kah_51 (Q : List ik_E → Prop) : sx_hd Q ka_51 := sx_chk_ok (sx_h1 (kah_46 Q) (sx_h1 (kah_50 Q) sx_h0)) (fun u => nomatch u) kac_51
/-- X5_fits  -/
def ka_52 : sx_K := (44, ([sx_va [45], sx_ri (-2147483648) 2147483647, sx_ri (-2147483648) 2147483647, sx_ri 1 3, sx_ri 1 3], sch_35, []), [(47, [9999]), (48, [9999]), (49, [0, 1]), (50, [0, 1])], [([sx_ri 0 1], sch_35, [])], false)
def kan_52 : List sx_N := []
theorem kac_52 : sx_chk [ka_45, ka_49, ka_51] [] 6000 ka_52 kan_52 = true := by decide +kernel
theorem kah_52 (Q : List ik_E → Prop) : sx_hd Q ka_52 := sx_chk_ok (sx_h1 (kah_45 Q) (sx_h1 (kah_49 Q) (sx_h1 (kah_51 Q) sx_h0))) (fun u => nomatch u) kac_52
/-- X5_findPair  -/
def ka_53 : sx_K := (43, ([sx_va [45], sx_ri 1 1], sch_35, []), [(47, [9999]), (48, [9999]), (49, [0, 1]), (50, [0, 1])], [([sx_ri 0 1], sch_35, [])], false)
def kan_53 : List sx_N := [(6, [some (sx_va [45]), some (sx_ri 1 1), some (sx_ri 2 2), some (sx_ri 1 2), none, none], sch_35, [], (4999999, [((-1000000), (0, 3, 0))])), (14, [some (sx_va [45]), some (sx_ri 1 1), some (sx_ri 2 2), some (sx_ri 1 1), some (sx_ri 1 2), none], sch_35, [], (4008999, [((-1000000), (0, 3, 0)), ((-1000), (0, 4, 0))])), (23, [some (sx_va [45]), some (sx_ri 1 1), some (sx_ri 2 2), some (sx_ri 1 1), some (sx_ri 1 1), some (sx_ri 1 2)], sch_35, [], (4008008, [((-1000000), (0, 3, 0)), ((-1000), (0, 4, 0)), ((-1), (0, 5, 0))]))]
theorem kac_53 : sx_chk [ka_52] [] 6000 ka_53 kan_53 = true := by decide +kernel
theorem kah_53 (Q : List ik_E → Prop) : sx_hd Q ka_53 := sx_chk_ok (sx_h1 (kah_52 Q) sx_h0) (fun u => nomatch u) kac_53
/-- X5_findPair  -/
def ka_54 : sx_K := (43, ([sx_va [45], sx_ri 2 2], sch_35, []), [(47, [9999]), (48, [9999]), (49, [0, 1]), (50, [0, 1])], [([sx_ri 0 1], sch_35, [])], false)
def kan_54 : List sx_N := [(6, [some (sx_va [45]), some (sx_ri 2 2), some (sx_ri 4 4), some (sx_ri 1 3), none, none], sch_35, [], (4999999, [((-1000000), (0, 3, 0))])), (14, [some (sx_va [45]), some (sx_ri 2 2), some (sx_ri 4 4), some (sx_ri 1 2), some (sx_ri 1 4), none], sch_35, [], (4008999, [((-1000000), (0, 3, 0)), ((-1000), (0, 4, 0))])), (23, [some (sx_va [45]), some (sx_ri 2 2), some (sx_ri 4 4), some (sx_ri 1 2), some (sx_ri 1 3), some (sx_ri 1 4)], sch_35, [], (4008008, [((-1000000), (0, 3, 0)), ((-1000), (0, 4, 0)), ((-1), (0, 5, 0))]))]
theorem kac_54 : sx_chk [ka_52] [] 6000 ka_54 kan_54 = true := by decide +kernel
theorem kah_54 (Q : List ik_E → Prop) : sx_hd Q ka_54 := sx_chk_ok (sx_h1 (kah_52 Q) sx_h0) (fun u => nomatch u) kac_54
/-- X5_findPair  -/
def ka_55 : sx_K := (43, ([sx_va [45], sx_ri 3 3], sch_35, []), [(47, [9999]), (48, [9999]), (49, [0, 1]), (50, [0, 1])], [([sx_ri 0 1], sch_35, [])], false)
def kan_55 : List sx_N := [(6, [some (sx_va [45]), some (sx_ri 3 3), some (sx_ri 8 8), some (sx_ri 1 4), none, none], sch_35, [], (4999999, [((-1000000), (0, 3, 0))])), (14, [some (sx_va [45]), some (sx_ri 3 3), some (sx_ri 8 8), some (sx_ri 1 3), some (sx_ri 1 8), none], sch_35, [], (4008999, [((-1000000), (0, 3, 0)), ((-1000), (0, 4, 0))])), (23, [some (sx_va [45]), some (sx_ri 3 3), some (sx_ri 8 8), some (sx_ri 1 3), some (sx_ri 1 7), some (sx_ri 1 8)], sch_35, [], (4008008, [((-1000000), (0, 3, 0)), ((-1000), (0, 4, 0)), ((-1), (0, 5, 0))]))]
theorem kac_55 : sx_chk [ka_52] [] 6000 ka_55 kan_55 = true := by decide +kernel
theorem kah_55 (Q : List ik_E → Prop) : sx_hd Q ka_55 := sx_chk_ok (sx_h1 (kah_52 Q) sx_h0) (fun u => nomatch u) kac_55
def sc_37 : sx_C := .inl (7, [sx_va [7], sx_ri 0 12, sx_va [52], sx_va [53]])
def sc_38 : sx_C := .inr (.inr (0, 12, 0, 11))
def sc_39 : sx_C := .inr (.inr (0, 12, 0, 200))
def sch_38 : sx_H := [none, none, none, none, none, none, none, some sc_13, none, none, none, some sc_10, some sc_11, some sc_12, none, none, none, none, none, none, none, some sc_16, some sc_17, some sc_15, some sc_15, some sc_18, some sc_17, some sc_15, some sc_15, some sc_19, some sc_17, some sc_15, some sc_15, some sc_20, some sc_17, some sc_15, some sc_15, some sc_21, some sc_17, some sc_15, some sc_15, some sc_22, some sc_17, some sc_15, some sc_15, none, none, none, none, none, none, some sc_37, some sc_38, some sc_39, none, none, none, none, none, none, none, none, none, none, none, none, none, none, none, none, none, none, none, none, none, none, none, none, none, none, none, none, none, none, none, none, none, none, none, none, none, none, none, none]
/-- X7_fitAsItIs  -/
def ka_56 : sx_K := (70, ([sx_va [51], sx_va [21, 25, 29, 33, 37, 41]], sch_38, []), [(21, [1, 2, 4, 5]), (22, [9999]), (23, [9999]), (24, [9999]), (25, [1, 2, 4, 5]), (26, [9999]), (27, [9999]), (28, [9999]), (29, [1, 2, 4, 5]), (30, [9999]), (31, [9999]), (32, [9999]), (33, [1, 2, 4, 5]), (34, [9999]), (35, [9999]), (36, [9999]), (37, [1, 2, 4, 5]), (38, [9999]), (39, [9999]), (40, [9999]), (41, [1, 2, 4, 5]), (42, [9999]), (43, [9999]), (44, [9999])], [([sx_ri (-2147483648) 2147483647], sch_38, [])], false)
def kan_56 : List sx_N := [(7, [some (sx_va [51]), some (sx_va [21, 25, 29, 33, 37, 41]), some (sx_rl 1 9223372036854775807), none, some (sx_ri 0 12), none, none], sch_38, [], (12, [((-1), (0, 4, 0))]))]
theorem kac_56 : sx_chk [ka_21, ka_22] [] 6000 ka_56 kan_56 = true := by decide +kernel
theorem kah_56 (Q : List ik_E → Prop) : sx_hd Q ka_56 := sx_chk_ok (sx_h1 (kah_21 Q) (sx_h1 (kah_22 Q) sx_h0)) (fun u => nomatch u) kac_56
def sch_39 : sx_H := [none, none, none, none, none, none, none, some sc_13, some sc_5, some sc_3, some sc_4, some sc_10, some sc_11, some sc_12, none, none, none, none, none, none, none, some sc_16, some sc_17, some sc_15, some sc_15, some sc_18, some sc_17, some sc_15, some sc_15, some sc_19, some sc_17, some sc_15, some sc_15, some sc_20, some sc_17, some sc_15, some sc_15, some sc_21, some sc_17, some sc_15, some sc_15, some sc_22, some sc_17, some sc_15, some sc_15, none, none, none, none, none, none, some sc_37, some sc_38, some sc_39, none, none, none, none, none, none, none, none, none, none, none, none, none, none, none, none, none, none, none, none, none, none, none, none, none, none, none, none, none, none, none, none, none, none, none, none, none, none, none, none]
/-- X7_findStone  -/
def ka_57 : sx_K := (72, ([sx_va [51], sx_va [21, 25, 29, 33, 37, 41]], sch_39, []), [(7, [1]), (11, [9999]), (12, [9999]), (13, [9999]), (21, [1, 2, 4, 5]), (22, [9999]), (23, [9999]), (24, [9999]), (25, [1, 2, 4, 5]), (26, [9999]), (27, [9999]), (28, [9999]), (29, [1, 2, 4, 5]), (30, [9999]), (31, [9999]), (32, [9999]), (33, [1, 2, 4, 5]), (34, [9999]), (35, [9999]), (36, [9999]), (37, [1, 2, 4, 5]), (38, [9999]), (39, [9999]), (40, [9999]), (41, [1, 2, 4, 5]), (42, [9999]), (43, [9999]), (44, [9999])], [([sx_ri (-1) 10], sch_39, [])], false)
def kan_57 : List sx_N := [(11, [some (sx_va [51]), some (sx_va [21, 25, 29, 33, 37, 41]), some (sx_ri (-2147483648) 2147483647), some (sx_ri (-1) 10), some (sx_ri 0 11), none], sch_39, [], (12, [((-1), (0, 4, 0))]))]
theorem kac_57 : sx_chk [ka_32, ka_56] [] 6000 ka_57 kan_57 = true := by decide +kernel
theorem kah_57 (Q : List ik_E → Prop) : sx_hd Q ka_57 := sx_chk_ok (sx_h1 (kah_32 Q) (sx_h1 (kah_56 Q) sx_h0)) (fun u => nomatch u) kac_57
def sc_40 : sx_C := .inl (4, [sx_va [55], sx_va [56]])
def sc_41 : sx_C := .inr (.inr (0, 80, 0, 12))
def sc_42 : sx_C := .inr (.inl (0, [sx_ri 0 40, sx_ri 0 40]))
def sch_40 : sx_H := [none, none, none, none, none, none, none, some sc_9, none, none, none, some sc_10, none, some sc_12, none, some sc_26, none, none, none, none, none, none, none, none, none, none, none, none, none, none, none, none, none, none, none, none, none, none, none, none, none, none, none, none, none, none, none, none, none, none, none, none, none, none, some sc_40, some sc_41, some sc_42, none, none, none, none, none, none, none, none, none, none, none, none, none, none, none, none, none, none, none, none, none, none, none, none, none, none, none, none, none, none, none, none, none, none, none, none, none]
/-- X4_firstWrong  -/
def ka_58 : sx_K := (39, ([sx_va [54], sx_ri 0 0, sx_va [7], sx_va [15]], sch_40, []), [], [([sx_ri (-1) 39], sch_40, [])], false)
def kan_58 : List sx_N := [(21, [some (sx_va [54]), some (sx_ri 0 0), some (sx_va [7]), some (sx_va [15]), some (sx_ri 0 2), some (sx_ri 0 30), some (sx_ri 0 40), none, none], sch_40, [], (40, [((-1), (0, 6, 0))]))]
theorem kac_58 : sx_chk [ka_19] [] 6000 ka_58 kan_58 = true := by decide +kernel
theorem kah_58 (Q : List ik_E → Prop) : sx_hd Q ka_58 := sx_chk_ok (sx_h1 (kah_19 Q) sx_h0) (fun u => nomatch u) kac_58
