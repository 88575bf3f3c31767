/-! contracts of the class, checked (written by wip/sx/pub2.py) -/
def sch_46 : sx_H := ([some sc_45, some sc_0], [])
/-- X9_fault A -/
def ka_66 : sx_K := (92, ([sx_va [0]], sch_46, []), [], [([sx_ri (-2147483648) 2147483647], sch_46, [])], false)
def kan_66 : List sx_N := []
theorem kac_66 : sx_chk [] [] 6000 ka_66 kan_66 = true := by decide +kernel
theorem kah_66 (Q : List ik_E → Prop) : sx_hd Q ka_66 := sx_chk_ok sx_h0 (fun u => nomatch u) kac_66
/-- X9_fault B -/
def ka_67 : sx_K := (92, ([sx_va [0]], sch_46, []), [], [([sx_ri (-2147483648) 2147483647], sch_46, [])], false)
def kan_67 : List sx_N := []
theorem kac_67 : sx_chk [] [] 6000 ka_67 kan_67 = true := by decide +kernel
theorem kah_67 (Q : List ik_E → Prop) : sx_hd Q ka_67 := sx_chk_ok sx_h0 (fun u => nomatch u) kac_67
def sch_47 : sx_H := ([some sc_45, some sc_0, none, none, none, none, none, some sc_13, none, none, none, none, none, none, some sc_32, none, none, none, none, none, none, none, none, none, none, none, none, none, none, none, none, none, none, none, none, none, none, none, none, none, none, none, none, none, none, none, none, none, none, none, none, some sc_37, none, none, some sc_40, none, some sc_42], [])
/-- X9_told A -/
def ka_68 : sx_K := (93, ([sx_va [0], sx_ri (-2147483648) 2147483647], sch_47, []), [], [([sx_ri (-2147483648) 2147483647], sch_47, [])], false)
def kan_68 : List sx_N := []
theorem kac_68 : sx_chk [] [] 6000 ka_68 kan_68 = true := by decide +kernel
theorem kah_68 (Q : List ik_E → Prop) : sx_hd Q ka_68 := sx_chk_ok sx_h0 (fun u => nomatch u) kac_68
def sch_48 : sx_H := ([some sc_45, some sc_0, none, none, none, none, none, some sc_44, none, none, none, none, none, none, some sc_32, none, none, none, none, none, none, none, none, none, none, none, none, none, none, none, none, none, none, none, none, none, none, none, none, none, none, none, none, none, none, none, none, none, none, none, none, some sc_43, none, none, some sc_40, none, some sc_42], [])
/-- X9_told B -/
def ka_69 : sx_K := (93, ([sx_va [0], sx_ri (-2147483648) 2147483647], sch_48, []), [], [([sx_ri (-2147483648) 2147483647], sch_48, [])], false)
def kan_69 : List sx_N := []
theorem kac_69 : sx_chk [] [] 6000 ka_69 kan_69 = true := by decide +kernel
theorem kah_69 (Q : List ik_E → Prop) : sx_hd Q ka_69 := sx_chk_ok sx_h0 (fun u => nomatch u) kac_69
def sch_49 : sx_H := ([some sc_45, none, none, none, none, none, none, some sc_13, some sc_5, some sc_3, some sc_4], [])
/-- X9_move A -/
def ka_70 : sx_K := (94, ([sx_va [0], sx_ri (-2147483648) 2147483647, sx_ri (-2147483648) 2147483647, sx_ri (-2147483648) 2147483647], sch_49, []), [], [([sx_ri (-2147483648) 2147483647], sch_49, [])], false)
def kan_70 : List sx_N := []
theorem kac_70 : sx_chk [] [] 6000 ka_70 kan_70 = true := by decide +kernel
theorem kah_70 (Q : List ik_E → Prop) : sx_hd Q ka_70 := sx_chk_ok sx_h0 (fun u => nomatch u) kac_70
def sch_50 : sx_H := ([some sc_45, none, none, none, none, none, none, some sc_44], [])
/-- X9_move B -/
def ka_71 : sx_K := (94, ([sx_va [0], sx_ri (-2147483648) 2147483647, sx_ri (-2147483648) 2147483647, sx_ri (-2147483648) 2147483647], sch_50, []), [], [([sx_ri (-1000000001) (-1000000001)], sch_50, [])], false)
def kan_71 : List sx_N := []
theorem kac_71 : sx_chk [] [] 6000 ka_71 kan_71 = true := by decide +kernel
theorem kah_71 (Q : List ik_E → Prop) : sx_hd Q ka_71 := sx_chk_ok sx_h0 (fun u => nomatch u) kac_71
def sch_51 : sx_H := ([some sc_45, none, none, none, none, none, none, some sc_13, none, none, none, none, none, none, some sc_32, some sc_26, some sc_33], [])
/-- X9_cork A -/
def ka_72 : sx_K := (95, ([sx_va [0], sx_ri (-2147483648) 2147483647, sx_ri (-2147483648) 2147483647, sx_ri (-2147483648) 2147483647], sch_51, []), [(14, [3]), (15, [0, 1, 2, 3, 4, 5]), (16, [0, 1])], [([sx_ri (-1000000003) 30], sch_51, [])], false)
def kan_72 : List sx_N := []
theorem kac_72 : sx_chk [ka_37] [(95, 8)] 6000 ka_72 kan_72 = true := by decide +kernel
theorem kah_72 (Q : List ik_E → Prop) : sx_hd Q ka_72 := sx_chk_ok (sx_h1 (kah_37 Q) sx_h0) (fun u => nomatch u) kac_72
/-- X9_cork B -/
def ka_73 : sx_K := (95, ([sx_va [0], sx_ri (-2147483648) 2147483647, sx_ri (-2147483648) 2147483647, sx_ri (-2147483648) 2147483647], sch_50, []), [], [([sx_ri (-1000000003) (-1000000001)], sch_50, [])], false)
def kan_73 : List sx_N := []
theorem kac_73 : sx_chk [] [(95, 8)] 6000 ka_73 kan_73 = true := by decide +kernel
theorem kah_73 (Q : List ik_E → Prop) : sx_hd Q ka_73 := sx_chk_ok sx_h0 (fun u => nomatch u) kac_73
def sch_52 : sx_H := ([some sc_45, none, none, none, none, none, none, some sc_13, none, none, none, some sc_10, some sc_11, some sc_12, none, none, none, some sc_23, some sc_25, none, none, some sc_16, some sc_17, some sc_15, some sc_15, some sc_18, some sc_17, some sc_15, some sc_15, some sc_19, some sc_17, some sc_15, some sc_15, some sc_20, some sc_17, some sc_15, some sc_15, some sc_21, some sc_17, some sc_15, some sc_15, some sc_22, some sc_17, some sc_15, some sc_15], [])
/-- X9_comes A -/
def ka_74 : sx_K := (96, ([sx_va [0], sx_ri (-2147483648) 2147483647, sx_ri (-2147483648) 2147483647, sx_ri (-2147483648) 2147483647], sch_52, []), [(21, [1, 2, 4, 5]), (22, [9999]), (23, [9999]), (24, [9999]), (25, [1, 2, 4, 5]), (26, [9999]), (27, [9999]), (28, [9999]), (29, [1, 2, 4, 5]), (30, [9999]), (31, [9999]), (32, [9999]), (33, [1, 2, 4, 5]), (34, [9999]), (35, [9999]), (36, [9999]), (37, [1, 2, 4, 5]), (38, [9999]), (39, [9999]), (40, [9999]), (41, [1, 2, 4, 5]), (42, [9999]), (43, [9999]), (44, [9999])], [([sx_ri (-2147483648) 2147483647], sch_52, [])], false)
def kan_74 : List sx_N := []
theorem kac_74 : sx_chk [ka_21, ka_22] [] 6000 ka_74 kan_74 = true := by decide +kernel
theorem kah_74 (Q : List ik_E → Prop) : sx_hd Q ka_74 := sx_chk_ok (sx_h1 (kah_21 Q) (sx_h1 (kah_22 Q) sx_h0)) (fun u => nomatch u) kac_74
/-- X9_comes B -/
def ka_75 : sx_K := (96, ([sx_va [0], sx_ri (-2147483648) 2147483647, sx_ri (-2147483648) 2147483647, sx_ri (-2147483648) 2147483647], sch_50, []), [], [([sx_ri (-1000000001) (-1000000001)], sch_50, [])], false)
def kan_75 : List sx_N := []
theorem kac_75 : sx_chk [] [] 6000 ka_75 kan_75 = true := by decide +kernel
theorem kah_75 (Q : List ik_E → Prop) : sx_hd Q ka_75 := sx_chk_ok sx_h0 (fun u => nomatch u) kac_75
/-- X9_at A -/
def ka_76 : sx_K := (97, ([sx_va [0], sx_ri (-2147483648) 2147483647, sx_ri (-2147483648) 2147483647, sx_ri (-2147483648) 2147483647, sx_ri (-2147483648) 2147483647], sch_52, []), [(21, [1, 2, 4, 5]), (22, [9999]), (23, [9999]), (24, [9999]), (25, [1, 2, 4, 5]), (26, [9999]), (27, [9999]), (28, [9999]), (29, [1, 2, 4, 5]), (30, [9999]), (31, [9999]), (32, [9999]), (33, [1, 2, 4, 5]), (34, [9999]), (35, [9999]), (36, [9999]), (37, [1, 2, 4, 5]), (38, [9999]), (39, [9999]), (40, [9999]), (41, [1, 2, 4, 5]), (42, [9999]), (43, [9999]), (44, [9999])], [([sx_ri (-2147483648) 2147483647], sch_52, [])], false)
def kan_76 : List sx_N := []
theorem kac_76 : sx_chk [ka_21, ka_23] [] 6000 ka_76 kan_76 = true := by decide +kernel
theorem kah_76 (Q : List ik_E → Prop) : sx_hd Q ka_76 := sx_chk_ok (sx_h1 (kah_21 Q) (sx_h1 (kah_23 Q) sx_h0)) (fun u => nomatch u) kac_76
/-- X9_at B -/
def ka_77 : sx_K := (97, ([sx_va [0], sx_ri (-2147483648) 2147483647, sx_ri (-2147483648) 2147483647, sx_ri (-2147483648) 2147483647, sx_ri (-2147483648) 2147483647], sch_50, []), [], [([sx_ri (-1000000001) (-1000000001)], sch_50, [])], false)
def kan_77 : List sx_N := []
theorem kac_77 : sx_chk [] [] 6000 ka_77 kan_77 = true := by decide +kernel
theorem kah_77 (Q : List ik_E → Prop) : sx_hd Q ka_77 := sx_chk_ok sx_h0 (fun u => nomatch u) kac_77
/-- X9_kept A -/
def ka_78 : sx_K := (98, ([sx_va [0], sx_ri (-2147483648) 2147483647, sx_ri (-2147483648) 2147483647, sx_ri (-2147483648) 2147483647], sch_52, []), [(21, [1, 2, 4, 5]), (22, [9999]), (23, [9999]), (24, [9999]), (25, [1, 2, 4, 5]), (26, [9999]), (27, [9999]), (28, [9999]), (29, [1, 2, 4, 5]), (30, [9999]), (31, [9999]), (32, [9999]), (33, [1, 2, 4, 5]), (34, [9999]), (35, [9999]), (36, [9999]), (37, [1, 2, 4, 5]), (38, [9999]), (39, [9999]), (40, [9999]), (41, [1, 2, 4, 5]), (42, [9999]), (43, [9999]), (44, [9999])], [([sx_ri (-2147483648) 2147483647], sch_52, [])], false)
def kan_78 : List sx_N := []
theorem kac_78 : sx_chk [ka_21, ka_23] [] 6000 ka_78 kan_78 = true := by decide +kernel
theorem kah_78 (Q : List ik_E → Prop) : sx_hd Q ka_78 := sx_chk_ok (sx_h1 (kah_21 Q) (sx_h1 (kah_23 Q) sx_h0)) (fun u => nomatch u) kac_78
/-- X9_kept B -/
def ka_79 : sx_K := (98, ([sx_va [0], sx_ri (-2147483648) 2147483647, sx_ri (-2147483648) 2147483647, sx_ri (-2147483648) 2147483647], sch_50, []), [], [([sx_ri (-1000000001) (-1000000001)], sch_50, [])], false)
def kan_79 : List sx_N := []
theorem kac_79 : sx_chk [] [] 6000 ka_79 kan_79 = true := by decide +kernel
theorem kah_79 (Q : List ik_E → Prop) : sx_hd Q ka_79 := sx_chk_ok sx_h0 (fun u => nomatch u) kac_79
/-- X9_known A -/
def ka_80 : sx_K := (99, ([sx_va [0], sx_ri (-2147483648) 2147483647, sx_ri (-2147483648) 2147483647, sx_ri (-2147483648) 2147483647], sch_52, []), [(21, [1, 2, 4, 5]), (22, [9999]), (23, [9999]), (24, [9999]), (25, [1, 2, 4, 5]), (26, [9999]), (27, [9999]), (28, [9999]), (29, [1, 2, 4, 5]), (30, [9999]), (31, [9999]), (32, [9999]), (33, [1, 2, 4, 5]), (34, [9999]), (35, [9999]), (36, [9999]), (37, [1, 2, 4, 5]), (38, [9999]), (39, [9999]), (40, [9999]), (41, [1, 2, 4, 5]), (42, [9999]), (43, [9999]), (44, [9999])], [([sx_ri (-1000000002) 200], sch_52, [])], false)
def kan_80 : List sx_N := []
theorem kac_80 : sx_chk [ka_25] [] 6000 ka_80 kan_80 = true := by decide +kernel
theorem kah_80 (Q : List ik_E → Prop) : sx_hd Q ka_80 := sx_chk_ok (sx_h1 (kah_25 Q) sx_h0) (fun u => nomatch u) kac_80
/-- X9_known B -/
def ka_81 : sx_K := (99, ([sx_va [0], sx_ri (-2147483648) 2147483647, sx_ri (-2147483648) 2147483647, sx_ri (-2147483648) 2147483647], sch_50, []), [], [([sx_ri (-1000000001) (-1000000001)], sch_50, [])], false)
def kan_81 : List sx_N := []
theorem kac_81 : sx_chk [] [] 6000 ka_81 kan_81 = true := by decide +kernel
theorem kah_81 (Q : List ik_E → Prop) : sx_hd Q ka_81 := sx_chk_ok sx_h0 (fun u => nomatch u) kac_81
def sch_53 : sx_H := ([some sc_45, none, none, none, none, none, none, some sc_13, none, none, none, some sc_10, some sc_11, some sc_12, none, some sc_26, none, some sc_23, some sc_25, some sc_24, none, some sc_16, some sc_17, some sc_15, some sc_15, some sc_18, some sc_17, some sc_15, some sc_15, some sc_19, some sc_17, some sc_15, some sc_15, some sc_20, some sc_17, some sc_15, some sc_15, some sc_21, some sc_17, some sc_15, some sc_15, some sc_22, some sc_17, some sc_15, some sc_15], [])
/-- X9_later A -/
def ka_82 : sx_K := (100, ([sx_va [0], sx_ri (-2147483648) 2147483647], sch_53, []), [(17, [4]), (19, [0, 1]), (21, [1, 2, 4, 5]), (22, [9999]), (23, [9999]), (24, [9999]), (25, [1, 2, 4, 5]), (26, [9999]), (27, [9999]), (28, [9999]), (29, [1, 2, 4, 5]), (30, [9999]), (31, [9999]), (32, [9999]), (33, [1, 2, 4, 5]), (34, [9999]), (35, [9999]), (36, [9999]), (37, [1, 2, 4, 5]), (38, [9999]), (39, [9999]), (40, [9999]), (41, [1, 2, 4, 5]), (42, [9999]), (43, [9999]), (44, [9999])], [([sx_ri (-2147483648) 2147483647], sch_53, [])], false)
def kan_82 : List sx_N := []
theorem kac_82 : sx_chk [ka_26] [] 6000 ka_82 kan_82 = true := by decide +kernel
theorem kah_82 (Q : List ik_E → Prop) : sx_hd Q ka_82 := sx_chk_ok (sx_h1 (kah_26 Q) sx_h0) (fun u => nomatch u) kac_82
/-- X9_later B -/
def ka_83 : sx_K := (100, ([sx_va [0], sx_ri (-2147483648) 2147483647], sch_50, []), [], [([sx_ri (-1000000003) (-1000000002)], sch_50, [])], false)
def kan_83 : List sx_N := []
theorem kac_83 : sx_chk [] [] 6000 ka_83 kan_83 = true := by decide +kernel
theorem kah_83 (Q : List ik_E → Prop) : sx_hd Q ka_83 := sx_chk_ok sx_h0 (fun u => nomatch u) kac_83
def sch_54 : sx_H := ([some sc_45, none, none, none, none, none, none, some sc_13, none, none, none, some sc_10, some sc_11, some sc_12, none, some sc_26, none, some sc_23, some sc_25, some sc_24, some sc_27, some sc_16, some sc_17, some sc_15, some sc_15, some sc_18, some sc_17, some sc_15, some sc_15, some sc_19, some sc_17, some sc_15, some sc_15, some sc_20, some sc_17, some sc_15, some sc_15, some sc_21, some sc_17, some sc_15, some sc_15, some sc_22, some sc_17, some sc_15, some sc_15], [])
/-- X9_best A -/
def ka_84 : sx_K := (101, ([sx_va [0], sx_ri (-2147483648) 2147483647, sx_ri (-2147483648) 2147483647, sx_ri (-2147483648) 2147483647], sch_54, []), [(17, [4]), (19, [0, 1]), (20, [0, 1, 2, 3]), (21, [1, 2, 4, 5]), (22, [9999]), (23, [9999]), (24, [9999]), (25, [1, 2, 4, 5]), (26, [9999]), (27, [9999]), (28, [9999]), (29, [1, 2, 4, 5]), (30, [9999]), (31, [9999]), (32, [9999]), (33, [1, 2, 4, 5]), (34, [9999]), (35, [9999]), (36, [9999]), (37, [1, 2, 4, 5]), (38, [9999]), (39, [9999]), (40, [9999]), (41, [1, 2, 4, 5]), (42, [9999]), (43, [9999]), (44, [9999])], [([sx_ri (-2147483648) 2147483647], sch_54, [])], false)
def kan_84 : List sx_N := []
theorem kac_84 : sx_chk [ka_27, ka_28] [] 6000 ka_84 kan_84 = true := by decide +kernel
theorem kah_84 (Q : List ik_E → Prop) : sx_hd Q ka_84 := sx_chk_ok (sx_h1 (kah_27 Q) (sx_h1 (kah_28 Q) sx_h0)) (fun u => nomatch u) kac_84
/-- X9_best B -/
def ka_85 : sx_K := (101, ([sx_va [0], sx_ri (-2147483648) 2147483647, sx_ri (-2147483648) 2147483647, sx_ri (-2147483648) 2147483647], sch_50, []), [], [([sx_ri (-1000000003) (-1000000001)], sch_50, [])], false)
def kan_85 : List sx_N := []
theorem kac_85 : sx_chk [] [] 6000 ka_85 kan_85 = true := by decide +kernel
theorem kah_85 (Q : List ik_E → Prop) : sx_hd Q ka_85 := sx_chk_ok sx_h0 (fun u => nomatch u) kac_85
def sch_55 : sx_H := ([some sc_45, none, none, none, none, none, none, some sc_13, none, none, none, some sc_10, some sc_11, some sc_12, none, some sc_26, none, some sc_23, some sc_25, some sc_24, none, some sc_16, some sc_17, some sc_15, some sc_15, some sc_18, some sc_17, some sc_15, some sc_15, some sc_19, some sc_17, some sc_15, some sc_15, some sc_20, some sc_17, some sc_15, some sc_15, some sc_21, some sc_17, some sc_15, some sc_15, some sc_22, some sc_17, some sc_15, some sc_15, some sc_35, some sc_29, some sc_15, some sc_36, some sc_24, some sc_24], [])
/-- X9_mixed A -/
def ka_86 : sx_K := (102, ([sx_va [0], sx_ri (-2147483648) 2147483647, sx_ri (-2147483648) 2147483647, sx_ri (-2147483648) 2147483647], sch_55, []), [(17, [4]), (19, [0, 1]), (21, [1, 2, 4, 5]), (22, [9999]), (23, [9999]), (24, [9999]), (25, [1, 2, 4, 5]), (26, [9999]), (27, [9999]), (28, [9999]), (29, [1, 2, 4, 5]), (30, [9999]), (31, [9999]), (32, [9999]), (33, [1, 2, 4, 5]), (34, [9999]), (35, [9999]), (36, [9999]), (37, [1, 2, 4, 5]), (38, [9999]), (39, [9999]), (40, [9999]), (41, [1, 2, 4, 5]), (42, [9999]), (43, [9999]), (44, [9999]), (46, [9999]), (47, [9999]), (48, [9999]), (49, [0, 1]), (50, [0, 1])], [([sx_ri (-2147483648) 2147483647], sch_55, [])], false)
def kan_86 : List sx_N := []
theorem kac_86 : sx_chk [ka_29, ka_30, ka_31, ka_53, ka_54, ka_55] [(42, 5), (102, 28)] 6000 ka_86 kan_86 = true := by decide +kernel
theorem kah_86 (Q : List ik_E → Prop) : sx_hd Q ka_86 := sx_chk_ok (sx_h1 (kah_29 Q) (sx_h1 (kah_30 Q) (sx_h1 (kah_31 Q) (sx_h1 (kah_53 Q) (sx_h1 (kah_54 Q) (sx_h1 (kah_55 Q) sx_h0)))))) (fun u => nomatch u) kac_86
/-- X9_mixed B -/
def ka_87 : sx_K := (102, ([sx_va [0], sx_ri (-2147483648) 2147483647, sx_ri (-2147483648) 2147483647, sx_ri (-2147483648) 2147483647], sch_50, []), [], [([sx_ri (-1000000001) (-1000000001)], sch_50, [])], false)
def kan_87 : List sx_N := []
theorem kac_87 : sx_chk [] [(42, 5), (102, 28)] 6000 ka_87 kan_87 = true := by decide +kernel
theorem kah_87 (Q : List ik_E → Prop) : sx_hd Q ka_87 := sx_chk_ok sx_h0 (fun u => nomatch u) kac_87
def sch_56 : sx_H := ([some sc_45, none, none, none, none, none, none, some sc_13, some sc_5, some sc_3, some sc_4, some sc_10, some sc_11, some sc_12], [])
/-- X9_stone A -/
def ka_88 : sx_K := (103, ([sx_va [0], sx_ri (-2147483648) 2147483647, sx_ri 0 1], sch_56, []), [(7, [1]), (11, [9999]), (12, [9999]), (13, [9999])], [([sx_ri (-1000000001) 1], sch_56, [])], false)
def kan_88 : List sx_N := []
theorem kac_88 : sx_chk [ka_32] [] 6000 ka_88 kan_88 = true := by decide +kernel
theorem kah_88 (Q : List ik_E → Prop) : sx_hd Q ka_88 := sx_chk_ok (sx_h1 (kah_32 Q) sx_h0) (fun u => nomatch u) kac_88
/-- X9_stone B -/
def ka_89 : sx_K := (103, ([sx_va [0], sx_ri (-2147483648) 2147483647, sx_ri 0 1], sch_50, []), [], [([sx_ri (-1000000001) (-1000000001)], sch_50, [])], false)
def kan_89 : List sx_N := []
theorem kac_89 : sx_chk [] [] 6000 ka_89 kan_89 = true := by decide +kernel
theorem kah_89 (Q : List ik_E → Prop) : sx_hd Q ka_89 := sx_chk_ok sx_h0 (fun u => nomatch u) kac_89
def sch_57 : sx_H := ([some sc_45, none, none, none, none, none, none, some sc_13, some sc_5, some sc_3, some sc_4, some sc_10, some sc_11, some sc_12, none, some sc_26, none, some sc_23, some sc_25, some sc_24, some sc_27, some sc_16, some sc_17, some sc_15, some sc_15, some sc_18, some sc_17, some sc_15, some sc_15, some sc_19, some sc_17, some sc_15, some sc_15, some sc_20, some sc_17, some sc_15, some sc_15, some sc_21, some sc_17, some sc_15, some sc_15, some sc_22, some sc_17, some sc_15, some sc_15], [])
/-- X9_most A -/
def ka_90 : sx_K := (104, ([sx_va [0], sx_ri (-2147483648) 2147483647, sx_ri (-2147483648) 2147483647], sch_57, []), [(7, [1]), (11, [9999]), (12, [9999]), (13, [9999]), (17, [4]), (19, [0, 1]), (20, [0, 1, 2, 3]), (21, [1, 2, 4, 5]), (22, [9999]), (23, [9999]), (24, [9999]), (25, [1, 2, 4, 5]), (26, [9999]), (27, [9999]), (28, [9999]), (29, [1, 2, 4, 5]), (30, [9999]), (31, [9999]), (32, [9999]), (33, [1, 2, 4, 5]), (34, [9999]), (35, [9999]), (36, [9999]), (37, [1, 2, 4, 5]), (38, [9999]), (39, [9999]), (40, [9999]), (41, [1, 2, 4, 5]), (42, [9999]), (43, [9999]), (44, [9999])], [([sx_ri (-2147483648) 2147483647], sch_57, [])], false)
def kan_90 : List sx_N := []
theorem kac_90 : sx_chk [ka_33, ka_34] [] 6000 ka_90 kan_90 = true := by decide +kernel
theorem kah_90 (Q : List ik_E → Prop) : sx_hd Q ka_90 := sx_chk_ok (sx_h1 (kah_33 Q) (sx_h1 (kah_34 Q) sx_h0)) (fun u => nomatch u) kac_90
/-- X9_most B -/
def ka_91 : sx_K := (104, ([sx_va [0], sx_ri (-2147483648) 2147483647, sx_ri (-2147483648) 2147483647], sch_50, []), [], [([sx_ri (-1000000003) (-1000000001)], sch_50, [])], false)
def kan_91 : List sx_N := []
theorem kac_91 : sx_chk [] [] 6000 ka_91 kan_91 = true := by decide +kernel
theorem kah_91 (Q : List ik_E → Prop) : sx_hd Q ka_91 := sx_chk_ok sx_h0 (fun u => nomatch u) kac_91
def sch_58 : sx_H := ([some sc_45, none, none, none, none, none, none, some sc_13, none, none, none, none, none, none, none, none, none, none, none, none, none, none, none, none, none, none, none, none, none, none, none, none, none, none, none, none, none, none, none, none, none, none, none, none, none, none, none, none, none, none, none, some sc_37, some sc_38, some sc_39], [])
/-- X9_run A -/
def ka_92 : sx_K := (105, ([sx_va [0], sx_ri (-2147483648) 2147483647, sx_ri (-2147483648) 2147483647], sch_58, []), [(51, [1]), (52, [9999]), (53, [9999])], [([sx_ri (-1000000004) 12], sch_58, [])], false)
def kan_92 : List sx_N := []
theorem kac_92 : sx_chk [] [] 6000 ka_92 kan_92 = true := by decide +kernel
theorem kah_92 (Q : List ik_E → Prop) : sx_hd Q ka_92 := sx_chk_ok sx_h0 (fun u => nomatch u) kac_92
/-- X9_run B -/
def ka_93 : sx_K := (105, ([sx_va [0], sx_ri (-2147483648) 2147483647, sx_ri (-2147483648) 2147483647], sch_50, []), [], [([sx_ri (-1000000001) (-1000000001)], sch_50, [])], false)
def kan_93 : List sx_N := []
theorem kac_93 : sx_chk [] [] 6000 ka_93 kan_93 = true := by decide +kernel
theorem kah_93 (Q : List ik_E → Prop) : sx_hd Q ka_93 := sx_chk_ok sx_h0 (fun u => nomatch u) kac_93
def sch_59 : sx_H := ([some sc_45, none, none, none, none, none, none, none, none, none, none, none, none, none, none, none, none, none, none, none, none, none, none, none, none, none, none, none, none, none, none, none, none, none, none, none, none, none, none, none, none, none, none, none, none, none, none, none, none, none, none, some sc_37], [])
/-- X9_forget A -/
def ka_94 : sx_K := (106, ([sx_va [0]], sch_59, []), [(51, [1])], [([sx_ri 0 12], sch_59, [])], false)
def kan_94 : List sx_N := []
theorem kac_94 : sx_chk [] [] 6000 ka_94 kan_94 = true := by decide +kernel
theorem kah_94 (Q : List ik_E → Prop) : sx_hd Q ka_94 := sx_chk_ok sx_h0 (fun u => nomatch u) kac_94
def sch_60 : sx_H := ([some sc_45, none, none, none, none, none, none, none, none, none, none, none, none, none, none, none, none, none, none, none, none, none, none, none, none, none, none, none, none, none, none, none, none, none, none, none, none, none, none, none, none, none, none, none, none, none, none, none, none, none, none, some sc_43], [])
/-- X9_forget B -/
def ka_95 : sx_K := (106, ([sx_va [0]], sch_60, []), [(51, [1])], [([sx_ri 0 0], sch_60, [])], false)
def kan_95 : List sx_N := []
theorem kac_95 : sx_chk [] [] 6000 ka_95 kan_95 = true := by decide +kernel
theorem kah_95 (Q : List ik_E → Prop) : sx_hd Q ka_95 := sx_chk_ok sx_h0 (fun u => nomatch u) kac_95
def sch_61 : sx_H := ([some sc_45, none, none, none, none, none, none, some sc_13, some sc_5, some sc_3, some sc_4, some sc_10, some sc_11, some sc_12, none, none, none, some sc_23, some sc_25, none, none, some sc_16, some sc_17, some sc_15, some sc_15, some sc_18, some sc_17, some sc_15, some sc_15, some sc_19, some sc_17, some sc_15, some sc_15, some sc_20, some sc_17, some sc_15, some sc_15, some sc_21, some sc_17, some sc_15, some sc_15, some sc_22, some sc_17, some sc_15, some sc_15, none, none, none, none, none, none, some sc_37, some sc_38, some sc_39], [])
/-- X9_fit A -/
def ka_96 : sx_K := (107, ([sx_va [0], sx_ri (-2147483648) 2147483647], sch_61, []), [(7, [1]), (11, [9999]), (12, [9999]), (13, [9999]), (21, [1, 2, 4, 5]), (22, [9999]), (23, [9999]), (24, [9999]), (25, [1, 2, 4, 5]), (26, [9999]), (27, [9999]), (28, [9999]), (29, [1, 2, 4, 5]), (30, [9999]), (31, [9999]), (32, [9999]), (33, [1, 2, 4, 5]), (34, [9999]), (35, [9999]), (36, [9999]), (37, [1, 2, 4, 5]), (38, [9999]), (39, [9999]), (40, [9999]), (41, [1, 2, 4, 5]), (42, [9999]), (43, [9999]), (44, [9999])], [([sx_ri (-2147483648) 2147483647], sch_61, [])], false)
def kan_96 : List sx_N := []
theorem kac_96 : sx_chk [ka_32, ka_56, ka_60] [] 6000 ka_96 kan_96 = true := by decide +kernel
theorem kah_96 (Q : List ik_E → Prop) : sx_hd Q ka_96 := sx_chk_ok (sx_h1 (kah_32 Q) (sx_h1 (kah_56 Q) (sx_h1 (kah_60 Q) sx_h0))) (fun u => nomatch u) kac_96
def sch_62 : sx_H := ([some sc_45, none, none, none, none, none, none, some sc_44, none, none, none, none, none, none, none, none, none, some sc_23, some sc_25, none, none, none, none, none, none, none, none, none, none, none, none, none, none, none, none, none, none, none, none, none, none, none, none, none, none, none, none, none, none, none, none, some sc_43], [])
/-- X9_fit B -/
def ka_97 : sx_K := (107, ([sx_va [0], sx_ri (-2147483648) 2147483647], sch_62, []), [], [([sx_ri (-1000000001) 1000000000], sch_62, [])], false)
def kan_97 : List sx_N := []
theorem kac_97 : sx_chk [ka_56, ka_60] [] 6000 ka_97 kan_97 = true := by decide +kernel
theorem kah_97 (Q : List ik_E → Prop) : sx_hd Q ka_97 := sx_chk_ok (sx_h1 (kah_56 Q) (sx_h1 (kah_60 Q) sx_h0)) (fun u => nomatch u) kac_97
/-- X9_stoned A -/
def ka_98 : sx_K := (108, ([sx_va [0]], sch_61, []), [(7, [1]), (11, [9999]), (12, [9999]), (13, [9999]), (21, [1, 2, 4, 5]), (22, [9999]), (23, [9999]), (24, [9999]), (25, [1, 2, 4, 5]), (26, [9999]), (27, [9999]), (28, [9999]), (29, [1, 2, 4, 5]), (30, [9999]), (31, [9999]), (32, [9999]), (33, [1, 2, 4, 5]), (34, [9999]), (35, [9999]), (36, [9999]), (37, [1, 2, 4, 5]), (38, [9999]), (39, [9999]), (40, [9999]), (41, [1, 2, 4, 5]), (42, [9999]), (43, [9999]), (44, [9999])], [([sx_ri (-1) 10], sch_61, [])], false)
def kan_98 : List sx_N := []
theorem kac_98 : sx_chk [ka_57, ka_61] [] 6000 ka_98 kan_98 = true := by decide +kernel
theorem kah_98 (Q : List ik_E → Prop) : sx_hd Q ka_98 := sx_chk_ok (sx_h1 (kah_57 Q) (sx_h1 (kah_61 Q) sx_h0)) (fun u => nomatch u) kac_98
/-- X9_stoned B -/
def ka_99 : sx_K := (108, ([sx_va [0]], sch_62, []), [], [([sx_ri (-1) (-1)], sch_62, [])], false)
def kan_99 : List sx_N := []
theorem kac_99 : sx_chk [ka_57, ka_61] [] 6000 ka_99 kan_99 = true := by decide +kernel
theorem kah_99 (Q : List ik_E → Prop) : sx_hd Q ka_99 := sx_chk_ok (sx_h1 (kah_57 Q) (sx_h1 (kah_61 Q) sx_h0)) (fun u => nomatch u) kac_99
/-- X9_dig A -/
def ka_100 : sx_K := (109, ([sx_va [0], sx_ri (-2147483648) 2147483647, sx_ri (-2147483648) 2147483647, sx_ri (-2147483648) 2147483647, sx_ri (-2147483648) 2147483647], sch_56, []), [(10, [9999]), (11, [9999]), (12, [9999]), (13, [9999])], [([sx_ri (-2147483648) 2147483647], sch_56, [])], false)
def kan_100 : List sx_N := []
theorem kac_100 : sx_chk [ka_11] [] 6000 ka_100 kan_100 = true := by decide +kernel
theorem kah_100 (Q : List ik_E → Prop) : sx_hd Q ka_100 := sx_chk_ok (sx_h1 (kah_11 Q) sx_h0) (fun u => nomatch u) kac_100
/-- X9_dig B -/
def ka_101 : sx_K := (109, ([sx_va [0], sx_ri (-2147483648) 2147483647, sx_ri (-2147483648) 2147483647, sx_ri (-2147483648) 2147483647, sx_ri (-2147483648) 2147483647], sch_50, []), [], [([sx_ri (-1000000001) (-1000000001)], sch_50, [])], false)
def kan_101 : List sx_N := []
theorem kac_101 : sx_chk [] [] 6000 ka_101 kan_101 = true := by decide +kernel
theorem kah_101 (Q : List ik_E → Prop) : sx_hd Q ka_101 := sx_chk_ok sx_h0 (fun u => nomatch u) kac_101
/-- X9_fair A -/
def ka_102 : sx_K := (110, ([sx_va [0], sx_ri (-2147483648) 2147483647, sx_ri (-2147483648) 2147483647], sch_57, []), [(10, [9999]), (11, [9999]), (12, [9999]), (13, [9999]), (17, [4]), (19, [0, 1]), (20, [0, 1, 2, 3]), (21, [1, 2, 4, 5]), (22, [9999]), (23, [9999]), (24, [9999]), (25, [1, 2, 4, 5]), (26, [9999]), (27, [9999]), (28, [9999]), (29, [1, 2, 4, 5]), (30, [9999]), (31, [9999]), (32, [9999]), (33, [1, 2, 4, 5]), (34, [9999]), (35, [9999]), (36, [9999]), (37, [1, 2, 4, 5]), (38, [9999]), (39, [9999]), (40, [9999]), (41, [1, 2, 4, 5]), (42, [9999]), (43, [9999]), (44, [9999])], [([sx_ri (-1000000003) 20], sch_57, [])], false)
def kan_102 : List sx_N := []
theorem kac_102 : sx_chk [ka_36] [] 6000 ka_102 kan_102 = true := by decide +kernel
theorem kah_102 (Q : List ik_E → Prop) : sx_hd Q ka_102 := sx_chk_ok (sx_h1 (kah_36 Q) sx_h0) (fun u => nomatch u) kac_102
/-- X9_fair B -/
def ka_103 : sx_K := (110, ([sx_va [0], sx_ri (-2147483648) 2147483647, sx_ri (-2147483648) 2147483647], sch_50, []), [], [([sx_ri (-1000000003) (-1000000002)], sch_50, [])], false)
def kan_103 : List sx_N := []
theorem kac_103 : sx_chk [] [] 6000 ka_103 kan_103 = true := by decide +kernel
theorem kah_103 (Q : List ik_E → Prop) : sx_hd Q ka_103 := sx_chk_ok sx_h0 (fun u => nomatch u) kac_103
def sch_63 : sx_H := ([some sc_45, none, none, none, none, none, none, some sc_13, none, none, none, some sc_10, some sc_11, some sc_12, some sc_32, some sc_26, some sc_33], [])
/-- X9_drift A -/
def ka_104 : sx_K := (111, ([sx_va [0], sx_ri (-2147483648) 2147483647], sch_63, []), [(14, [3, 4]), (16, [0, 1])], [([sx_ri (-1000000003) 3], sch_63, [])], false)
def kan_104 : List sx_N := []
theorem kac_104 : sx_chk [ka_40] [] 6000 ka_104 kan_104 = true := by decide +kernel
theorem kah_104 (Q : List ik_E → Prop) : sx_hd Q ka_104 := sx_chk_ok (sx_h1 (kah_40 Q) sx_h0) (fun u => nomatch u) kac_104
/-- X9_drift B -/
def ka_105 : sx_K := (111, ([sx_va [0], sx_ri (-2147483648) 2147483647], sch_50, []), [], [([sx_ri (-1000000003) (-1000000002)], sch_50, [])], false)
def kan_105 : List sx_N := []
theorem kac_105 : sx_chk [] [] 6000 ka_105 kan_105 = true := by decide +kernel
theorem kah_105 (Q : List ik_E → Prop) : sx_hd Q ka_105 := sx_chk_ok sx_h0 (fun u => nomatch u) kac_105
def sch_64 : sx_H := ([some sc_45, none, none, none, none, none, none, some sc_13, none, none, none, none, none, none, some sc_32, none, some sc_33], [])
/-- X9_where A -/
def ka_106 : sx_K := (112, ([sx_va [0], sx_ri (-2147483648) 2147483647], sch_64, []), [], [([sx_ri (-1000000003) 11], sch_64, [])], false)
def kan_106 : List sx_N := []
theorem kac_106 : sx_chk [] [] 6000 ka_106 kan_106 = true := by decide +kernel
theorem kah_106 (Q : List ik_E → Prop) : sx_hd Q ka_106 := sx_chk_ok sx_h0 (fun u => nomatch u) kac_106
/-- X9_where B -/
def ka_107 : sx_K := (112, ([sx_va [0], sx_ri (-2147483648) 2147483647], sch_50, []), [], [([sx_ri (-1000000003) (-1000000001)], sch_50, [])], false)
def kan_107 : List sx_N := []
theorem kac_107 : sx_chk [] [] 6000 ka_107 kan_107 = true := by decide +kernel
theorem kah_107 (Q : List ik_E → Prop) : sx_hd Q ka_107 := sx_chk_ok sx_h0 (fun u => nomatch u) kac_107
def sch_65 : sx_H := ([some sc_45, none, none, none, none, none, none, none, none, none, none, none, none, none, some sc_32, some sc_26, some sc_33], [])
/-- X9_begin A -/
def ka_108 : sx_K := (113, ([sx_va [0]], sch_65, []), [(14, [3]), (16, [0, 1])], [([sx_ri (-2147483648) 2147483647], sch_65, [])], false)
def kan_108 : List sx_N := []
theorem kac_108 : sx_chk [ka_37] [] 6000 ka_108 kan_108 = true := by decide +kernel
theorem kah_108 (Q : List ik_E → Prop) : sx_hd Q ka_108 := sx_chk_ok (sx_h1 (kah_37 Q) sx_h0) (fun u => nomatch u) kac_108
/-- X9_begin B -/
def ka_109 : sx_K := (113, ([sx_va [0]], sch_65, []), [(14, [3]), (16, [0, 1])], [([sx_ri (-2147483648) 2147483647], sch_65, [])], false)
def kan_109 : List sx_N := []
theorem kac_109 : sx_chk [ka_37] [] 6000 ka_109 kan_109 = true := by decide +kernel
theorem kah_109 (Q : List ik_E → Prop) : sx_hd Q ka_109 := sx_chk_ok (sx_h1 (kah_37 Q) sx_h0) (fun u => nomatch u) kac_109
/-- X9_morning A -/
def ka_110 : sx_K := (114, ([sx_va [0], sx_ri (-2147483648) 2147483647], sch_63, []), [(14, [3, 4]), (16, [0, 1])], [([sx_ri (-2147483648) 2147483647], sch_63, [])], false)
def kan_110 : List sx_N := []
theorem kac_110 : sx_chk [ka_41] [] 6000 ka_110 kan_110 = true := by decide +kernel
theorem kah_110 (Q : List ik_E → Prop) : sx_hd Q ka_110 := sx_chk_ok (sx_h1 (kah_41 Q) sx_h0) (fun u => nomatch u) kac_110
/-- X9_morning B -/
def ka_111 : sx_K := (114, ([sx_va [0], sx_ri (-2147483648) 2147483647], sch_50, []), [], [([sx_ri (-1000000003) (-1000000002)], sch_50, [])], false)
def kan_111 : List sx_N := []
theorem kac_111 : sx_chk [] [] 6000 ka_111 kan_111 = true := by decide +kernel
theorem kah_111 (Q : List ik_E → Prop) : sx_hd Q ka_111 := sx_chk_ok sx_h0 (fun u => nomatch u) kac_111
def sch_66 : sx_H := ([some sc_45, none, none, none, none, none, none, some sc_13, none, none, none, none, none, none, none, none, none, none, none, none, none, none, none, none, none, none, none, none, none, none, none, none, none, none, none, none, none, none, none, none, none, none, none, none, none, none, none, none, none, none, none, none, none, none, some sc_40, some sc_41, some sc_42], [])
/-- X9_log A -/
def ka_112 : sx_K := (115, ([sx_va [0], sx_ri (-2147483648) 2147483647, sx_ri (-2147483648) 2147483647], sch_66, []), [(55, [9999]), (56, [0, 1])], [([sx_ri (-1000000004) 40], sch_66, [])], false)
def kan_112 : List sx_N := []
theorem kac_112 : sx_chk [] [] 6000 ka_112 kan_112 = true := by decide +kernel
theorem kah_112 (Q : List ik_E → Prop) : sx_hd Q ka_112 := sx_chk_ok sx_h0 (fun u => nomatch u) kac_112
def sch_67 : sx_H := ([some sc_45, none, none, none, none, none, none, some sc_44, none, none, none, none, none, none, none, none, none, none, none, none, none, none, none, none, none, none, none, none, none, none, none, none, none, none, none, none, none, none, none, none, none, none, none, none, none, none, none, none, none, none, none, none, none, none, some sc_40, some sc_41, some sc_42], [])
/-- X9_log B -/
def ka_113 : sx_K := (115, ([sx_va [0], sx_ri (-2147483648) 2147483647, sx_ri (-2147483648) 2147483647], sch_67, []), [(55, [9999]), (56, [0, 1])], [([sx_ri (-1000000004) 40], sch_67, [])], false)
def kan_113 : List sx_N := []
theorem kac_113 : sx_chk [] [] 6000 ka_113 kan_113 = true := by decide +kernel
theorem kah_113 (Q : List ik_E → Prop) : sx_hd Q ka_113 := sx_chk_ok sx_h0 (fun u => nomatch u) kac_113
def sch_68 : sx_H := ([some sc_45, none, none, none, none, none, none, none, none, none, none, none, none, none, none, none, none, none, none, none, none, none, none, none, none, none, none, none, none, none, none, none, none, none, none, none, none, none, none, none, none, none, none, none, none, none, none, none, none, none, none, none, none, none, some sc_40, none, some sc_42], [])
/-- X9_clear A -/
def ka_114 : sx_K := (116, ([sx_va [0]], sch_68, []), [(56, [0, 1])], [([sx_ri 0 80], sch_68, [])], false)
def kan_114 : List sx_N := []
theorem kac_114 : sx_chk [] [] 6000 ka_114 kan_114 = true := by decide +kernel
theorem kah_114 (Q : List ik_E → Prop) : sx_hd Q ka_114 := sx_chk_ok sx_h0 (fun u => nomatch u) kac_114
/-- X9_clear B -/
def ka_115 : sx_K := (116, ([sx_va [0]], sch_68, []), [(56, [0, 1])], [([sx_ri 0 80], sch_68, [])], false)
def kan_115 : List sx_N := []
theorem kac_115 : sx_chk [] [] 6000 ka_115 kan_115 = true := by decide +kernel
theorem kah_115 (Q : List ik_E → Prop) : sx_hd Q ka_115 := sx_chk_ok sx_h0 (fun u => nomatch u) kac_115
def sch_69 : sx_H := ([some sc_45, none, none, none, none, none, none, some sc_13, none, none, none, some sc_10, none, some sc_12, some sc_32, some sc_26, none, none, none, none, none, none, none, none, none, none, none, none, none, none, none, none, none, none, none, none, none, none, none, none, none, none, none, none, none, none, none, none, none, none, none, none, none, none, some sc_40, some sc_41, some sc_42], [])
/-- X9_judge A -/
def ka_116 : sx_K := (117, ([sx_va [0], sx_ri (-2147483648) 2147483647], sch_69, []), [], [([sx_ri (-1000000001) 39], sch_69, [])], false)
def kan_116 : List sx_N := []
theorem kac_116 : sx_chk [ka_58, ka_59] [] 6000 ka_116 kan_116 = true := by decide +kernel
theorem kah_116 (Q : List ik_E → Prop) : sx_hd Q ka_116 := sx_chk_ok (sx_h1 (kah_58 Q) (sx_h1 (kah_59 Q) sx_h0)) (fun u => nomatch u) kac_116
def sch_70 : sx_H := ([some sc_45, none, none, none, none, none, none, some sc_44, none, none, none, some sc_10, none, some sc_12, some sc_32, some sc_26, none, none, none, none, none, none, none, none, none, none, none, none, none, none, none, none, none, none, none, none, none, none, none, none, none, none, none, none, none, none, none, none, none, none, none, none, none, none, some sc_40, some sc_41, some sc_42], [])
/-- X9_judge B -/
def ka_117 : sx_K := (117, ([sx_va [0], sx_ri (-2147483648) 2147483647], sch_70, []), [], [([sx_ri (-1000000001) 39], sch_70, [])], false)
def kan_117 : List sx_N := []
theorem kac_117 : sx_chk [ka_58, ka_59] [] 6000 ka_117 kan_117 = true := by decide +kernel
theorem kah_117 (Q : List ik_E → Prop) : sx_hd Q ka_117 := sx_chk_ok (sx_h1 (kah_58 Q) (sx_h1 (kah_59 Q) sx_h0)) (fun u => nomatch u) kac_117
def sch_71 : sx_H := ([some sc_45, none, none, none, none, none, none, none, none, none, none, none, none, none, some sc_32], [])
/-- X9_seed A -/
def ka_118 : sx_K := (118, ([sx_va [0], sx_ri (-2147483648) 2147483647], sch_71, []), [(14, [4])], [([sx_ri (-2147483648) 2147483647], sch_71, [])], false)
def kan_118 : List sx_N := []
theorem kac_118 : sx_chk [] [] 6000 ka_118 kan_118 = true := by decide +kernel
theorem kah_118 (Q : List ik_E → Prop) : sx_hd Q ka_118 := sx_chk_ok sx_h0 (fun u => nomatch u) kac_118
/-- X9_seed B -/
def ka_119 : sx_K := (118, ([sx_va [0], sx_ri (-2147483648) 2147483647], sch_71, []), [(14, [4])], [([sx_ri (-2147483648) 2147483647], sch_71, [])], false)
def kan_119 : List sx_N := []
theorem kac_119 : sx_chk [] [] 6000 ka_119 kan_119 = true := by decide +kernel
theorem kah_119 (Q : List ik_E → Prop) : sx_hd Q ka_119 := sx_chk_ok sx_h0 (fun u => nomatch u) kac_119
def sch_72 : sx_H := ([some sc_45, none, none, none, none, none, none, some sc_13, none, none, some sc_4, none, none, none, some sc_32, some sc_26, some sc_33, none, none, none, none, none, none, none, none, none, none, none, none, none, none, none, none, none, none, none, none, none, none, none, none, none, none, none, none, none, none, none, none, none, none, none, none, none, none, none, none, some sc_46, some sc_47, some sc_26, some sc_33, some sc_4, some sc_48, some sc_26, some sc_33, some sc_4], [])
/-- X9_keep A -/
def ka_120 : sx_K := (119, ([sx_va [0], sx_ri (-2147483648) 2147483647], sch_72, []), [(58, [0, 3, 4, 5]), (59, [0, 1, 2, 3, 4, 5]), (60, [0, 1]), (61, [9999]), (62, [0, 3, 4, 5]), (63, [0, 1, 2, 3, 4, 5]), (64, [0, 1]), (65, [9999])], [([sx_ri (-1000000001) 1], sch_72, [])], false)
def kan_120 : List sx_N := []
theorem kac_120 : sx_chk [] [(119, 16)] 6000 ka_120 kan_120 = true := by decide +kernel
theorem kah_120 (Q : List ik_E → Prop) : sx_hd Q ka_120 := sx_chk_ok sx_h0 (fun u => nomatch u) kac_120
def sch_73 : sx_H := ([some sc_45, none, none, none, none, none, none, some sc_44, none, none, some sc_4, none, none, none, some sc_32, some sc_26, some sc_33, none, none, none, none, none, none, none, none, none, none, none, none, none, none, none, none, none, none, none, none, none, none, none, none, none, none, none, none, none, none, none, none, none, none, none, none, none, none, none, none, some sc_46, some sc_47, some sc_26, some sc_33, some sc_4, some sc_48, some sc_26, some sc_33, some sc_4], [])
/-- X9_keep B -/
def ka_121 : sx_K := (119, ([sx_va [0], sx_ri (-2147483648) 2147483647], sch_73, []), [(58, [0, 3, 4, 5]), (59, [0, 1, 2, 3, 4, 5]), (60, [0, 1]), (61, [9999]), (62, [0, 3, 4, 5]), (63, [0, 1, 2, 3, 4, 5]), (64, [0, 1]), (65, [9999])], [([sx_ri (-1000000001) 1], sch_73, [])], false)
def kan_121 : List sx_N := []
theorem kac_121 : sx_chk [] [(119, 16)] 6000 ka_121 kan_121 = true := by decide +kernel
theorem kah_121 (Q : List ik_E → Prop) : sx_hd Q ka_121 := sx_chk_ok sx_h0 (fun u => nomatch u) kac_121
def sch_74 : sx_H := ([some sc_45, none, none, none, none, none, none, some sc_13, some sc_5, some sc_3, some sc_4, some sc_10, some sc_11, some sc_12, some sc_32, some sc_26, some sc_33, none, none, none, none, none, none, none, none, none, none, none, none, none, none, none, none, none, none, none, none, none, none, none, none, none, none, none, none, none, none, none, none, none, none, none, none, none, none, none, none, some sc_46, some sc_47, some sc_26, some sc_33, some sc_4, some sc_48, some sc_26, some sc_33, some sc_4], [])
/-- X9_goBack A -/
def ka_122 : sx_K := (120, ([sx_va [0], sx_ri (-2147483648) 2147483647], sch_74, []), [(7, [1]), (10, [9999]), (11, [9999]), (12, [9999]), (13, [9999]), (14, [3, 4]), (15, [0, 1, 2, 3, 4, 5]), (16, [0, 1])], [([sx_ri (-1000000003) 1], sch_74, [])], false)
def kan_122 : List sx_N := []
theorem kac_122 : sx_chk [ka_12] [(120, 16), (120, 31)] 6000 ka_122 kan_122 = true := by decide +kernel
theorem kah_122 (Q : List ik_E → Prop) : sx_hd Q ka_122 := sx_chk_ok (sx_h1 (kah_12 Q) sx_h0) (fun u => nomatch u) kac_122
def sch_75 : sx_H := ([some sc_45, none, none, none, none, none, none, some sc_44, some sc_5, some sc_3, some sc_4, some sc_10, some sc_11, some sc_12, some sc_32, some sc_26, some sc_33, none, none, none, none, none, none, none, none, none, none, none, none, none, none, none, none, none, none, none, none, none, none, none, none, none, none, none, none, none, none, none, none, none, none, none, none, none, none, none, none, some sc_46, some sc_47, some sc_26, some sc_33, some sc_4, some sc_48, some sc_26, some sc_33, some sc_4], [])
/-- X9_goBack B -/
def ka_123 : sx_K := (120, ([sx_va [0], sx_ri (-2147483648) 2147483647], sch_75, []), [(7, [1]), (10, [9999]), (11, [9999]), (12, [9999]), (13, [9999]), (14, [3, 4]), (15, [0, 1, 2, 3, 4, 5]), (16, [0, 1])], [([sx_ri (-1000000003) 1], sch_75, [])], false)
def kan_123 : List sx_N := []
theorem kac_123 : sx_chk [ka_12] [(120, 16), (120, 31)] 6000 ka_123 kan_123 = true := by decide +kernel
theorem kah_123 (Q : List ik_E → Prop) : sx_hd Q ka_123 := sx_chk_ok (sx_h1 (kah_12 Q) sx_h0) (fun u => nomatch u) kac_123
