/-! contracts of the class, checked (written by wip/sx/pub2.py) -/
def sch_68 : sx_H := [some sc_45, none, none, none, none, none, none, none, none, none, none, none, none, none, none, none, none, none, none, none, none, none, none, none, none, none, none, none, none, none, none, none, none, none, none, none, none, none, none, none, none, none, none, none, none, none, none, none, none, none, none, none, none, none, some sc_40, none, some sc_42, none, none, none, none, none, none, none, none, none, none, none, none, none, none, none, none, none, none, none, none, none, none, none, none, none, none, none, none, none, none, none, none, none, none, none, none, none]
/-- X9_clear A -/
def ka_114 : sx_K := (116, ([sx_va [0]], sch_68, []), [(56, [0, 1])], [([sx_ri 0 80], sch_68, [])], false)
def kan_114 : List sx_N := []
theorem kac_114 : sx_chk [] [] 6000 ka_114 kan_114 = true := by decide +kernel
theorem kah_114 (Q : List ik_E → Prop) : sx_hd Q ka_114 := sx_chk_ok sx_h0 (fun u => nomatch u) kac_114
/-- X9_clear B -/
def ka_115 : sx_K := (116, ([sx_va [0]], sch_68, []), [(56, [0, 1])], [([sx_ri 0 80], sch_68, [])], false)
def kan_115 : List sx_N := []
theorem kac_115 : sx_chk [] [] 6000 ka_115 kan_115 = true := by decide +kernel
theorem kah_115 (Q : List ik_E → Prop) : sx_hd Q ka_115 := sx_chk_ok sx_h0 (fun u => nomatch u) kac_115
def sch_69 : sx_H := [some sc_45, none, none, none, none, none, none, some sc_13, none, none, none, some sc_10, none, some sc_12, some sc_32, some sc_26, none, none, none, none, none, none, none, none, none, none, none, none, none, none, none, none, none, none, none, none, none, none, none, none, none, none, none, none, none, none, none, none, none, none, none, none, none, none, some sc_40, some sc_41, some sc_42, none, none, none, none, none, none, none, none, none, none, none, none, none, none, none, none, none, none, none, none, none, none, none, none, none, none, none, none, none, none, none, none, none, none, none, none, none]
/-- X9_judge A -/
def ka_116 : sx_K := (117, ([sx_va [0], sx_ri (-2147483648) 2147483647], sch_69, []), [], [([sx_ri (-1000000001) 39], sch_69, [])], false)
def kan_116 : List sx_N := []
theorem kac_116 : sx_chk [ka_58, ka_59] [] 6000 ka_116 kan_116 = true := by decide +kernel
theorem kah_116 (Q : List ik_E → Prop) : sx_hd Q ka_116 := sx_chk_ok (sx_h1 (kah_58 Q) (sx_h1 (kah_59 Q) sx_h0)) (fun u => nomatch u) kac_116
def sch_70 : sx_H := [some sc_45, none, none, none, none, none, none, some sc_44, none, none, none, some sc_10, none, some sc_12, some sc_32, some sc_26, none, none, none, none, none, none, none, none, none, none, none, none, none, none, none, none, none, none, none, none, none, none, none, none, none, none, none, none, none, none, none, none, none, none, none, none, none, none, some sc_40, some sc_41, some sc_42, none, none, none, none, none, none, none, none, none, none, none, none, none, none, none, none, none, none, none, none, none, none, none, none, none, none, none, none, none, none, none, none, none, none, none, none, none]
/-- X9_judge B -/
def ka_117 : sx_K := (117, ([sx_va [0], sx_ri (-2147483648) 2147483647], sch_70, []), [], [([sx_ri (-1000000001) 39], sch_70, [])], false)
def kan_117 : List sx_N := []
theorem kac_117 : sx_chk [ka_58, ka_59] [] 6000 ka_117 kan_117 = true := by decide +kernel
theorem kah_117 (Q : List ik_E → Prop) : sx_hd Q ka_117 := sx_chk_ok (sx_h1 (kah_58 Q) (sx_h1 (kah_59 Q) sx_h0)) (fun u => nomatch u) kac_117
def sch_71 : sx_H := [some sc_45, none, none, none, none, none, none, none, none, none, none, none, none, none, some sc_32, none, none, none, none, none, none, none, none, none, none, none, none, none, none, none, none, none, none, none, none, none, none, none, none, none, none, none, none, none, none, none, none, none, none, none, none, none, none, none, none, none, none, none, none, none, none, none, none, none, none, none, none, none, none, none, none, none, none, none, none, none, none, none, none, none, none, none, none, none, none, none, none, none, none, none, none, none, none, none]
/-- X9_seed A -/
def ka_118 : sx_K := (118, ([sx_va [0], sx_ri (-2147483648) 2147483647], sch_71, []), [(14, [4])], [([sx_ri (-2147483648) 2147483647], sch_71, [])], false)
def kan_118 : List sx_N := []
theorem kac_118 : sx_chk [] [] 6000 ka_118 kan_118 = true := by decide +kernel
theorem kah_118 (Q : List ik_E → Prop) : sx_hd Q ka_118 := sx_chk_ok sx_h0 (fun u => nomatch u) kac_118
/-- X9_seed B -/
def ka_119 : sx_K := (118, ([sx_va [0], sx_ri (-2147483648) 2147483647], sch_71, []), [(14, [4])], [([sx_ri (-2147483648) 2147483647], sch_71, [])], false)
def kan_119 : List sx_N := []
theorem kac_119 : sx_chk [] [] 6000 ka_119 kan_119 = true := by decide +kernel
theorem kah_119 (Q : List ik_E → Prop) : sx_hd Q ka_119 := sx_chk_ok sx_h0 (fun u => nomatch u) kac_119
def sch_72 : sx_H := [some sc_45, none, none, none, none, none, none, some sc_13, none, none, some sc_4, none, none, none, some sc_32, some sc_26, some sc_33, none, none, none, none, none, none, none, none, none, none, none, none, none, none, none, none, none, none, none, none, none, none, none, none, none, none, none, none, none, none, none, none, none, none, none, none, none, none, none, none, some sc_46, some sc_47, some sc_26, some sc_33, some sc_4, some sc_48, some sc_26, some sc_33, some sc_4, none, none, none, none, none, none, none, none, none, none, none, none, none, none, none, none, none, none, none, none, none, none, none, none, none, none, none, none]
/-- X9_keep A -/
def ka_120 : sx_K := (119, ([sx_va [0], sx_ri (-2147483648) 2147483647], sch_72, []), [(58, [0, 3, 4, 5]), (59, [0, 1, 2, 3, 4, 5]), (60, [0, 1]), (61, [9999]), (62, [0, 3, 4, 5]), (63, [0, 1, 2, 3, 4, 5]), (64, [0, 1]), (65, [9999])], [([sx_ri (-1000000001) 1], sch_72, [])], false)
def kan_120 : List sx_N := []
theorem kac_120 : sx_chk [] [(119, 16)] 6000 ka_120 kan_120 = true := by decide +kernel
theorem kah_120 (Q : List ik_E → Prop) : sx_hd Q ka_120 := sx_chk_ok sx_h0 (fun u => nomatch u) kac_120
def sch_73 : sx_H := [some sc_45, none, none, none, none, none, none, some sc_44, none, none, some sc_4, none, none, none, some sc_32, some sc_26, some sc_33, none, none, none, none, none, none, none, none, none, none, none, none, none, none, none, none, none, none, none, none, none, none, none, none, none, none, none, none, none, none, none, none, none, none, none, none, none, none, none, none, some sc_46, some sc_47, some sc_26, some sc_33, some sc_4, some sc_48, some sc_26, some sc_33, some sc_4, none, none, none, none, none, none, none, none, none, none, none, none, none, none, none, none, none, none, none, none, none, none, none, none, none, none, none, none]
/-- X9_keep B -/
def ka_121 : sx_K := (119, ([sx_va [0], sx_ri (-2147483648) 2147483647], sch_73, []), [(58, [0, 3, 4, 5]), (59, [0, 1, 2, 3, 4, 5]), (60, [0, 1]), (61, [9999]), (62, [0, 3, 4, 5]), (63, [0, 1, 2, 3, 4, 5]), (64, [0, 1]), (65, [9999])], [([sx_ri (-1000000001) 1], sch_73, [])], false)
def kan_121 : List sx_N := []
theorem kac_121 : sx_chk [] [(119, 16)] 6000 ka_121 kan_121 = true := by decide +kernel
theorem kah_121 (Q : List ik_E → Prop) : sx_hd Q ka_121 := sx_chk_ok sx_h0 (fun u => nomatch u) kac_121
def sch_74 : sx_H := [some sc_45, none, none, none, none, none, none, some sc_13, some sc_5, some sc_3, some sc_4, some sc_10, some sc_11, some sc_12, some sc_32, some sc_26, some sc_33, none, none, none, none, none, none, none, none, none, none, none, none, none, none, none, none, none, none, none, none, none, none, none, none, none, none, none, none, none, none, none, none, none, none, none, none, none, none, none, none, some sc_46, some sc_47, some sc_26, some sc_33, some sc_4, some sc_48, some sc_26, some sc_33, some sc_4, none, none, none, none, none, none, none, none, none, none, none, none, none, none, none, none, none, none, none, none, none, none, none, none, none, none, none, none]
/-- X9_goBack A -/
def ka_122 : sx_K := (120, ([sx_va [0], sx_ri (-2147483648) 2147483647], sch_74, []), [(7, [1]), (10, [9999]), (11, [9999]), (12, [9999]), (13, [9999]), (14, [3, 4]), (15, [0, 1, 2, 3, 4, 5]), (16, [0, 1])], [([sx_ri (-1000000003) 1], sch_74, [])], false)
def kan_122 : List sx_N := []
theorem kac_122 : sx_chk [ka_12] [(120, 16), (120, 31)] 6000 ka_122 kan_122 = true := by decide +kernel
theorem kah_122 (Q : List ik_E → Prop) : sx_hd Q ka_122 := sx_chk_ok (sx_h1 (kah_12 Q) sx_h0) (fun u => nomatch u) kac_122
def sch_75 : sx_H := [some sc_45, none, none, none, none, none, none, some sc_44, some sc_5, some sc_3, some sc_4, some sc_10, some sc_11, some sc_12, some sc_32, some sc_26, some sc_33, none, none, none, none, none, none, none, none, none, none, none, none, none, none, none, none, none, none, none, none, none, none, none, none, none, none, none, none, none, none, none, none, none, none, none, none, none, none, none, none, some sc_46, some sc_47, some sc_26, some sc_33, some sc_4, some sc_48, some sc_26, some sc_33, some sc_4, none, none, none, none, none, none, none, none, none, none, none, none, none, none, none, none, none, none, none, none, none, none, none, none, none, none, none, none]
/-- X9_goBack B -/
def ka_123 : sx_K := (120, ([sx_va [0], sx_ri (-2147483648) 2147483647], sch_75, []), [(7, [1]), (10, [9999]), (11, [9999]), (12, [9999]), (13, [9999]), (14, [3, 4]), (15, [0, 1, 2, 3, 4, 5]), (16, [0, 1])], [([sx_ri (-1000000003) 1], sch_75, [])], false)
def kan_123 : List sx_N := []
theorem kac_123 : sx_chk [ka_12] [(120, 16), (120, 31)] 6000 ka_123 kan_123 = true := by decide +kernel
theorem kah_123 (Q : List ik_E → Prop) : sx_hd Q ka_123 := sx_chk_ok (sx_h1 (kah_12 Q) sx_h0) (fun u => nomatch u) kac_123
