/-! contracts of the class, checked (written by wip/sx/pub2.py) -/
def sc_36 : sx_C := .inr (.inr (1, 6, (-9223372036854775808), 9223372036854775807))
def sch_34 : sx_H := ([none, none, none, none, none, none, none, none, none, none, none, none, none, none, none, none, none, none, none, none, none, none, none, none, none, none, none, none, none, none, none, none, none, none, none, none, none, none, none, none, none, none, none, none, none, some sc_35, none, none, some sc_36, some sc_24, some sc_24], [])
/-- X5_makePositive  -/
def ka_44 : sx_K := (48, ([sx_va [45], sx_ri 0 0], sch_34, []), [(48, [9999]), (49, [0]), (50, [0])], [([sx_ri 0 1], sch_34, [])], false)
def kan_44 : List sx_N := []
theorem kac_44 : sx_chk [] [] 6000 ka_44 kan_44 = true := by decide +kernel
theorem kah_44 (Q : List ik_E → Prop) : sx_hd Q ka_44 := sx_chk_ok sx_h0 (fun u => nomatch u) kac_44
def sch_35 : sx_H := ([none, none, none, none, none, none, none, none, none, none, none, none, none, none, none, none, none, none, none, none, none, none, none, none, none, none, none, none, none, none, none, none, none, none, none, none, none, none, none, none, none, none, none, none, none, some sc_35, some sc_29, some sc_15, some sc_36, some sc_24, some sc_24], [])
/-- X5_solve  -/
def ka_45 : sx_K := (46, ([sx_va [45], sx_ri 0 0, sx_ri (-2147483648) 2147483647, sx_ri (-2147483648) 2147483647, sx_ri 1 3], sch_35, []), [(47, [9999]), (48, [9999]), (49, [0]), (50, [0])], [([sx_ri 0 1], sch_35, [])], false)
def kan_45 : List sx_N := []
theorem kac_45 : sx_chk [ka_42, ka_43, ka_44] [] 6000 ka_45 kan_45 = true := by decide +kernel
theorem kah_45 (Q : List ik_E → Prop) : sx_hd Q ka_45 := sx_chk_ok (sx_h1 (kah_42 Q) (sx_h1 (kah_43 Q) (sx_h1 (kah_44 Q) sx_h0))) (fun u => nomatch u) kac_45
def sch_36 : sx_H := ([none, none, none, none, none, none, none, none, none, none, none, none, none, none, none, none, none, none, none, none, none, none, none, none, none, none, none, none, none, none, none, none, none, none, none, none, none, none, none, none, none, none, none, none, none, some sc_35, some sc_29, none, some sc_36], [])
/-- X5_worthBy  -/
def ka_46 : sx_K := (52, ([sx_va [45], sx_ri 0 0, sx_ri 0 2], sch_36, []), [], [([sx_rl (-9223372036854775808) 9223372036854775807], sch_36, [])], false)
def kan_46 : List sx_N := []
theorem kac_46 : sx_chk [] [] 6000 ka_46 kan_46 = true := by decide +kernel
theorem kah_46 (Q : List ik_E → Prop) : sx_hd Q ka_46 := sx_chk_ok sx_h0 (fun u => nomatch u) kac_46
/-- X5_fillBoard  -/
def ka_47 : sx_K := (47, ([sx_va [45], sx_ri 1 1, sx_ri (-2147483648) 2147483647, sx_ri (-2147483648) 2147483647, sx_ri 1 3], sch_32, []), [(47, [9999])], [([], sch_32, [])], false)
def kan_47 : List sx_N := [(6, [some (sx_va [45]), some (sx_ri 1 1), some (sx_ri (-2147483648) 2147483647), some (sx_ri (-2147483648) 2147483647), some (sx_ri 1 3), some (sx_ri 0 3), some (sx_ri 0 3), none, none], sch_32, [(0, [(1, (0, 6, 0)), ((-1), (0, 5, 0))])], (3, [((-1), (0, 6, 0))]))]
theorem kac_47 : sx_chk [] [] 6000 ka_47 kan_47 = true := by decide +kernel
theorem kah_47 (Q : List ik_E → Prop) : sx_hd Q ka_47 := sx_chk_ok sx_h0 (fun u => nomatch u) kac_47
/-- X5_makePositive  -/
def ka_48 : sx_K := (48, ([sx_va [45], sx_ri 1 1], sch_34, []), [(48, [9999]), (49, [1]), (50, [1])], [([sx_ri 0 1], sch_34, [])], false)
def kan_48 : List sx_N := []
theorem kac_48 : sx_chk [] [] 6000 ka_48 kan_48 = true := by decide +kernel
theorem kah_48 (Q : List ik_E → Prop) : sx_hd Q ka_48 := sx_chk_ok sx_h0 (fun u => nomatch u) kac_48
/-- X5_solve  -/
def ka_49 : sx_K := (46, ([sx_va [45], sx_ri 1 1, sx_ri (-2147483648) 2147483647, sx_ri (-2147483648) 2147483647, sx_ri 1 3], sch_35, []), [(47, [9999]), (48, [9999]), (49, [1]), (50, [1])], [([sx_ri 0 1], sch_35, [])], false)
def kan_49 : List sx_N := []
theorem kac_49 : sx_chk [ka_42, ka_43, ka_44, ka_47, ka_48] [] 6000 ka_49 kan_49 = true := by decide +kernel
theorem kah_49 (Q : List ik_E → Prop) : sx_hd Q ka_49 := sx_chk_ok (sx_h1 (kah_42 Q) (sx_h1 (kah_43 Q) (sx_h1 (kah_44 Q) (sx_h1 (kah_47 Q) (sx_h1 (kah_48 Q) sx_h0))))) (fun u => nomatch u) kac_49
/-- X5_worthBy  -/
def ka_50 : sx_K := (52, ([sx_va [45], sx_ri 1 1, sx_ri 0 2], sch_36, []), [], [([sx_rl (-9223372036854775808) 9223372036854775807], sch_36, [])], false)
def kan_50 : List sx_N := []
theorem kac_50 : sx_chk [] [] 6000 ka_50 kan_50 = true := by decide +kernel
theorem kah_50 (Q : List ik_E → Prop) : sx_hd Q ka_50 := sx_chk_ok sx_h0 (fun u => nomatch u) kac_50
def sch_37 : sx_H := ([none, none, none, none, none, none, none, none, none, none, none, none, none, none, none, none, none, none, none, none, none, none, none, none, none, none, none, none, none, none, none, none, none, none, none, none, none, none, none, none, none, none, none, none, none, some sc_35, some sc_29, none, some sc_36, none, some sc_24], [])
/-- X5_noneIsBetter  -/
def ka_51 : sx_K := (51, ([sx_va [45], sx_ri (-2147483648) 2147483647, sx_ri (-2147483648) 2147483647, sx_ri 1 3], sch_37, []), [], [([sx_ri 0 1], sch_37, [])], false)
def kan_51 : List sx_N := [(3, [some (sx_va [45]), some (sx_ri (-2147483648) 2147483647), some (sx_ri (-2147483648) 2147483647), some (sx_ri 1 3), some (sx_ri 0 3)], sch_37, [], (3, [((-1), (0, 4, 0))]))]
theorem kac_51 : sx_chk [ka_46, ka_50] [] 6000 ka_51 kan_51 = true := by decide +kernel
theorem kah_51 (Q : List ik_E → Prop) : sx_hd Q ka_51 := sx_chk_ok (sx_h1 (kah_46 Q) (sx_h1 (kah_50 Q) sx_h0)) (fun u => nomatch u) kac_51
