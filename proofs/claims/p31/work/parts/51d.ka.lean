/-! contracts of the class, checked (written by wip/sx/pub2.py) -/
/-- X1_goOn  -/
def ka_40 : sx_K := (25, ([sx_va [14], sx_ri 1 200], sch_31, []), [(14, [3, 4]), (16, [0, 1])], [([], sch_31, [])], false)
def kan_40 : List sx_N := [(2, [some (sx_va [14]), some (sx_ri 1 200), some (sx_ri 0 200)], sch_31, [], (200, [((-1), (0, 2, 0))]))]
theorem kac_40 : sx_chk [ka_38, ka_39] [] 6000 ka_40 kan_40 = true := by decide +kernel
theorem kah_40 (Q : List ik_E → Prop) : sx_hd Q ka_40 := sx_chk_ok (sx_h1 (kah_38 Q) (sx_h1 (kah_39 Q) sx_h0)) (fun u => nomatch u) kac_40
/-- X1_countWins  -/
def ka_41 : sx_K := (28, ([sx_va [14], sx_ri 1 40], sch_31, []), [(14, [3, 4]), (16, [0, 1])], [([sx_ri (-2147483648) 2147483647], sch_31, [])], false)
def kan_41 : List sx_N := [(26, [some (sx_va [14]), some (sx_ri 1 40), some (sx_ri (-1) 11), some (sx_ri (-1) 11), some (sx_ri (-2147483648) 2147483647), some (sx_ri (-2147483648) 2147483647), some (sx_ri 0 40)], sch_31, [], (40, [((-1), (0, 6, 0))]))]
theorem kac_41 : sx_chk [ka_37, ka_40] [] 6000 ka_41 kan_41 = true := by decide +kernel
theorem kah_41 (Q : List ik_E → Prop) : sx_hd Q ka_41 := sx_chk_ok (sx_h1 (kah_37 Q) (sx_h1 (kah_40 Q) sx_h0)) (fun u => nomatch u) kac_41
def sc_35 : sx_C := .inl (5, [sx_va [46], sx_va [47], sx_va [48], sx_va [49], sx_va [50]])
def sch_32 : sx_H := [none, none, none, none, none, none, none, none, none, none, none, none, none, none, none, none, none, none, none, none, none, none, none, none, none, none, none, none, none, none, none, none, none, none, none, none, none, none, none, none, none, none, none, none, none, some sc_35, some sc_29, some sc_15, none, none, none, none, none, none, none, none, none, none, none, none, none, none, none, none, none, none, none, none, none, none, none, none, none, none, none, none, none, none, none, none, none, none, none, none, none, none, none, none, none, none, none, none, none, none]
/-- X5_fillBoard  -/
def ka_42 : sx_K := (47, ([sx_va [45], sx_ri 0 0, sx_ri (-2147483648) 2147483647, sx_ri (-2147483648) 2147483647, sx_ri 1 3], sch_32, []), [(47, [9999])], [([], sch_32, [])], false)
def kan_42 : List sx_N := [(6, [some (sx_va [45]), some (sx_ri 0 0), some (sx_ri (-2147483648) 2147483647), some (sx_ri (-2147483648) 2147483647), some (sx_ri 1 3), some (sx_ri 0 3), some (sx_ri 0 3), none, none], sch_32, [(0, [(1, (0, 6, 0)), ((-1), (0, 5, 0))])], (3, [((-1), (0, 6, 0))]))]
theorem kac_42 : sx_chk [] [] 6000 ka_42 kan_42 = true := by decide +kernel
theorem kah_42 (Q : List ik_E → Prop) : sx_hd Q ka_42 := sx_chk_ok sx_h0 (fun u => nomatch u) kac_42
def sch_33 : sx_H := [none, none, none, none, none, none, none, none, none, none, none, none, none, none, none, none, none, none, none, none, none, none, none, none, none, none, none, none, none, none, none, none, none, none, none, none, none, none, none, none, none, none, none, none, none, some sc_35, none, some sc_15, none, none, none, none, none, none, none, none, none, none, none, none, none, none, none, none, none, none, none, none, none, none, none, none, none, none, none, none, none, none, none, none, none, none, none, none, none, none, none, none, none, none, none, none, none, none]
/-- X5_minor  -/
def ka_43 : sx_K := (49, ([sx_va [45], sx_ri 1 3, sx_ri 0 3], sch_33, []), [], [([sx_rl (-9223372036854775808) 9223372036854775807], sch_33, [])], false)
def kan_43 : List sx_N := []
theorem kac_43 : sx_chk [] [] 6000 ka_43 kan_43 = true := by decide +kernel
theorem kah_43 (Q : List ik_E → Prop) : sx_hd Q ka_43 := sx_chk_ok sx_h0 (fun u => nomatch u) kac_43
def sc_36 : sx_C := .inr (.inr (1, 6, (-9223372036854775808), 9223372036854775807))
def sch_34 : sx_H := [none, none, none, none, none, none, none, none, none, none, none, none, none, none, none, none, none, none, none, none, none, none, none, none, none, none, none, none, none, none, none, none, none, none, none, none, none, none, none, none, none, none, none, none, none, some sc_35, none, none, some sc_36, some sc_24, some sc_24, none, none, none, none, none, none, none, none, none, none, none, none, none, none, none, none, none, none, none, none, none, none, none, none, none, none, none, none, none, none, none, none, none, none, none, none, none, none, none, none, none, none, none]
/-- X5_makePositive  -/
def ka_44 : sx_K := (48, ([sx_va [45], sx_ri 0 0], sch_34, []), [(48, [9999]), (49, [0]), (50, [0])], [([sx_ri 0 1], sch_34, [])], false)
def kan_44 : List sx_N := []
theorem kac_44 : sx_chk [] [] 6000 ka_44 kan_44 = true := by decide +kernel
theorem kah_44 (Q : List ik_E → Prop) : sx_hd Q ka_44 := sx_chk_ok sx_h0 (fun u => nomatch u) kac_44
def sch_35 : sx_H := [none, none, none, none, none, none, none, none, none, none, none, none, none, none, none, none, none, none, none, none, none, none, none, none, none, none, none, none, none, none, none, none, none, none, none, none, none, none, none, none, none, none, none, none, none, some sc_35, some sc_29, some sc_15, some sc_36, some sc_24, some sc_24, none, none, none, none, none, none, none, none, none, none, none, none, none, none, none, none, none, none, none, none, none, none, none, none, none, none, none, none, none, none, none, none, none, none, none, none, none, none, none, none, none, none, none]
/-- X5_solve  -/
def ka_45 : sx_K := (46, ([sx_va [45], sx_ri 0 0, sx_ri (-2147483648) 2147483647, sx_ri (-2147483648) 2147483647, sx_ri 1 3], sch_35, []), [(47, [9999]), (48, [9999]), (49, [0]), (50, [0])], [([sx_ri 0 1], sch_35, [])], false)
def kan_45 : List sx_N := []
theorem kac_45 : sx_chk [ka_42, ka_43, ka_44] [] 6000 ka_45 kan_45 = true := by decide +kernel
theorem kah_45 (Q : List ik_E → Prop) : sx_hd Q ka_45 := sx_chk_ok (sx_h1 (kah_42 Q) (sx_h1 (kah_43 Q) (sx_h1 (kah_44 Q) sx_h0))) (fun u => nomatch u) kac_45
