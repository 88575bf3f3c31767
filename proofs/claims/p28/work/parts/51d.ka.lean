/-! contracts of the class, checked (written by wip/sx/pub2.py) -/
def sc_32 : sx_C := .inl (1, [sx_va [7], sx_va [15], sx_va [16], sx_ri (-2147483648) 2147483647, sx_rl (-9223372036854775808) 9223372036854775807])
def sc_33 : sx_C := .inr (.inl (0, [sx_ri (-1) 11, sx_ri (-1) 11]))
def sch_29 : sx_H := ([none, none, none, none, none, none, none, none, none, none, none, none, none, none, some sc_32, some sc_26, some sc_33], [])
def sc_34 : sx_C := .inl (1, [sx_va [7], sx_va [15], sx_va [16], sx_ri 0 0, sx_rl (-9223372036854775808) 9223372036854775807])
def sch_30 : sx_H := ([none, none, none, none, none, none, none, none, none, none, none, none, none, none, some sc_34, some sc_26, some sc_33], [])
/-- X1_restart  -/
def ka_37 : sx_K := (23, ([sx_va [14]], sch_29, []), [(14, [3]), (16, [0, 1])], [([], sch_30, [])], false)
def kan_37 : List sx_N := []
theorem kac_37 : sx_chk [] [] 6000 ka_37 kan_37 = true := by decide +kernel
theorem kah_37 (Q : List ik_E → Prop) : sx_hd Q ka_37 := sx_chk_ok sx_h0 (fun u => nomatch u) kac_37
def sch_31 : sx_H := ([none, none, none, none, none, none, none, some sc_9, none, none, none, some sc_10, some sc_11, some sc_12, some sc_32, some sc_26, some sc_33], [])
/-- X1_passMinute  -/
def ka_38 : sx_K := (26, ([sx_va [14], sx_ri 0 0], sch_31, []), [(14, [4]), (16, [0])], [([], sch_31, [])], false)
def kan_38 : List sx_N := []
theorem kac_38 : sx_chk [ka_17] [] 6000 ka_38 kan_38 = true := by decide +kernel
theorem kah_38 (Q : List ik_E → Prop) : sx_hd Q ka_38 := sx_chk_ok (sx_h1 (kah_17 Q) sx_h0) (fun u => nomatch u) kac_38
/-- X1_passMinute  -/
def ka_39 : sx_K := (26, ([sx_va [14], sx_ri 1 1], sch_31, []), [(14, [4]), (16, [1])], [([], sch_31, [])], false)
def kan_39 : List sx_N := []
theorem kac_39 : sx_chk [ka_17] [] 6000 ka_39 kan_39 = true := by decide +kernel
theorem kah_39 (Q : List ik_E → Prop) : sx_hd Q ka_39 := sx_chk_ok (sx_h1 (kah_17 Q) sx_h0) (fun u => nomatch u) kac_39
/-- X1_goOn  -/
def ka_40 : sx_K := (25, ([sx_va [14], sx_ri 1 200], sch_31, []), [(14, [3, 4]), (16, [0, 1])], [([], sch_31, [])], false)
def kan_40 : List sx_N := [(2, [some (sx_va [14]), some (sx_ri 1 200), some (sx_ri 0 200)], sch_31, [], (200, [((-1), (0, 2, 0))]))]
theorem kac_40 : sx_chk [ka_38, ka_39] [] 6000 ka_40 kan_40 = true := by decide +kernel
theorem kah_40 (Q : List ik_E → Prop) : sx_hd Q ka_40 := sx_chk_ok (sx_h1 (kah_38 Q) (sx_h1 (kah_39 Q) sx_h0)) (fun u => nomatch u) kac_40
/-- X1_countWins  -/
def ka_41 : sx_K := (28, ([sx_va [14], sx_ri 1 40], sch_31, []), [(14, [3, 4]), (16, [0, 1])], [([sx_ri (-2147483648) 2147483647], sch_31, [])], false)
def kan_41 : List sx_N := [(26, [some (sx_va [14]), some (sx_ri 1 40), some (sx_ri (-1) 11), some (sx_ri (-1) 11), some (sx_ri (-2147483648) 2147483647), some (sx_ri (-2147483648) 2147483647), some (sx_ri 0 40)], sch_31, [], (40, [((-1), (0, 6, 0))]))]
theorem kac_41 : sx_chk [ka_37, ka_40] [] 6000 ka_41 kan_41 = true := by decide +kernel
theorem kah_41 (Q : List ik_E → Prop) : sx_hd Q ka_41 := sx_chk_ok (sx_h1 (kah_37 Q) (sx_h1 (kah_40 Q) sx_h0)) (fun u => nomatch u) kac_41
def sc_35 : sx_C := .inl (5, [sx_va [46], sx_va [47], sx_va [48], sx_va [49], sx_va [50]])
def sch_32 : sx_H := ([none, none, none, none, none, none, none, none, none, none, none, none, none, none, none, none, none, none, none, none, none, none, none, none, none, none, none, none, none, none, none, none, none, none, none, none, none, none, none, none, none, none, none, none, none, some sc_35, some sc_29, some sc_15], [])
/-- X5_fillBoard  -/
def ka_42 : sx_K := (47, ([sx_va [45], sx_ri 0 0, sx_ri (-2147483648) 2147483647, sx_ri (-2147483648) 2147483647, sx_ri 1 3], sch_32, []), [(47, [9999])], [([], sch_32, [])], false)
def kan_42 : List sx_N := [(6, [some (sx_va [45]), some (sx_ri 0 0), some (sx_ri (-2147483648) 2147483647), some (sx_ri (-2147483648) 2147483647), some (sx_ri 1 3), some (sx_ri 0 3), some (sx_ri 0 3), none, none], sch_32, [(0, [(1, (0, 6, 0)), ((-1), (0, 5, 0))])], (3, [((-1), (0, 6, 0))]))]
theorem kac_42 : sx_chk [] [] 6000 ka_42 kan_42 = true := by decide +kernel
theorem kah_42 (Q : List ik_E → Prop) : sx_hd Q ka_42 := sx_chk_ok sx_h0 (fun u => nomatch u) kac_42
def sch_33 : sx_H := ([none, none, none, none, none, none, none, none, none, none, none, none, none, none, none, none, none, none, none, none, none, none, none, none, none, none, none, none, none, none, none, none, none, none, none, none, none, none, none, none, none, none, none, none, none, some sc_35, none, some sc_15], [])
/-- X5_minor  -/
def ka_43 : sx_K := (49, ([sx_va [45], sx_ri 1 3, sx_ri 0 3], sch_33, []), [], [([sx_rl (-9223372036854775808) 9223372036854775807], sch_33, [])], false)
def kan_43 : List sx_N := []
theorem kac_43 : sx_chk [] [] 6000 ka_43 kan_43 = true := by decide +kernel
theorem kah_43 (Q : List ik_E → Prop) : sx_hd Q ka_43 := sx_chk_ok sx_h0 (fun u => nomatch u) kac_43
