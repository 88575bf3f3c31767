def sc_0 : sx_C := .inl (6, [sx_va [2], sx_ri 0 500, sx_ri 0 500, sx_ri (-2147483648) 2147483647, sx_ri (-2147483648) 2147483647, sx_ri 0 12, sx_va [3], sx_va [4], sx_va [5], sx_va [6]])
def sc_1 : sx_C := .inr (.inr (2, 500, (-128), 127))
def sch_0 : sx_H := [none, some sc_0, some sc_1, none, none, none, none, none, none, none, none, none, none, none, none, none, none, none, none, none, none, none, none, none, none, none, none, none, none, none, none, none, none, none, none, none, none, none, none, none, none, none, none, none, none, none, none, none, none, none, none, none, none, none, none, none, none, none, none, none, none, none, none, none, none, none, none, none, none, none, none, none, none, none, none, none, none, none, none, none, none, none, none, none, none, none, none, none, none, none, none, none, none, none]
def sc_2 : sx_C := .inl (6, [sx_va [2], sx_ri 1 500, sx_ri 1 500, sx_ri (-2147483648) 2147483647, sx_ri (-2147483648) 2147483647, sx_ri 0 12, sx_va [3], sx_va [4], sx_va [5], sx_va [6]])
def sch_1 : sx_H := [none, some sc_2, some sc_1, none, none, none, none, none, none, none, none, none, none, none, none, none, none, none, none, none, none, none, none, none, none, none, none, none, none, none, none, none, none, none, none, none, none, none, none, none, none, none, none, none, none, none, none, none, none, none, none, none, none, none, none, none, none, none, none, none, none, none, none, none, none, none, none, none, none, none, none, none, none, none, none, none, none, none, none, none, none, none, none, none, none, none, none, none, none, none, none, none, none, none]
/-- X6_skipBlanks  -/
def ka_0 : sx_K := (66, ([sx_va [1]], sch_0, []), [(1, [2])], [([], sch_0, [])], false)
def kan_0 : List sx_N := [(0, [some (sx_va [1])], sch_1, [], (500, [((-1), (1, 1, 2))]))]
theorem kac_0 : sx_chk [] [] 4000 ka_0 kan_0 = true := by decide +kernel
/-- X6_readWord  -/
def ka_1 : sx_K := (64, ([sx_va [1], sx_vo 1], sch_0, []), [(1, [2])], [([sx_ri 0 1], sch_0, [])], false)
def kan_1 : List sx_N := [(5, [some (sx_va [1]), some (sx_vo 1), some (sx_ri 0 500), none], sch_0, [], (500, [((-1), (0, 2, 0))]))]
theorem kac_1 : sx_chk [] [] 4000 ka_1 kan_1 = true := by decide +kernel
/-- X6_readWord  -/
def ka_2 : sx_K := (64, ([sx_va [1], sx_vo 3], sch_0, []), [(1, [2])], [([sx_ri 0 1], sch_0, [])], false)
def kan_2 : List sx_N := [(5, [some (sx_va [1]), some (sx_vo 3), some (sx_ri 0 500), none], sch_0, [], (500, [((-1), (0, 2, 0))]))]
theorem kac_2 : sx_chk [] [] 4000 ka_2 kan_2 = true := by decide +kernel
/-- X6_readWord  -/
def ka_3 : sx_K := (64, ([sx_va [1], sx_vo 5], sch_0, []), [(1, [2])], [([sx_ri 0 1], sch_0, [])], false)
def kan_3 : List sx_N := [(5, [some (sx_va [1]), some (sx_vo 5), some (sx_ri 0 500), none], sch_0, [], (500, [((-1), (0, 2, 0))]))]
theorem kac_3 : sx_chk [] [] 4000 ka_3 kan_3 = true := by decide +kernel
/-- X6_readNumber  -/
def ka_4 : sx_K := (63, ([sx_va [1], sx_ri 0 0, sx_ri 11 11], sch_0, []), [(1, [2, 3, 4])], [([sx_ri (-1) 11], sch_0, [])], false)
def kan_4 : List sx_N := [(8, [some (sx_va [1]), some (sx_ri 0 0), some (sx_ri 11 11), some (sx_ri 0 500), some (sx_ri (-2147483648) 1000)], sch_0, [], (500, [((-1), (1, 1, 2))]))]
theorem kac_4 : sx_chk [] [] 4000 ka_4 kan_4 = true := by decide +kernel
/-- X6_readNumber  -/
def ka_5 : sx_K := (63, ([sx_va [1], sx_ri 1 1, sx_ri 100 100], sch_0, []), [(1, [2, 3, 4])], [([sx_ri (-1) 100], sch_0, [])], false)
def kan_5 : List sx_N := [(8, [some (sx_va [1]), some (sx_ri 1 1), some (sx_ri 100 100), some (sx_ri 0 500), some (sx_ri (-2147483648) 1000)], sch_0, [], (500, [((-1), (1, 1, 2))]))]
theorem kac_5 : sx_chk [] [] 4000 ka_5 kan_5 = true := by decide +kernel
