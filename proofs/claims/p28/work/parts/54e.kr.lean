/-! contracts of the reference, checked (written by wip/sx/ref3.py) -/
def srh_76 : sx_H := ([], [some sr_0, none, none, none, none, none, none, none, none, none, none, none, none, some sr_169, none, none, none, none, none, none, none, none, none, none, none, none, none, none])
/-- X10_setIn  -/
def kr_17 : sx_K := (154, ([sx_va [66], sx_ri (-2147483648) 2147483647], srh_76, []), [(79, [9999])], [([], srh_76, [])], false)
def krn_17 : List sx_N := [(2, [some (sx_va [66]), some (sx_ri (-2147483648) 2147483647), some (sx_ri 0 12)], srh_76, [], (12, [((-1), (0, 2, 0))]))]
theorem krc_17 : sx_chk [] [] 6000 kr_17 krn_17 = true := by decide +kernel
theorem krh_17 : sx_hd qq kr_17 := sx_chk_ok sx_h0 (fun u => nomatch u) krc_17
/-- X10_oddsAt  -/
def kr_18 : sx_K := (156, ([sx_va [66], sx_ri (-2147483648) 2147483647, sx_ri (-2147483648) 2147483647, sx_ri (-1) 200], srh_74, []), [(66, [24]), (77, [0, 1, 2, 3, 4]), (78, [0, 1, 2, 3, 4]), (79, [9999]), (80, [9999])], [([], srh_74, [])], false)
def krn_18 : List sx_N := [(8, [some (sx_va [66]), some (sx_ri (-2147483648) 2147483647), some (sx_ri (-2147483648) 2147483647), some (sx_ri (-1) 200), some (sx_ri 1 201)], srh_74, [], (201, [((-1), (0, 4, 0))]))]
theorem krc_18 : sx_chk [kr_16, kr_17] [] 6000 kr_18 krn_18 = true := by decide +kernel
theorem krh_18 : sx_hd qq kr_18 := sx_chk_ok (sx_h1 krh_16 (sx_h1 krh_17 sx_h0)) (fun u => nomatch u) krc_18
def sr_171 : sx_C := .inl (10, [sx_ri 1 12, sx_va [67], sx_va [68], sx_va [69], sx_ri (-2147483648) 2147483647, sx_va [70], sx_va [71], sx_ri (-2147483648) 2147483647, sx_ri (-2147483648) 2147483647, sx_va [72], sx_ri 0 500, sx_ri (-2147483648) 2147483647, sx_ri 0 500, sx_rl (-9223372036854775808) 9223372036854775807, sx_ri 0 500, sx_ri (-2147483648) 2147483647, sx_ri (-2147483648) 2147483647, sx_ri 0 12, sx_va [73], sx_va [74], sx_va [75], sx_va [76], sx_va [77], sx_va [78], sx_ri 0 5, sx_va [79], sx_va [80], sx_va [81], sx_va [82], sx_va [83], sx_va [84], sx_va [85], sx_rl (-9223372036854775808) 9223372036854775807, sx_rl (-9223372036854775808) 9223372036854775807, sx_va [86], sx_va [87], sx_ri 0 12, sx_va [88], sx_va [89], sx_va [90], sx_va [91], sx_va [92], sx_va [93]])
def sr_172 : sx_C := .inr (.inr (1, 201, (-9223372036854775808), 9223372036854775807))
def srh_77 : sx_H := ([], [some sr_171, some sr_9, some sr_166, some sr_12, none, none, none, none, none, none, none, some sr_167, some sr_168, some sr_169, some sr_169, some sr_172, some sr_172, none, none, none, none, none, none, none, none, none, none, none])
/-- X10_comesRow  -/
def kr_19 : sx_K := (157, ([sx_va [66], sx_va [81, 82], sx_ri (-2147483648) 2147483647, sx_ri (-2147483648) 2147483647], srh_77, []), [(66, [24]), (77, [0, 1, 2, 3, 4]), (78, [0, 1, 2, 3, 4]), (79, [9999]), (80, [9999]), (81, [9999]), (82, [9999])], [([], srh_77, [])], false)
def krn_19 : List sx_N := [(20, [some (sx_va [66]), some (sx_va [81, 82]), some (sx_ri (-2147483648) 2147483647), some (sx_ri (-2147483648) 2147483647), some (sx_ri 1 201)], srh_77, [], (201, [((-1), (0, 4, 0))]))]
theorem krc_19 : sx_chk [kr_16, kr_17] [] 6000 kr_19 krn_19 = true := by decide +kernel
theorem krh_19 : sx_hd qq kr_19 := sx_chk_ok (sx_h1 krh_16 (sx_h1 krh_17 sx_h0)) (fun u => nomatch u) krc_19
def srh_78 : sx_H := ([], [some sr_0, some sr_9, some sr_166, none, none, none, none, none, none, none, none, none, none, none, none, none, none, none, none, none, none, none, none, none, none, none, none, none])
def srh_79 : sx_H := ([], [some sr_170, some sr_9, some sr_166, none, none, none, none, none, none, none, none, none, none, none, none, none, none, none, none, none, none, none, none, none, none, none, none, none])
/-- X10_lost  -/
def kr_20 : sx_K := (149, ([sx_va [66]], srh_78, []), [], [([sx_ri (-2147483648) 2147483647], srh_78, [])], false)
def krn_20 : List sx_N := [(20, [some (sx_va [66]), some (sx_ri (-2147483648) 2147483647), some (sx_ri 0 12), none, none], srh_78, [], (12999999, [((-1000000), (0, 2, 0))])), (28, [some (sx_va [66]), some (sx_ri (-2147483648) 2147483647), some (sx_ri 0 11), some (sx_ri 0 11), none], srh_78, [], (12012999, [((-1000000), (0, 2, 0)), ((-1000), (0, 3, 0))])), (41, [some (sx_va [66]), some (sx_ri (-2147483648) 2147483647), some (sx_ri 0 11), some (sx_ri 0 10), some (sx_ri 0 4)], srh_79, [], (12012004, [((-1000000), (0, 2, 0)), ((-1000), (0, 3, 0)), ((-1), (0, 4, 0))]))]
theorem krc_20 : sx_chk [] [] 6000 kr_20 krn_20 = true := by decide +kernel
theorem krh_20 : sx_hd qq kr_20 := sx_chk_ok sx_h0 (fun u => nomatch u) krc_20
def sr_173 : sx_C := .inr (.inl (0, [sx_ri 0 2, sx_ri 0 11, sx_ri 0 30, sx_ri 0 2, sx_ri 0 11, sx_ri 0 30]))
def srh_80 : sx_H := ([], [some sr_171, some sr_9, some sr_166, some sr_12, some sr_173, none, none, none, none, none, none, some sr_167, some sr_168, some sr_169, some sr_169, some sr_172, some sr_172, none, none, none, none, none, none, none, none, none, none, none])
/-- X10_suitRows  -/
def kr_21 : sx_K := (165, ([sx_va [66]], srh_80, []), [(66, [24]), (77, [0, 1, 2, 3, 4]), (78, [0, 1, 2, 3, 4]), (79, [9999]), (80, [9999]), (81, [9999]), (82, [9999])], [([], srh_80, [])], false)
def krn_21 : List sx_N := []
theorem krc_21 : sx_chk [kr_19] [] 6000 kr_21 krn_21 = true := by decide +kernel
theorem krh_21 : sx_hd qq kr_21 := sx_chk_ok (sx_h1 krh_19 sx_h0) (fun u => nomatch u) krc_21
def srh_81 : sx_H := ([], [none, none, none, none, none, none, none, none, none, none, none, none, none, none, none, some sr_172, some sr_172, none, none, none, none, none, none, none, none, none, none, none])
/-- X10_byThen  -/
def kr_22 : sx_K := (166, ([sx_va [81, 82], sx_ri (-1) 200, sx_ri 0 30], srh_81, []), [], [([sx_rl (-9223372036854775808) 9223372036854775807], srh_81, [])], false)
def krn_22 : List sx_N := []
theorem krc_22 : sx_chk [] [] 6000 kr_22 krn_22 = true := by decide +kernel
theorem krh_22 : sx_hd qq kr_22 := sx_chk_ok sx_h0 (fun u => nomatch u) krc_22
/-- X10_justThen  -/
def kr_23 : sx_K := (167, ([sx_va [81, 82], sx_ri 0 200, sx_ri 0 30], srh_81, []), [], [([sx_rl (-9223372036854775808) 9223372036854775807], srh_81, [])], false)
def krn_23 : List sx_N := []
theorem krc_23 : sx_chk [kr_22] [] 6000 kr_23 krn_23 = true := by decide +kernel
theorem krh_23 : sx_hd qq kr_23 := sx_chk_ok (sx_h1 krh_22 sx_h0) (fun u => nomatch u) krc_23
def srh_82 : sx_H := ([], [some sr_0, none, none, none, some sr_173, none, none, none, none, none, none, none, none, none, none, some sr_172, some sr_172, none, none, none, none, none, none, none, none, none, none, none])
/-- X10_laterBy  -/
def kr_24 : sx_K := (168, ([sx_va [66], sx_ri (-2147483648) 2147483647], srh_82, []), [], [([sx_ri (-2147483648) 2147483647], srh_82, [])], false)
def krn_24 : List sx_N := [(5, [some (sx_va [66]), some (sx_ri (-2147483648) 2147483647), some (sx_rl (-9223372036854775808) 9223372036854775807), none, some (sx_ri 0 201), none, none, none, none, none, none], srh_82, [], (201, [((-1), (0, 4, 0))]))]
theorem krc_24 : sx_chk [kr_22, kr_23] [] 6000 kr_24 krn_24 = true := by decide +kernel
theorem krh_24 : sx_hd qq kr_24 := sx_chk_ok (sx_h1 krh_22 (sx_h1 krh_23 sx_h0)) (fun u => nomatch u) krc_24
def sr_174 : sx_C := .inr (.inr (0, 3, 0, 2))
def srh_83 : sx_H := ([], [none, none, none, none, none, none, none, none, none, none, none, none, none, none, none, none, none, none, none, none, some sr_174, some sr_174, none, none, none, none, none, none])
/-- X10_list  -/
def kr_25 : sx_K := (173, ([sx_va [86, 87], sx_ri (-2147483648) 2147483647], srh_83, []), [(86, [9999]), (87, [9999])], [([], srh_83, [])], false)
def krn_25 : List sx_N := []
theorem krc_25 : sx_chk [] [] 6000 kr_25 krn_25 = true := by decide +kernel
theorem krh_25 : sx_hd qq kr_25 := sx_chk_ok sx_h0 (fun u => nomatch u) krc_25
def sr_175 : sx_C := .inr (.inr (1, 9, (-9223372036854775808), 9223372036854775807))
def sr_176 : sx_C := .inr (.inr (1, 3, (-9223372036854775808), 9223372036854775807))
def srh_84 : sx_H := ([], [some sr_0, none, none, none, none, none, none, none, none, none, none, none, none, none, none, none, none, some sr_175, some sr_176, some sr_176, none, none, none, none, none, none, none, none])
/-- X10_isAtRest  -/
def kr_26 : sx_K := (177, ([sx_va [66], sx_ri 1 3], srh_84, []), [], [([sx_ri 0 1], srh_84, [])], false)
def krn_26 : List sx_N := [(4, [some (sx_va [66]), some (sx_ri 1 3), some (sx_ri 0 1), some (sx_ri 0 3), none, none, none, none, none], srh_84, [], (3999, [((-1000), (0, 3, 0))])), (18, [some (sx_va [66]), some (sx_ri 1 3), some (sx_ri 0 1), some (sx_ri 0 2), some (sx_rl (-9223372036854775808) 9223372036854775807), none, some (sx_rl (-9223372036854775808) 9223372036854775807), none, some (sx_ri 0 3)], srh_84, [], (3003, [((-1000), (0, 3, 0)), ((-1), (0, 8, 0))]))]
theorem krc_26 : sx_chk [] [] 6000 kr_26 krn_26 = true := by decide +kernel
theorem krh_26 : sx_hd qq kr_26 := sx_chk_ok sx_h0 (fun u => nomatch u) krc_26
def srh_85 : sx_H := ([], [some sr_0, none, none, none, none, none, none, none, none, none, none, none, none, none, none, none, none, some sr_175, some sr_176, some sr_176, some sr_174, some sr_174, none, none, none, none, none, none])
def sr_177 : sx_C := .inl (10, [sx_ri 0 12, sx_va [67], sx_va [68], sx_va [69], sx_ri (-2147483648) 2147483647, sx_va [70], sx_va [71], sx_ri (-2147483648) 2147483647, sx_ri (-2147483648) 2147483647, sx_va [72], sx_ri 0 500, sx_ri (-2147483648) 2147483647, sx_ri 0 500, sx_rl (-9223372036854775808) 9223372036854775807, sx_ri 0 500, sx_ri (-2147483648) 2147483647, sx_ri (-2147483648) 2147483647, sx_ri 0 12, sx_va [73], sx_va [74], sx_va [75], sx_va [76], sx_va [77], sx_va [78], sx_ri 0 5, sx_va [79], sx_va [80], sx_va [81], sx_va [82], sx_va [83], sx_va [84], sx_va [85], sx_rl 0 0, sx_rl (-9223372036854775808) 9223372036854775807, sx_va [86], sx_va [87], sx_ri 0 12, sx_va [88], sx_va [89], sx_va [90], sx_va [91], sx_va [92], sx_va [93]])
def srh_86 : sx_H := ([], [some sr_177, none, none, none, none, none, none, none, none, none, none, none, none, none, none, none, none, some sr_175, some sr_176, some sr_176, some sr_174, some sr_174, none, none, none, none, none, none])
def sr_178 : sx_C := .inl (10, [sx_ri 0 12, sx_va [67], sx_va [68], sx_va [69], sx_ri (-2147483648) 2147483647, sx_va [70], sx_va [71], sx_ri (-2147483648) 2147483647, sx_ri (-2147483648) 2147483647, sx_va [72], sx_ri 0 500, sx_ri (-2147483648) 2147483647, sx_ri 0 500, sx_rl (-9223372036854775808) 9223372036854775807, sx_ri 0 500, sx_ri (-2147483648) 2147483647, sx_ri (-2147483648) 2147483647, sx_ri 0 12, sx_va [73], sx_va [74], sx_va [75], sx_va [76], sx_va [77], sx_va [78], sx_ri 0 5, sx_va [79], sx_va [80], sx_va [81], sx_va [82], sx_va [83], sx_va [84], sx_va [85], sx_rl 1 9223372036854775807, sx_rl (-9223372036854775808) 9223372036854775807, sx_va [86], sx_va [87], sx_ri 0 12, sx_va [88], sx_va [89], sx_va [90], sx_va [91], sx_va [92], sx_va [93]])
def srh_87 : sx_H := ([], [some sr_178, none, none, none, none, none, none, none, none, none, none, none, none, none, none, none, none, some sr_175, some sr_176, some sr_176, some sr_174, some sr_174, none, none, none, none, none, none])
def sr_179 : sx_C := .inl (10, [sx_ri 0 12, sx_va [67], sx_va [68], sx_va [69], sx_ri (-2147483648) 2147483647, sx_va [70], sx_va [71], sx_ri (-2147483648) 2147483647, sx_ri (-2147483648) 2147483647, sx_va [72], sx_ri 0 500, sx_ri (-2147483648) 2147483647, sx_ri 0 500, sx_rl (-9223372036854775808) 9223372036854775807, sx_ri 0 500, sx_ri (-2147483648) 2147483647, sx_ri (-2147483648) 2147483647, sx_ri 0 12, sx_va [73], sx_va [74], sx_va [75], sx_va [76], sx_va [77], sx_va [78], sx_ri 0 5, sx_va [79], sx_va [80], sx_va [81], sx_va [82], sx_va [83], sx_va [84], sx_va [85], sx_rl (-9223372036854775808) (-9223372036854775808), sx_rl (-9223372036854775808) 9223372036854775807, sx_va [86], sx_va [87], sx_ri 0 12, sx_va [88], sx_va [89], sx_va [90], sx_va [91], sx_va [92], sx_va [93]])
def srh_88 : sx_H := ([], [some sr_179, none, none, none, none, none, none, none, none, none, none, none, none, none, none, none, none, some sr_175, some sr_176, some sr_176, some sr_174, some sr_174, none, none, none, none, none, none])
/-- X10_fits  -/
def kr_27 : sx_K := (176, ([sx_va [66], sx_ri 1 3, sx_ri 1 7, sx_ri (-2147483648) 2147483647], srh_85, []), [(66, [32, 33]), (84, [9999]), (85, [9999]), (86, [9999]), (87, [9999])], [([sx_ri 0 0], srh_86, []), ([sx_ri 0 1], srh_87, []), ([sx_ri 0 1], srh_88, [])], false)
def krn_27 : List sx_N := []
theorem krc_27 : sx_chk [kr_25, kr_26] [(176, 1)] 6000 kr_27 krn_27 = true := by decide +kernel
theorem krh_27 : sx_hd qq kr_27 := sx_chk_ok (sx_h1 krh_25 (sx_h1 krh_26 sx_h0)) (fun u => nomatch u) krc_27
