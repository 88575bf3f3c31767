/-! contracts of the reference, checked (written by wip/sx/ref3.py) -/
def sr_174 : sx_C := .inr (.inr (0, 3, 0, 2))
def srh_83 : sx_H := ([], [none, none, none, none, none, none, none, none, none, none, none, none, none, none, none, none, none, none, none, none, some sr_174, some sr_174, none, none, none, none, none, none])
/-- X10_list  -/
def kr_25 : sx_K := (173, ([sx_va [86, 87], sx_ri (-2147483648) 2147483647], srh_83, []), [(86, [9999]), (87, [9999])], [([], srh_83, [])], false)
def krn_25 : List sx_N := []
theorem krc_25 : sx_chk [] [] 6000 kr_25 krn_25 = true := by decide +kernel
theorem krh_25 : sx_hd qq kr_25 := sx_chk_ok sx_h0 (fun u => nomatch u) krc_25
def sr_175 : sx_C := .inr (.inr (1, 9, (-9223372036854775808), 9223372036854775807))
def sr_176 : sx_C := .inr (.inr (1, 3, (-9223372036854775808), 9223372036854775807))
def srh_84 : sx_H := ([], [some sr_0, none, none, none, none, none, none, none, none, none, none, none, none, none, none, none, none, some sr_175, some sr_176, some sr_176, none, none, none, none, none, none, none, none])
/-- X10_isAtRest  -/
def kr_26 : sx_K := (177, ([sx_va [66], sx_ri 1 3], srh_84, []), [], [([sx_ri 0 1], srh_84, [])], false)
def krn_26 : List sx_N := [(4, [some (sx_va [66]), some (sx_ri 1 3), some (sx_ri 0 1), some (sx_ri 0 3), none, none, none, none, none], srh_84, [], (3999, [((-1000), (0, 3, 0))])), (18, [some (sx_va [66]), some (sx_ri 1 3), some (sx_ri 0 1), some (sx_ri 0 2), some (sx_rl (-9223372036854775808) 9223372036854775807), none, some (sx_rl (-9223372036854775808) 9223372036854775807), none, some (sx_ri 0 3)], srh_84, [], (3003, [((-1000), (0, 3, 0)), ((-1), (0, 8, 0))]))]
theorem krc_26 : sx_chk [] [] 6000 kr_26 krn_26 = true := by decide +kernel
theorem krh_26 : sx_hd qq kr_26 := sx_chk_ok sx_h0 (fun u => nomatch u) krc_26
def srh_85 : sx_H := ([], [some sr_0, none, none, none, none, none, none, none, none, none, none, none, none, none, none, none, none, some sr_175, some sr_176, some sr_176, some sr_174, some sr_174, none, none, none, none, none, none])
def sr_177 : sx_C := .inl (10, [sx_ri 0 12, sx_va [67], sx_va [68], sx_va [69], sx_ri (-2147483648) 2147483647, sx_va [70], sx_va [71], sx_ri (-2147483648) 2147483647, sx_ri (-2147483648) 2147483647, sx_va [72], sx_ri 0 500, sx_ri (-2147483648) 2147483647, sx_ri 0 500, sx_rl (-9223372036854775808) 9223372036854775807, sx_ri 0 500, sx_ri (-2147483648) 2147483647, sx_ri (-2147483648) 2147483647, sx_ri 0 12, sx_va [73], sx_va [74], sx_va [75], sx_va [76], sx_va [77], sx_va [78], sx_ri 0 5, sx_va [79], sx_va [80], sx_va [81], sx_va [82], sx_va [83], sx_va [84], sx_va [85], sx_rl 0 0, sx_rl (-9223372036854775808) 9223372036854775807, sx_va [86], sx_va [87], sx_ri 0 12, sx_va [88], sx_va [89], sx_va [90], sx_va [91], sx_va [92], sx_va [93]])
def srh_86 : sx_H := ([], [some sr_177, none, none, none, none, none, none, none, none, none, none, none, none, none, none, none, none, some sr_175, some sr_176, some sr_176, some sr_174, some sr_174, none, none, none, none, none, none])
def sr_178 : sx_C := .inl (10, [sx_ri 0 12, sx_va [67], sx_va [68], sx_va [69], sx_ri (-2147483648) 2147483647, sx_va [70], sx_va [71], sx_ri (-2147483648) 2147483647, sx_ri (-2147483648) 2147483647, sx_va [72], sx_ri 0 500, sx_ri (-2147483648) 2147483647, sx_ri 0 500, sx_rl (-9223372036854775808) 9223372036854775807, sx_ri 0 500, sx_ri (-2147483648) 2147483647, sx_ri (-2147483648) 2147483647, sx_ri 0 12, sx_va [73], sx_va [74], sx_va [75], sx_va [76], sx_va [77], sx_va [78], sx_ri 0 5, sx_va [79], sx_va [80], sx_va [81], sx_va [82], sx_va [83], sx_va [84], sx_va [85], sx_rl 1 9223372036854775807, sx_rl (-9223372036854775808) 9223372036854775807, sx_va [86], sx_va [87], sx_ri 0 12, sx_va [88], sx_va [89], sx_va [90], sx_va [91], sx_va [92], sx_va [93]])
def srh_87 : sx_H := ([], [some sr_178, none, none, none, none, none, none, none, none, none, none, none, none, none, none, none, none, some sr_175, some sr_176, some sr_176, some sr_174, some sr_174, none, none, none, none, none, none])
def sr_179 : sx_C := .inl (10, [sx_ri 0 12, sx_va [67], sx_va [68], sx_va [69], sx_ri (-2147483648) 2147483647, sx_va [70], sx_va [71], sx_ri (-2147483648) 2147483647, sx_ri (-2147483648) 2147483647, sx_va [72], sx_ri 0 500, sx_ri (-2147483648) 2147483647, sx_ri 0 500, sx_rl (-9223372036854775808) 9223372036854775807, sx_ri 0 500, sx_ri (-2147483648) 2147483647, sx_ri (-2147483648) 2147483647, sx_ri 0 12, sx_va [73], sx_va [74], sx_va [75], sx_va [76], sx_va [77], sx_va [78], sx_ri 0 5, sx_va [79], sx_va [80], sx_va [81], sx_va [82], sx_va [83], sx_va [84], sx_va [85], sx_rl (-9223372036854775808) (-9223372036854775808), sx_rl (-9223372036854775808) 9223372036854775807, sx_va [86], sx_va [87], sx_ri 0 12, sx_va [88], sx_va [89], sx_va [90], sx_va [91], sx_va [92], sx_va [93]])
def srh_88 : sx_H := ([], [some sr_179, none, none, none, none, none, none, none, none, none, none, none, none, none, none, none, none, some sr_175, some sr_176, some sr_176, some sr_174, some sr_174, none, none, none, none, none, none])
/-- X10_fits  -/
def kr_27 : sx_K := (176, ([sx_va [66], sx_ri 1 3, sx_ri 1 7, sx_ri (-2147483648) 2147483647], srh_85, []), [(66, [32, 33]), (84, [9999]), (85, [9999]), (86, [9999]), (87, [9999])], [([sx_ri 0 0], srh_86, []), ([sx_ri 0 1], srh_87, []), ([sx_ri 0 1], srh_88, [])], false)
def krn_27 : List sx_N := []
theorem krc_27 : sx_chk [kr_25, kr_26] [(176, 1)] 6000 kr_27 krn_27 = true := by decide +kernel
theorem krh_27 : sx_hd qq kr_27 := sx_chk_ok (sx_h1 krh_25 (sx_h1 krh_26 sx_h0)) (fun u => nomatch u) krc_27
