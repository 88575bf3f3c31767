/-! contracts of the reference, checked (written by wip/sx/ref3.py) -/
def sr_185 : sx_C := .inr (.inr (0, 12, 0, 11))
def sr_186 : sx_C := .inr (.inr (0, 12, 0, 200))
def srh_96 : sx_H := ([], [some sr_171, some sr_9, some sr_166, some sr_12, none, none, none, none, none, none, none, some sr_167, some sr_168, some sr_169, some sr_169, none, none, none, none, none, none, none, some sr_185, some sr_186, none, none, none, none])
/-- X10_fitNow  -/
def kr_37 : sx_K := (185, ([sx_va [66]], srh_96, []), [(66, [24]), (77, [0, 1, 2, 3, 4]), (78, [0, 1, 2, 3, 4]), (79, [9999]), (80, [9999])], [([sx_ri (-2147483648) 2147483647], srh_96, [])], false)
def krn_37 : List sx_N := [(6, [some (sx_va [66]), some (sx_rl 1 9223372036854775807), none, some (sx_ri 0 12), none, none], srh_96, [], (12, [((-1), (0, 3, 0))]))]
theorem krc_37 : sx_chk [kr_16, kr_18] [] 6000 kr_37 krn_37 = true := by decide +kernel
theorem krh_37 : sx_hd qq kr_37 := sx_chk_ok (sx_h1 krh_16 (sx_h1 krh_18 sx_h0)) (fun u => nomatch u) krc_37
def sr_187 : sx_C := .inl (10, [sx_ri 0 1, sx_va [67], sx_va [68], sx_va [69], sx_ri (-2147483648) 2147483647, sx_va [70], sx_va [71], sx_ri (-2147483648) 2147483647, sx_ri (-2147483648) 2147483647, sx_va [72], sx_ri 0 500, sx_ri (-2147483648) 2147483647, sx_ri 0 500, sx_rl (-9223372036854775808) 9223372036854775807, sx_ri 0 500, sx_ri (-2147483648) 2147483647, sx_ri (-2147483648) 2147483647, sx_ri 0 12, sx_va [73], sx_va [74], sx_va [75], sx_va [76], sx_va [77], sx_va [78], sx_ri 0 5, sx_va [79], sx_va [80], sx_va [81], sx_va [82], sx_va [83], sx_va [84], sx_va [85], sx_rl (-9223372036854775808) 9223372036854775807, sx_rl (-9223372036854775808) 9223372036854775807, sx_va [86], sx_va [87], sx_ri 0 0, sx_va [88], sx_va [89], sx_va [90], sx_va [91], sx_va [92], sx_va [93]])
def srh_97 : sx_H := ([], [some sr_187, none, none, none, none, none, none, none, none, none, none, none, none, none, none, none, none, none, none, none, none, none, none, none, none, none, none, none])
/-- X10_fitNow  -/
def kr_38 : sx_K := (185, ([sx_va [66]], srh_97, []), [], [([sx_ri 1000000000 1000000000], srh_97, [])], false)
def krn_38 : List sx_N := []
theorem krc_38 : sx_chk [] [] 6000 kr_38 krn_38 = true := by decide +kernel
theorem krh_38 : sx_hd qq kr_38 := sx_chk_ok sx_h0 (fun u => nomatch u) krc_38
def srh_98 : sx_H := ([], [some sr_171, some sr_9, some sr_166, some sr_12, none, none, none, none, none, none, none, some sr_167, some sr_168, none, none, none, none, none, none, none, none, none, none, none, none, none, none, none])
/-- X10_onFrom  -/
def kr_39 : sx_K := (205, ([sx_va [66], sx_ri (-2147483648) 2147483647], srh_73, []), [(66, [24]), (77, [0, 1, 2, 3, 4]), (78, [0, 1, 2, 3, 4])], [([sx_ri (-2147483648) 2147483647], srh_73, [])], false)
def krn_39 : List sx_N := [(4, [some (sx_va [66]), some (sx_ri (-2147483648) 2147483647), some (sx_ri (-2147483648) 2147483647), some (sx_ri 0 12), none], srh_73, [], (12999, [((-1000), (0, 3, 0))])), (53, [some (sx_va [66]), some (sx_ri (-2147483648) 2147483647), some (sx_ri (-2147483648) 2147483647), some (sx_ri 0 11), some (sx_ri 0 5)], srh_98, [], (12005, [((-1000), (0, 3, 0)), ((-1), (0, 4, 0))]))]
theorem krc_39 : sx_chk [kr_15] [] 6000 kr_39 krn_39 = true := by decide +kernel
theorem krh_39 : sx_hd qq kr_39 := sx_chk_ok (sx_h1 krh_15 sx_h0) (fun u => nomatch u) krc_39
def srh_99 : sx_H := ([], [some sr_170, some sr_9, some sr_166, some sr_12, some sr_173, some sr_181, none, none, none, none, none, some sr_167, some sr_168, some sr_169, some sr_169, some sr_172, some sr_172, some sr_175, none, none, none, none, none, none, none, none, none, none])
/-- X10_findFears  -/
def kr_40 : sx_K := (178, ([sx_va [66], sx_ri 0 10, sx_ri 1 1], srh_99, [((-1), [(1, (1, 66, 0)), ((-1), (1, 71, 0))]), ((-1), [(1, (1, 66, 0)), ((-1), (1, 71, 1))]), (4294967295, [(4294967296, (1, 71, 0)), (1, (1, 70, 2)), ((-1), (1, 66, 7))]), (4294967295, [(4294967296, (1, 71, 1)), (1, (1, 70, 5)), ((-1), (1, 66, 7))]), ((-1), [(1, (1, 66, 0)), ((-1), (1, 70, 1))]), ((-1), [(1, (1, 66, 0)), ((-1), (1, 70, 4))])]), [(66, [24]), (70, [1, 2, 4, 5]), (77, [0, 1, 2, 3, 4]), (78, [0, 1, 2, 3, 4]), (79, [9999]), (80, [9999]), (81, [9999]), (82, [9999]), (83, [9999])], [([], srh_99, [((-1), [(1, (1, 66, 0)), ((-1), (1, 71, 0))]), ((-1), [(1, (1, 66, 0)), ((-1), (1, 71, 1))]), (4294967295, [(4294967296, (1, 71, 0)), (1, (1, 70, 2)), ((-1), (1, 66, 7))]), (4294967295, [(4294967296, (1, 71, 1)), (1, (1, 70, 5)), ((-1), (1, 66, 7))]), ((-1), [(1, (1, 66, 0)), ((-1), (1, 70, 1))]), ((-1), [(1, (1, 66, 0)), ((-1), (1, 70, 4))])])], false)
def krn_40 : List sx_N := []
theorem krc_40 : sx_chk [kr_21, kr_24] [] 6000 kr_40 krn_40 = true := by decide +kernel
theorem krh_40 : sx_hd qq kr_40 := sx_chk_ok (sx_h1 krh_21 (sx_h1 krh_24 sx_h0)) (fun u => nomatch u) krc_40
/-- X10_findFears  -/
def kr_41 : sx_K := (178, ([sx_va [66], sx_ri 0 9, sx_ri 2 2], srh_99, [((-1), [(1, (1, 66, 0)), ((-1), (1, 71, 0))]), ((-1), [(1, (1, 66, 0)), ((-1), (1, 71, 1))]), (4294967295, [(4294967296, (1, 71, 0)), (1, (1, 70, 2)), ((-1), (1, 66, 7))]), (4294967295, [(4294967296, (1, 71, 1)), (1, (1, 70, 5)), ((-1), (1, 66, 7))]), ((-1), [(1, (1, 66, 0)), ((-1), (1, 70, 1))]), ((-1), [(1, (1, 66, 0)), ((-1), (1, 70, 4))])]), [(66, [24]), (70, [1, 2, 4, 5]), (77, [0, 1, 2, 3, 4]), (78, [0, 1, 2, 3, 4]), (79, [9999]), (80, [9999]), (81, [9999]), (82, [9999]), (83, [9999])], [([], srh_99, [((-1), [(1, (1, 66, 0)), ((-1), (1, 71, 0))]), ((-1), [(1, (1, 66, 0)), ((-1), (1, 71, 1))]), (4294967295, [(4294967296, (1, 71, 0)), (1, (1, 70, 2)), ((-1), (1, 66, 7))]), (4294967295, [(4294967296, (1, 71, 1)), (1, (1, 70, 5)), ((-1), (1, 66, 7))]), ((-1), [(1, (1, 66, 0)), ((-1), (1, 70, 1))]), ((-1), [(1, (1, 66, 0)), ((-1), (1, 70, 4))])])], false)
def krn_41 : List sx_N := []
theorem krc_41 : sx_chk [kr_21, kr_24] [] 6000 kr_41 krn_41 = true := by decide +kernel
theorem krh_41 : sx_hd qq kr_41 := sx_chk_ok (sx_h1 krh_21 (sx_h1 krh_24 sx_h0)) (fun u => nomatch u) krc_41
/-- X10_findFears  -/
def kr_42 : sx_K := (178, ([sx_va [66], sx_ri 0 8, sx_ri 3 3], srh_99, [((-1), [(1, (1, 66, 0)), ((-1), (1, 71, 0))]), ((-1), [(1, (1, 66, 0)), ((-1), (1, 71, 1))]), (4294967295, [(4294967296, (1, 71, 0)), (1, (1, 70, 2)), ((-1), (1, 66, 7))]), (4294967295, [(4294967296, (1, 71, 1)), (1, (1, 70, 5)), ((-1), (1, 66, 7))]), ((-1), [(1, (1, 66, 0)), ((-1), (1, 70, 1))]), ((-1), [(1, (1, 66, 0)), ((-1), (1, 70, 4))])]), [(66, [24]), (70, [1, 2, 4, 5]), (77, [0, 1, 2, 3, 4]), (78, [0, 1, 2, 3, 4]), (79, [9999]), (80, [9999]), (81, [9999]), (82, [9999]), (83, [9999])], [([], srh_99, [((-1), [(1, (1, 66, 0)), ((-1), (1, 71, 0))]), ((-1), [(1, (1, 66, 0)), ((-1), (1, 71, 1))]), (4294967295, [(4294967296, (1, 71, 0)), (1, (1, 70, 2)), ((-1), (1, 66, 7))]), (4294967295, [(4294967296, (1, 71, 1)), (1, (1, 70, 5)), ((-1), (1, 66, 7))]), ((-1), [(1, (1, 66, 0)), ((-1), (1, 70, 1))]), ((-1), [(1, (1, 66, 0)), ((-1), (1, 70, 4))])])], false)
def krn_42 : List sx_N := []
theorem krc_42 : sx_chk [kr_21, kr_24] [] 6000 kr_42 krn_42 = true := by decide +kernel
theorem krh_42 : sx_hd qq kr_42 := sx_chk_ok (sx_h1 krh_21 (sx_h1 krh_24 sx_h0)) (fun u => nomatch u) krc_42
def sr_188 : sx_C := .inr (.inr (0, 80, 0, 12))
def srh_100 : sx_H := ([], [some sr_0, some sr_9, some sr_166, some sr_12, some sr_173, none, none, none, none, none, none, some sr_167, some sr_168, none, none, none, none, none, none, none, none, none, none, none, none, some sr_188, none, none])
/-- X10_mayBe  -/
def kr_43 : sx_K := (206, ([sx_va [66], sx_ri 0 1, sx_ri 0 39], srh_100, []), [(66, [24]), (77, [0, 1, 2, 3, 4]), (78, [0, 1, 2, 3, 4])], [([sx_ri 0 1], srh_100, [])], false)
def krn_43 : List sx_N := []
theorem krc_43 : sx_chk [kr_39] [] 6000 kr_43 krn_43 = true := by decide +kernel
theorem krh_43 : sx_hd qq kr_43 := sx_chk_ok (sx_h1 krh_39 sx_h0) (fun u => nomatch u) krc_43
def srh_101 : sx_H := ([], [some sr_170, some sr_9, some sr_166, some sr_12, some sr_173, none, none, none, none, none, none, some sr_167, some sr_168, some sr_169, some sr_169, some sr_172, some sr_172, none, none, none, none, none, none, none, none, none, none, none])
/-- X10_isFair  -/
def kr_44 : sx_K := (190, ([sx_va [66], sx_ri (-2147483648) 2147483647], srh_101, []), [(66, [24]), (77, [0, 1, 2, 3, 4]), (78, [0, 1, 2, 3, 4]), (79, [9999]), (80, [9999]), (81, [9999]), (82, [9999])], [([sx_ri 0 1], srh_101, [])], false)
def krn_44 : List sx_N := []
theorem krc_44 : sx_chk [kr_21, kr_24] [] 6000 kr_44 krn_44 = true := by decide +kernel
theorem krh_44 : sx_hd qq kr_44 := sx_chk_ok (sx_h1 krh_21 (sx_h1 krh_24 sx_h0)) (fun u => nomatch u) krc_44
def srh_102 : sx_H := ([], [some sr_170, some sr_9, some sr_166, some sr_11, some sr_173, none, none, none, none, none, none, some sr_167, some sr_168, some sr_169, some sr_169, some sr_172, some sr_172, none, none, none, none, none, none, none, none, none, none, none])
/-- X10_findFair by hand -/
def kr_45 : sx_K := (191, ([sx_va [66], sx_ri (-2147483648) 2147483647], srh_102, []), [(66, [24]), (77, [0, 1, 2, 3, 4]), (78, [0, 1, 2, 3, 4]), (79, [9999]), (80, [9999]), (81, [9999]), (82, [9999])], [([sx_ri (-1) 201032], srh_102, [])], false)
