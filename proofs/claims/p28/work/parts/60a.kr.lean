/-! contracts of the reference, checked (written by wip/sx/ref3.py) -/
def srh_114 : sx_H := ([], [some sr_170, none, none, none, none, none, some sr_1, none, none, none, none, none, none, none, none, none, none, none, none, none, none, none, none, none, none, none, none, none])
/-- X10_feed A -/
def kr_46 : sx_K := (135, ([sx_va [66], sx_ri (-2147483648) 2147483647, sx_rl (-9223372036854775808) 9223372036854775807], srh_114, []), [(66, [10]), (72, [9999])], [([sx_ri (-1000000004) 500], srh_114, [])], false)
def krn_46 : List sx_N := []
theorem krc_46 : sx_chk [] [] 6000 kr_46 krn_46 = true := by decide +kernel
theorem krh_46 : sx_hd qq kr_46 := sx_chk_ok sx_h0 (fun u => nomatch u) krc_46
def srh_115 : sx_H := ([], [some sr_187, none, none, none, none, none, some sr_1, none, none, none, none, none, none, none, none, none, none, none, none, none, none, none, none, none, none, none, none, none])
/-- X10_feed B -/
def kr_47 : sx_K := (135, ([sx_va [66], sx_ri (-2147483648) 2147483647, sx_rl (-9223372036854775808) 9223372036854775807], srh_115, []), [(66, [10]), (72, [9999])], [([sx_ri (-1000000004) 500], srh_115, [])], false)
def krn_47 : List sx_N := []
theorem krc_47 : sx_chk [] [] 6000 kr_47 krn_47 = true := by decide +kernel
theorem krh_47 : sx_hd qq kr_47 := sx_chk_ok sx_h0 (fun u => nomatch u) krc_47
def srh_116 : sx_H := ([], [some sr_170, none, none, none, none, none, none, none, none, none, none, none, none, none, none, none, none, none, none, none, none, none, none, none, none, none, none, none])
/-- X10_fault A -/
def kr_48 : sx_K := (148, ([sx_va [66]], srh_116, []), [], [([sx_ri (-2147483648) 2147483647], srh_116, [])], false)
def krn_48 : List sx_N := []
theorem krc_48 : sx_chk [] [] 6000 kr_48 krn_48 = true := by decide +kernel
theorem krh_48 : sx_hd qq kr_48 := sx_chk_ok sx_h0 (fun u => nomatch u) krc_48
/-- X10_fault B -/
def kr_49 : sx_K := (148, ([sx_va [66]], srh_97, []), [], [([sx_ri (-2147483648) 2147483647], srh_97, [])], false)
def krn_49 : List sx_N := []
theorem krc_49 : sx_chk [] [] 6000 kr_49 krn_49 = true := by decide +kernel
theorem krh_49 : sx_hd qq kr_49 := sx_chk_ok sx_h0 (fun u => nomatch u) krc_49
def sr_200 : sx_C := .inr (.inl (0, [sx_ri 0 40, sx_ri 0 40]))
def srh_117 : sx_H := ([], [some sr_170, some sr_9, some sr_166, none, none, none, none, none, none, none, none, none, none, none, none, none, none, none, none, none, none, none, none, none, some sr_200, none, none, none])
/-- X10_told A -/
def kr_50 : sx_K := (150, ([sx_va [66], sx_ri (-2147483648) 2147483647], srh_117, []), [], [([sx_ri (-2147483648) 2147483647], srh_117, [])], false)
def krn_50 : List sx_N := []
theorem krc_50 : sx_chk [kr_20] [] 6000 kr_50 krn_50 = true := by decide +kernel
theorem krh_50 : sx_hd qq kr_50 := sx_chk_ok (sx_h1 krh_20 sx_h0) (fun u => nomatch u) krc_50
def srh_118 : sx_H := ([], [some sr_187, some sr_9, some sr_166, none, none, none, none, none, none, none, none, none, none, none, none, none, none, none, none, none, none, none, none, none, some sr_200, none, none, none])
/-- X10_told B -/
def kr_51 : sx_K := (150, ([sx_va [66], sx_ri (-2147483648) 2147483647], srh_118, []), [], [([sx_ri (-2147483648) 2147483647], srh_118, [])], false)
def krn_51 : List sx_N := []
theorem krc_51 : sx_chk [kr_20] [] 6000 kr_51 krn_51 = true := by decide +kernel
theorem krh_51 : sx_hd qq kr_51 := sx_chk_ok (sx_h1 krh_20 sx_h0) (fun u => nomatch u) krc_51
def srh_119 : sx_H := ([], [some sr_170, some sr_9, some sr_166, some sr_12, none, none, none, none, none, none, none, none, none, none, none, none, none, none, none, none, none, none, none, none, none, none, none, none])
/-- X10_move A -/
def kr_52 : sx_K := (151, ([sx_va [66], sx_ri (-2147483648) 2147483647, sx_ri (-2147483648) 2147483647, sx_ri (-2147483648) 2147483647], srh_119, []), [], [([sx_ri (-2147483648) 2147483647], srh_119, [])], false)
def krn_52 : List sx_N := []
theorem krc_52 : sx_chk [] [] 6000 kr_52 krn_52 = true := by decide +kernel
theorem krh_52 : sx_hd qq kr_52 := sx_chk_ok sx_h0 (fun u => nomatch u) krc_52
def srh_120 : sx_H := ([], [some sr_187, some sr_9, some sr_166, some sr_12, none, none, none, none, none, none, none, none, none, none, none, none, none, none, none, none, none, none, none, none, none, none, none, none])
/-- X10_move B -/
def kr_53 : sx_K := (151, ([sx_va [66], sx_ri (-2147483648) 2147483647, sx_ri (-2147483648) 2147483647, sx_ri (-2147483648) 2147483647], srh_120, []), [], [([sx_ri (-2147483648) 2147483647], srh_120, [])], false)
def krn_53 : List sx_N := []
theorem krc_53 : sx_chk [] [] 6000 kr_53 krn_53 = true := by decide +kernel
theorem krh_53 : sx_hd qq kr_53 := sx_chk_ok sx_h0 (fun u => nomatch u) krc_53
/-- X10_cork A -/
def kr_54 : sx_K := (158, ([sx_va [66], sx_ri (-2147483648) 2147483647, sx_ri (-2147483648) 2147483647, sx_ri (-2147483648) 2147483647], srh_91, [((-1), [(1, (1, 66, 0)), ((-1), (1, 71, 0))]), ((-1), [(1, (1, 66, 0)), ((-1), (1, 71, 1))]), (4294967295, [(4294967296, (1, 71, 0)), (1, (1, 70, 2)), ((-1), (1, 66, 7))]), (4294967295, [(4294967296, (1, 71, 1)), (1, (1, 70, 5)), ((-1), (1, 66, 7))]), ((-1), [(1, (1, 66, 0)), ((-1), (1, 70, 1))]), ((-1), [(1, (1, 66, 0)), ((-1), (1, 70, 4))])]), [(66, [7]), (70, [0, 1, 2, 3, 4, 5]), (71, [0, 1])], [([sx_ri (-1000000002) 30], srh_91, [((-1), [(1, (1, 66, 0)), ((-1), (1, 71, 0))]), ((-1), [(1, (1, 66, 0)), ((-1), (1, 71, 1))]), (4294967295, [(4294967296, (1, 71, 0)), (1, (1, 70, 2)), ((-1), (1, 66, 7))]), (4294967295, [(4294967296, (1, 71, 1)), (1, (1, 70, 5)), ((-1), (1, 66, 7))]), ((-1), [(1, (1, 66, 0)), ((-1), (1, 70, 1))]), ((-1), [(1, (1, 66, 0)), ((-1), (1, 70, 4))])])], false)
def krn_54 : List sx_N := []
theorem krc_54 : sx_chk [] [(158, 11), (158, 85)] 6000 kr_54 krn_54 = true := by decide +kernel
theorem krh_54 : sx_hd qq kr_54 := sx_chk_ok sx_h0 (fun u => nomatch u) krc_54
/-- X10_cork B -/
def kr_55 : sx_K := (158, ([sx_va [66], sx_ri (-2147483648) 2147483647, sx_ri (-2147483648) 2147483647, sx_ri (-2147483648) 2147483647], srh_97, []), [], [([sx_ri (-1000000003) (-1000000001)], srh_97, [])], false)
def krn_55 : List sx_N := []
theorem krc_55 : sx_chk [] [(158, 11), (158, 85)] 6000 kr_55 krn_55 = true := by decide +kernel
theorem krh_55 : sx_hd qq kr_55 := sx_chk_ok sx_h0 (fun u => nomatch u) krc_55
/-- X10_comes A -/
def kr_56 : sx_K := (160, ([sx_va [66], sx_ri (-2147483648) 2147483647, sx_ri (-2147483648) 2147483647, sx_ri (-2147483648) 2147483647], srh_75, []), [(66, [24]), (77, [0, 1, 2, 3, 4]), (78, [0, 1, 2, 3, 4]), (79, [9999]), (80, [9999])], [([sx_ri (-2147483648) 2147483647], srh_75, [])], false)
def krn_56 : List sx_N := []
theorem krc_56 : sx_chk [kr_18] [] 6000 kr_56 krn_56 = true := by decide +kernel
theorem krh_56 : sx_hd qq kr_56 := sx_chk_ok (sx_h1 krh_18 sx_h0) (fun u => nomatch u) krc_56
def srh_121 : sx_H := ([], [some sr_187, some sr_9, some sr_166, some sr_12, none, none, none, none, none, none, none, some sr_167, some sr_168, some sr_169, some sr_169, none, none, none, none, none, none, none, none, none, none, none, none, none])
/-- X10_comes B -/
def kr_57 : sx_K := (160, ([sx_va [66], sx_ri (-2147483648) 2147483647, sx_ri (-2147483648) 2147483647, sx_ri (-2147483648) 2147483647], srh_121, []), [(66, [24]), (77, [0, 1, 2, 3, 4]), (78, [0, 1, 2, 3, 4]), (79, [9999]), (80, [9999])], [([sx_ri (-2147483648) 2147483647], srh_121, [])], false)
def krn_57 : List sx_N := []
theorem krc_57 : sx_chk [kr_18] [] 6000 kr_57 krn_57 = true := by decide +kernel
theorem krh_57 : sx_hd qq kr_57 := sx_chk_ok (sx_h1 krh_18 sx_h0) (fun u => nomatch u) krc_57
/-- X10_at A -/
def kr_58 : sx_K := (161, ([sx_va [66], sx_ri (-2147483648) 2147483647, sx_ri (-2147483648) 2147483647, sx_ri (-2147483648) 2147483647, sx_ri (-2147483648) 2147483647], srh_75, []), [(66, [24]), (77, [0, 1, 2, 3, 4]), (78, [0, 1, 2, 3, 4]), (79, [9999]), (80, [9999])], [([sx_ri (-2147483648) 2147483647], srh_75, [])], false)
def krn_58 : List sx_N := []
theorem krc_58 : sx_chk [kr_18] [] 6000 kr_58 krn_58 = true := by decide +kernel
theorem krh_58 : sx_hd qq kr_58 := sx_chk_ok (sx_h1 krh_18 sx_h0) (fun u => nomatch u) krc_58
/-- X10_at B -/
def kr_59 : sx_K := (161, ([sx_va [66], sx_ri (-2147483648) 2147483647, sx_ri (-2147483648) 2147483647, sx_ri (-2147483648) 2147483647, sx_ri (-2147483648) 2147483647], srh_121, []), [(66, [24]), (77, [0, 1, 2, 3, 4]), (78, [0, 1, 2, 3, 4]), (79, [9999]), (80, [9999])], [([sx_ri (-2147483648) 2147483647], srh_121, [])], false)
def krn_59 : List sx_N := []
theorem krc_59 : sx_chk [kr_18] [] 6000 kr_59 krn_59 = true := by decide +kernel
theorem krh_59 : sx_hd qq kr_59 := sx_chk_ok (sx_h1 krh_18 sx_h0) (fun u => nomatch u) krc_59
/-- X10_kept A -/
def kr_60 : sx_K := (162, ([sx_va [66], sx_ri (-2147483648) 2147483647, sx_ri (-2147483648) 2147483647, sx_ri (-2147483648) 2147483647], srh_75, []), [(66, [24]), (77, [0, 1, 2, 3, 4]), (78, [0, 1, 2, 3, 4]), (79, [9999]), (80, [9999])], [([sx_ri (-2147483648) 2147483647], srh_75, [])], false)
def krn_60 : List sx_N := [(47, [some (sx_va [66]), some (sx_ri 0 2), some (sx_ri 0 11), some (sx_ri 0 200), some (sx_rl (-9223372036854775808) 9223372036854775807), none, some (sx_ri (-2147483648) 2147483647), some (sx_ri 0 12)], srh_75, [], (12, [((-1), (0, 7, 0))]))]
theorem krc_60 : sx_chk [kr_18, kr_20] [] 6000 kr_60 krn_60 = true := by decide +kernel
theorem krh_60 : sx_hd qq kr_60 := sx_chk_ok (sx_h1 krh_18 (sx_h1 krh_20 sx_h0)) (fun u => nomatch u) krc_60
def sr_201 : sx_C := .inl (10, [sx_ri 1 1, sx_va [67], sx_va [68], sx_va [69], sx_ri (-2147483648) 2147483647, sx_va [70], sx_va [71], sx_ri (-2147483648) 2147483647, sx_ri (-2147483648) 2147483647, sx_va [72], sx_ri 0 500, sx_ri (-2147483648) 2147483647, sx_ri 0 500, sx_rl (-9223372036854775808) 9223372036854775807, sx_ri 0 500, sx_ri (-2147483648) 2147483647, sx_ri (-2147483648) 2147483647, sx_ri 0 12, sx_va [73], sx_va [74], sx_va [75], sx_va [76], sx_va [77], sx_va [78], sx_ri 0 5, sx_va [79], sx_va [80], sx_va [81], sx_va [82], sx_va [83], sx_va [84], sx_va [85], sx_rl (-9223372036854775808) 9223372036854775807, sx_rl (-9223372036854775808) 9223372036854775807, sx_va [86], sx_va [87], sx_ri 0 0, sx_va [88], sx_va [89], sx_va [90], sx_va [91], sx_va [92], sx_va [93]])
def srh_122 : sx_H := ([], [some sr_201, some sr_9, some sr_166, some sr_12, none, none, none, none, none, none, none, some sr_167, some sr_168, some sr_169, some sr_169, none, none, none, none, none, none, none, none, none, none, none, none, none])
/-- X10_kept B -/
def kr_61 : sx_K := (162, ([sx_va [66], sx_ri (-2147483648) 2147483647, sx_ri (-2147483648) 2147483647, sx_ri (-2147483648) 2147483647], srh_121, []), [(66, [24]), (77, [0, 1, 2, 3, 4]), (78, [0, 1, 2, 3, 4]), (79, [9999]), (80, [9999])], [([sx_ri (-2147483648) 2147483647], srh_121, [])], false)
def krn_61 : List sx_N := [(47, [some (sx_va [66]), some (sx_ri 0 2), some (sx_ri 0 0), some (sx_ri 0 200), some (sx_rl (-9223372036854775808) 9223372036854775807), none, some (sx_ri (-2147483648) 2147483647), some (sx_ri 0 1)], srh_122, [], (12, [((-1), (0, 7, 0))]))]
theorem krc_61 : sx_chk [kr_18, kr_20] [] 6000 kr_61 krn_61 = true := by decide +kernel
theorem krh_61 : sx_hd qq kr_61 := sx_chk_ok (sx_h1 krh_18 (sx_h1 krh_20 sx_h0)) (fun u => nomatch u) krc_61
def srh_123 : sx_H := ([], [some sr_170, some sr_9, some sr_166, some sr_12, none, none, none, none, none, none, none, some sr_167, some sr_168, some sr_169, some sr_169, some sr_172, some sr_172, none, none, none, none, none, none, none, none, none, none, none])
/-- X10_known A -/
def kr_62 : sx_K := (164, ([sx_va [66], sx_ri (-2147483648) 2147483647, sx_ri (-2147483648) 2147483647, sx_ri (-2147483648) 2147483647], srh_123, []), [(66, [24]), (77, [0, 1, 2, 3, 4]), (78, [0, 1, 2, 3, 4]), (79, [9999]), (80, [9999]), (81, [9999]), (82, [9999])], [([sx_ri (-1000000002) 200], srh_123, [])], false)
def krn_62 : List sx_N := [(56, [some (sx_va [66]), some (sx_ri 0 2), some (sx_ri 0 11), some (sx_ri 1 1000), some (sx_ri 0 201)], srh_123, [], (201, [((-1), (0, 4, 0))]))]
theorem krc_62 : sx_chk [kr_19] [] 6000 kr_62 krn_62 = true := by decide +kernel
theorem krh_62 : sx_hd qq kr_62 := sx_chk_ok (sx_h1 krh_19 sx_h0) (fun u => nomatch u) krc_62
def srh_124 : sx_H := ([], [some sr_187, some sr_9, some sr_166, some sr_12, none, none, none, none, none, none, none, some sr_167, some sr_168, some sr_169, some sr_169, some sr_172, some sr_172, none, none, none, none, none, none, none, none, none, none, none])
def srh_125 : sx_H := ([], [some sr_201, some sr_9, some sr_166, some sr_12, none, none, none, none, none, none, none, some sr_167, some sr_168, some sr_169, some sr_169, some sr_172, some sr_172, none, none, none, none, none, none, none, none, none, none, none])
/-- X10_known B -/
def kr_63 : sx_K := (164, ([sx_va [66], sx_ri (-2147483648) 2147483647, sx_ri (-2147483648) 2147483647, sx_ri (-2147483648) 2147483647], srh_124, []), [(66, [24]), (77, [0, 1, 2, 3, 4]), (78, [0, 1, 2, 3, 4]), (79, [9999]), (80, [9999]), (81, [9999]), (82, [9999])], [([sx_ri (-1000000002) 200], srh_124, [])], false)
def krn_63 : List sx_N := [(56, [some (sx_va [66]), some (sx_ri 0 2), some (sx_ri 0 0), some (sx_ri 1 1000), some (sx_ri 0 201)], srh_125, [], (201, [((-1), (0, 4, 0))]))]
theorem krc_63 : sx_chk [kr_19] [] 6000 kr_63 krn_63 = true := by decide +kernel
theorem krh_63 : sx_hd qq kr_63 := sx_chk_ok (sx_h1 krh_19 sx_h0) (fun u => nomatch u) krc_63
/-- X10_later A -/
def kr_64 : sx_K := (170, ([sx_va [66], sx_ri (-2147483648) 2147483647], srh_101, []), [(66, [24]), (77, [0, 1, 2, 3, 4]), (78, [0, 1, 2, 3, 4]), (79, [9999]), (80, [9999]), (81, [9999]), (82, [9999])], [([sx_ri (-2147483648) 2147483647], srh_101, [])], false)
def krn_64 : List sx_N := []
theorem krc_64 : sx_chk [kr_21, kr_24] [] 6000 kr_64 krn_64 = true := by decide +kernel
theorem krh_64 : sx_hd qq kr_64 := sx_chk_ok (sx_h1 krh_21 (sx_h1 krh_24 sx_h0)) (fun u => nomatch u) krc_64
/-- X10_later B -/
def kr_65 : sx_K := (170, ([sx_va [66], sx_ri (-2147483648) 2147483647], srh_97, []), [], [([sx_ri (-1000000003) (-1000000002)], srh_97, [])], false)
def krn_65 : List sx_N := []
theorem krc_65 : sx_chk [] [] 6000 kr_65 krn_65 = true := by decide +kernel
theorem krh_65 : sx_hd qq kr_65 := sx_chk_ok sx_h0 (fun u => nomatch u) krc_65
def srh_126 : sx_H := ([], [some sr_170, some sr_9, some sr_166, some sr_12, some sr_173, some sr_181, none, none, none, none, none, some sr_167, some sr_168, some sr_169, some sr_169, some sr_172, some sr_172, none, none, none, none, none, none, none, none, none, none, none])
def sr_202 : sx_C := .inr (.inl (0, [sx_ri 0 2, sx_ri 0 10, sx_ri 0 30, sx_ri 0 2, sx_ri 0 11, sx_ri 0 30]))
def srh_127 : sx_H := ([], [some sr_170, some sr_9, some sr_166, some sr_12, some sr_202, some sr_181, none, none, none, none, none, some sr_167, some sr_168, some sr_169, some sr_169, some sr_172, some sr_172, none, none, none, none, none, none, none, none, none, none, none])
def sr_203 : sx_C := .inr (.inl (0, [sx_ri 0 2, sx_ri 0 11, sx_ri 0 30, sx_ri 0 2, sx_ri 0 10, sx_ri 0 30]))
def srh_128 : sx_H := ([], [some sr_170, some sr_9, some sr_166, some sr_12, some sr_203, some sr_181, none, none, none, none, none, some sr_167, some sr_168, some sr_169, some sr_169, some sr_172, some sr_172, none, none, none, none, none, none, none, none, none, none, none])
/-- X10_best A -/
def kr_66 : sx_K := (171, ([sx_va [66], sx_ri (-2147483648) 2147483647, sx_ri (-2147483648) 2147483647, sx_ri (-2147483648) 2147483647], srh_126, [((-1), [(1, (1, 66, 0)), ((-1), (1, 71, 0))]), ((-1), [(1, (1, 66, 0)), ((-1), (1, 71, 1))]), (4294967295, [(4294967296, (1, 71, 0)), (1, (1, 70, 2)), ((-1), (1, 66, 7))]), (4294967295, [(4294967296, (1, 71, 1)), (1, (1, 70, 5)), ((-1), (1, 66, 7))]), ((-1), [(1, (1, 66, 0)), ((-1), (1, 70, 1))]), ((-1), [(1, (1, 66, 0)), ((-1), (1, 70, 4))])]), [(66, [24]), (70, [1, 2, 4, 5]), (77, [0, 1, 2, 3, 4]), (78, [0, 1, 2, 3, 4]), (79, [9999]), (80, [9999]), (81, [9999]), (82, [9999])], [([sx_ri (-2147483648) 2147483647], srh_126, [((-1), [(1, (1, 66, 0)), ((-1), (1, 71, 0))]), ((-1), [(1, (1, 66, 0)), ((-1), (1, 71, 1))]), (4294967295, [(4294967296, (1, 71, 0)), (1, (1, 70, 2)), ((-1), (1, 66, 7))]), (4294967295, [(4294967296, (1, 71, 1)), (1, (1, 70, 5)), ((-1), (1, 66, 7))]), ((-1), [(1, (1, 66, 0)), ((-1), (1, 70, 1))]), ((-1), [(1, (1, 66, 0)), ((-1), (1, 70, 4))])])], false)
def krn_66 : List sx_N := [(80, [some (sx_va [66]), some (sx_ri 0 0), some (sx_ri 0 10), some (sx_ri 0 2), some (sx_ri 0 11), some (sx_ri 0 30), some (sx_ri (-1) 200000), some (sx_ri (-2147483648) 2147483647), some (sx_ri 0 11), none, none, none], srh_126, [((-1), [(1, (1, 66, 0)), ((-1), (1, 71, 0))]), ((-1), [(1, (1, 66, 0)), ((-1), (1, 71, 1))]), (4294967295, [(4294967296, (1, 71, 1)), (1, (1, 70, 5)), ((-1), (1, 66, 7))]), ((-1), [(1, (1, 66, 0)), ((-1), (1, 70, 4))]), ((-1), [(1, (1, 66, 0)), ((-1), (0, 4, 0))]), (4294967295, [(4294967296, (1, 71, 0)), (1, (0, 5, 0)), ((-1), (1, 66, 7))])], (12999, [((-1000), (0, 8, 0))])), (80, [some (sx_va [66]), some (sx_ri 1 1), some (sx_ri 0 10), some (sx_ri 0 2), some (sx_ri 0 11), some (sx_ri 0 30), some (sx_ri (-1) 200000), some (sx_ri (-2147483648) 2147483647), some (sx_ri 0 11), none, none, none], srh_126, [((-1), [(1, (1, 66, 0)), ((-1), (1, 71, 0))]), ((-1), [(1, (1, 66, 0)), ((-1), (1, 71, 1))]), (4294967295, [(4294967296, (1, 71, 0)), (1, (1, 70, 2)), ((-1), (1, 66, 7))]), ((-1), [(1, (1, 66, 0)), ((-1), (1, 70, 1))]), ((-1), [(1, (1, 66, 0)), ((-1), (0, 4, 0))]), (4294967295, [(4294967296, (1, 71, 1)), (1, (0, 5, 0)), ((-1), (1, 66, 7))])], (12999, [((-1000), (0, 8, 0))])), (110, [some (sx_va [66]), some (sx_ri 0 0), some (sx_ri 0 10), some (sx_ri 0 2), some (sx_ri 0 11), some (sx_ri 0 30), some (sx_ri (-1) 200000), some (sx_ri (-2147483648) 2147483647), some (sx_ri 0 10), some (sx_ri 0 11), none, none], srh_127, [((-1), [(1, (1, 66, 0)), ((-1), (1, 71, 0))]), ((-1), [(1, (1, 66, 0)), ((-1), (1, 71, 1))]), (4294967295, [(4294967296, (1, 71, 1)), (1, (1, 70, 5)), ((-1), (1, 66, 7))]), ((-1), [(1, (1, 66, 0)), ((-1), (1, 70, 4))]), ((-1), [(1, (1, 66, 0)), ((-1), (0, 4, 0))]), (4294967295, [(4294967296, (1, 71, 0)), (1, (0, 5, 0)), ((-1), (1, 66, 7))])], (12011, [((-1000), (0, 8, 0)), ((-1), (0, 9, 0))])), (110, [some (sx_va [66]), some (sx_ri 1 1), some (sx_ri 0 10), some (sx_ri 0 2), some (sx_ri 0 11), some (sx_ri 0 30), some (sx_ri (-1) 200000), some (sx_ri (-2147483648) 2147483647), some (sx_ri 0 10), some (sx_ri 0 11), none, none], srh_128, [((-1), [(1, (1, 66, 0)), ((-1), (1, 71, 0))]), ((-1), [(1, (1, 66, 0)), ((-1), (1, 71, 1))]), (4294967295, [(4294967296, (1, 71, 0)), (1, (1, 70, 2)), ((-1), (1, 66, 7))]), ((-1), [(1, (1, 66, 0)), ((-1), (1, 70, 1))]), ((-1), [(1, (1, 66, 0)), ((-1), (0, 4, 0))]), (4294967295, [(4294967296, (1, 71, 1)), (1, (0, 5, 0)), ((-1), (1, 66, 7))])], (12011, [((-1000), (0, 8, 0)), ((-1), (0, 9, 0))]))]
theorem krc_66 : sx_chk [kr_21, kr_24] [(171, 53)] 6000 kr_66 krn_66 = true := by decide +kernel
theorem krh_66 : sx_hd qq kr_66 := sx_chk_ok (sx_h1 krh_21 (sx_h1 krh_24 sx_h0)) (fun u => nomatch u) krc_66
