/-! contracts of the reference, checked (written by wip/sx/ref3.py) -/
/-- X10_best B -/
def kr_67 : sx_K := (171, ([sx_va [66], sx_ri (-2147483648) 2147483647, sx_ri (-2147483648) 2147483647, sx_ri (-2147483648) 2147483647], srh_97, []), [], [([sx_ri (-1000000003) (-1000000001)], srh_97, [])], false)
def krn_67 : List sx_N := []
theorem krc_67 : sx_chk [] [(171, 53)] 6000 kr_67 krn_67 = true := by decide +kernel
theorem krh_67 : sx_hd qq kr_67 := sx_chk_ok sx_h0 (fun u => nomatch u) krc_67
def srh_129 : sx_H := ([], [some sr_170, some sr_9, some sr_166, some sr_12, some sr_173, some sr_181, none, none, none, none, none, some sr_167, some sr_168, some sr_169, some sr_169, some sr_172, some sr_172, some sr_175, some sr_176, some sr_176, some sr_174, some sr_174, none, none, none, none, none, none])
/-- X10_mixed A -/
def kr_68 : sx_K := (180, ([sx_va [66], sx_ri (-2147483648) 2147483647, sx_ri (-2147483648) 2147483647, sx_ri (-2147483648) 2147483647], srh_129, [((-1), [(1, (1, 66, 0)), ((-1), (1, 71, 0))]), ((-1), [(1, (1, 66, 0)), ((-1), (1, 71, 1))]), (4294967295, [(4294967296, (1, 71, 0)), (1, (1, 70, 2)), ((-1), (1, 66, 7))]), (4294967295, [(4294967296, (1, 71, 1)), (1, (1, 70, 5)), ((-1), (1, 66, 7))]), ((-1), [(1, (1, 66, 0)), ((-1), (1, 70, 1))]), ((-1), [(1, (1, 66, 0)), ((-1), (1, 70, 4))])]), [(66, [24, 32, 33]), (70, [1, 2, 4, 5]), (77, [0, 1, 2, 3, 4]), (78, [0, 1, 2, 3, 4]), (79, [9999]), (80, [9999]), (81, [9999]), (82, [9999]), (83, [9999]), (84, [9999]), (85, [9999]), (86, [9999]), (87, [9999])], [([sx_ri (-2147483648) 2147483647], srh_129, [((-1), [(1, (1, 66, 0)), ((-1), (1, 71, 0))]), ((-1), [(1, (1, 66, 0)), ((-1), (1, 71, 1))]), (4294967295, [(4294967296, (1, 71, 0)), (1, (1, 70, 2)), ((-1), (1, 66, 7))]), (4294967295, [(4294967296, (1, 71, 1)), (1, (1, 70, 5)), ((-1), (1, 66, 7))]), ((-1), [(1, (1, 66, 0)), ((-1), (1, 70, 1))]), ((-1), [(1, (1, 66, 0)), ((-1), (1, 70, 4))])])], false)
def krn_68 : List sx_N := []
theorem krc_68 : sx_chk [kr_28, kr_29, kr_30, kr_40, kr_41, kr_42] [(180, 9)] 6000 kr_68 krn_68 = true := by decide +kernel
theorem krh_68 : sx_hd qq kr_68 := sx_chk_ok (sx_h1 krh_28 (sx_h1 krh_29 (sx_h1 krh_30 (sx_h1 krh_40 (sx_h1 krh_41 (sx_h1 krh_42 sx_h0)))))) (fun u => nomatch u) krc_68
/-- X10_mixed B -/
def kr_69 : sx_K := (180, ([sx_va [66], sx_ri (-2147483648) 2147483647, sx_ri (-2147483648) 2147483647, sx_ri (-2147483648) 2147483647], srh_97, []), [], [([sx_ri (-1000000001) (-1000000001)], srh_97, [])], false)
def krn_69 : List sx_N := []
theorem krc_69 : sx_chk [] [(180, 9)] 6000 kr_69 krn_69 = true := by decide +kernel
theorem krh_69 : sx_hd qq kr_69 := sx_chk_ok sx_h0 (fun u => nomatch u) krc_69
/-- X10_stone A -/
def kr_70 : sx_K := (181, ([sx_va [66], sx_ri (-2147483648) 2147483647, sx_ri 0 1], srh_116, []), [(66, [4])], [([sx_ri (-1000000001) 1], srh_116, [])], false)
def krn_70 : List sx_N := []
theorem krc_70 : sx_chk [] [] 6000 kr_70 krn_70 = true := by decide +kernel
theorem krh_70 : sx_hd qq kr_70 := sx_chk_ok sx_h0 (fun u => nomatch u) krc_70
/-- X10_stone B -/
def kr_71 : sx_K := (181, ([sx_va [66], sx_ri (-2147483648) 2147483647, sx_ri 0 1], srh_97, []), [], [([sx_ri (-1000000001) (-1000000001)], srh_97, [])], false)
def krn_71 : List sx_N := []
theorem krc_71 : sx_chk [] [] 6000 kr_71 krn_71 = true := by decide +kernel
theorem krh_71 : sx_hd qq kr_71 := sx_chk_ok sx_h0 (fun u => nomatch u) krc_71
/-- X10_most A -/
def kr_72 : sx_K := (182, ([sx_va [66], sx_ri (-2147483648) 2147483647, sx_ri (-2147483648) 2147483647], srh_101, []), [(66, [4, 24]), (77, [0, 1, 2, 3, 4]), (78, [0, 1, 2, 3, 4]), (79, [9999]), (80, [9999]), (81, [9999]), (82, [9999])], [([sx_ri (-2147483648) 2147483647], srh_101, [])], false)
def krn_72 : List sx_N := [(48, [some (sx_va [66]), some (sx_ri 0 1), some (sx_ri 0 1), some (sx_ri (-2147483648) 2147483647), some (sx_ri (-1) 10), some (sx_ri (-2147483648) 2147483647), some (sx_ri 0 11), none, none], srh_101, [], (12, [((-1), (0, 6, 0))]))]
theorem krc_72 : sx_chk [kr_21, kr_24] [] 6000 kr_72 krn_72 = true := by decide +kernel
theorem krh_72 : sx_hd qq kr_72 := sx_chk_ok (sx_h1 krh_21 (sx_h1 krh_24 sx_h0)) (fun u => nomatch u) krc_72
/-- X10_most B -/
def kr_73 : sx_K := (182, ([sx_va [66], sx_ri (-2147483648) 2147483647, sx_ri (-2147483648) 2147483647], srh_97, []), [], [([sx_ri (-1000000003) (-1000000001)], srh_97, [])], false)
def krn_73 : List sx_N := []
theorem krc_73 : sx_chk [] [] 6000 kr_73 krn_73 = true := by decide +kernel
theorem krh_73 : sx_hd qq kr_73 := sx_chk_ok sx_h0 (fun u => nomatch u) krc_73
def srh_130 : sx_H := ([], [some sr_170, none, none, none, none, none, none, none, none, none, none, none, none, none, none, none, none, none, none, none, none, none, some sr_185, some sr_186, none, none, none, none])
/-- X10_run A -/
def kr_74 : sx_K := (183, ([sx_va [66], sx_ri (-2147483648) 2147483647, sx_ri (-2147483648) 2147483647], srh_130, []), [(66, [36]), (88, [9999]), (89, [9999])], [([sx_ri (-1000000004) 12], srh_130, [])], false)
def krn_74 : List sx_N := []
theorem krc_74 : sx_chk [] [] 6000 kr_74 krn_74 = true := by decide +kernel
theorem krh_74 : sx_hd qq kr_74 := sx_chk_ok sx_h0 (fun u => nomatch u) krc_74
/-- X10_run B -/
def kr_75 : sx_K := (183, ([sx_va [66], sx_ri (-2147483648) 2147483647, sx_ri (-2147483648) 2147483647], srh_97, []), [], [([sx_ri (-1000000001) (-1000000001)], srh_97, [])], false)
def krn_75 : List sx_N := []
theorem krc_75 : sx_chk [] [] 6000 kr_75 krn_75 = true := by decide +kernel
theorem krh_75 : sx_hd qq kr_75 := sx_chk_ok sx_h0 (fun u => nomatch u) krc_75
/-- X10_forget A -/
def kr_76 : sx_K := (184, ([sx_va [66]], srh_116, []), [(66, [36])], [([sx_ri 0 12], srh_116, [])], false)
def krn_76 : List sx_N := []
theorem krc_76 : sx_chk [] [] 6000 kr_76 krn_76 = true := by decide +kernel
theorem krh_76 : sx_hd qq kr_76 := sx_chk_ok sx_h0 (fun u => nomatch u) krc_76
/-- X10_forget B -/
def kr_77 : sx_K := (184, ([sx_va [66]], srh_97, []), [(66, [36])], [([sx_ri 0 0], srh_97, [])], false)
def krn_77 : List sx_N := []
theorem krc_77 : sx_chk [] [] 6000 kr_77 krn_77 = true := by decide +kernel
theorem krh_77 : sx_hd qq kr_77 := sx_chk_ok sx_h0 (fun u => nomatch u) krc_77
def srh_131 : sx_H := ([], [some sr_170, some sr_9, some sr_166, some sr_12, none, none, none, none, none, none, none, some sr_167, some sr_168, some sr_169, some sr_169, none, none, none, none, none, none, none, some sr_185, some sr_186, none, none, none, none])
/-- X10_fit A -/
def kr_78 : sx_K := (187, ([sx_va [66], sx_ri (-2147483648) 2147483647], srh_131, []), [(66, [4, 24]), (77, [0, 1, 2, 3, 4]), (78, [0, 1, 2, 3, 4]), (79, [9999]), (80, [9999])], [([sx_ri (-2147483648) 2147483647], srh_131, [])], false)
def krn_78 : List sx_N := []
theorem krc_78 : sx_chk [kr_37, kr_38] [] 6000 kr_78 krn_78 = true := by decide +kernel
theorem krh_78 : sx_hd qq kr_78 := sx_chk_ok (sx_h1 krh_37 (sx_h1 krh_38 sx_h0)) (fun u => nomatch u) krc_78
/-- X10_fit B -/
def kr_79 : sx_K := (187, ([sx_va [66], sx_ri (-2147483648) 2147483647], srh_97, []), [(66, [4])], [([sx_ri (-1000000001) 1000000000], srh_97, [])], false)
def krn_79 : List sx_N := []
theorem krc_79 : sx_chk [kr_37, kr_38] [] 6000 kr_79 krn_79 = true := by decide +kernel
theorem krh_79 : sx_hd qq kr_79 := sx_chk_ok (sx_h1 krh_37 (sx_h1 krh_38 sx_h0)) (fun u => nomatch u) krc_79
/-- X10_stoned A -/
def kr_80 : sx_K := (188, ([sx_va [66]], srh_131, []), [(66, [4, 24]), (77, [0, 1, 2, 3, 4]), (78, [0, 1, 2, 3, 4]), (79, [9999]), (80, [9999])], [([sx_ri (-1) 10], srh_131, [])], false)
def krn_80 : List sx_N := [(10, [some (sx_va [66]), some (sx_ri (-1) 10), some (sx_ri (-2147483648) 2147483647), some (sx_ri 0 11), none], srh_131, [], (12, [((-1), (0, 3, 0))]))]
theorem krc_80 : sx_chk [kr_37, kr_38] [] 6000 kr_80 krn_80 = true := by decide +kernel
theorem krh_80 : sx_hd qq kr_80 := sx_chk_ok (sx_h1 krh_37 (sx_h1 krh_38 sx_h0)) (fun u => nomatch u) krc_80
/-- X10_stoned B -/
def kr_81 : sx_K := (188, ([sx_va [66]], srh_97, []), [(66, [4])], [([sx_ri (-1) (-1)], srh_97, [])], false)
def krn_81 : List sx_N := [(10, [some (sx_va [66]), some (sx_ri (-1) (-1)), some (sx_ri 1000000000 1000000000), some (sx_ri 0 0), none], srh_97, [], (12, [((-1), (0, 3, 0))]))]
theorem krc_81 : sx_chk [kr_37, kr_38] [] 6000 kr_81 krn_81 = true := by decide +kernel
theorem krh_81 : sx_hd qq kr_81 := sx_chk_ok (sx_h1 krh_37 (sx_h1 krh_38 sx_h0)) (fun u => nomatch u) krc_81
def srh_132 : sx_H := ([], [some sr_170, some sr_9, some sr_10, some sr_11, some sr_173, none, none, none, none, none, none, some sr_167, some sr_168, some sr_169, some sr_169, some sr_172, some sr_172, none, none, none, none, none, none, none, none, none, none, none])
/-- X10_fair A -/
def kr_82 : sx_K := (192, ([sx_va [66], sx_ri (-2147483648) 2147483647, sx_ri (-2147483648) 2147483647], srh_132, []), [(66, [24]), (77, [0, 1, 2, 3, 4]), (78, [0, 1, 2, 3, 4]), (79, [9999]), (80, [9999]), (81, [9999]), (82, [9999])], [([sx_ri (-1000000002) 99], srh_132, [])], false)
def krn_82 : List sx_N := []
theorem krc_82 : sx_chk [kr_45] [] 6000 kr_82 krn_82 = true := by decide +kernel
theorem krh_82 : sx_hd qq kr_82 := sx_chk_ok (sx_h1 krh_45 sx_h0) (fun u => nomatch u) krc_82
/-- X10_fair B -/
def kr_83 : sx_K := (192, ([sx_va [66], sx_ri (-2147483648) 2147483647, sx_ri (-2147483648) 2147483647], srh_97, []), [], [([sx_ri (-1000000003) (-1000000002)], srh_97, [])], false)
def krn_83 : List sx_N := []
theorem krc_83 : sx_chk [] [] 6000 kr_83 krn_83 = true := by decide +kernel
theorem krh_83 : sx_hd qq kr_83 := sx_chk_ok sx_h0 (fun u => nomatch u) krc_83
/-- X10_drift A -/
def kr_84 : sx_K := (199, ([sx_va [66], sx_ri (-2147483648) 2147483647], srh_95, [((-1), [(1, (1, 66, 0)), ((-1), (1, 71, 0))]), ((-1), [(1, (1, 66, 0)), ((-1), (1, 71, 1))]), (4294967295, [(4294967296, (1, 71, 0)), (1, (1, 70, 2)), ((-1), (1, 66, 7))]), (4294967295, [(4294967296, (1, 71, 1)), (1, (1, 70, 5)), ((-1), (1, 66, 7))]), ((-1), [(1, (1, 66, 0)), ((-1), (1, 70, 1))]), ((-1), [(1, (1, 66, 0)), ((-1), (1, 70, 4))])]), [(66, [7, 8, 24]), (71, [0, 1]), (77, [0, 1, 2, 3, 4]), (78, [0, 1, 2, 3, 4])], [([sx_ri (-1000000002) 3], srh_95, [((-1), [(1, (1, 66, 0)), ((-1), (1, 71, 0))]), ((-1), [(1, (1, 66, 0)), ((-1), (1, 71, 1))]), (4294967295, [(4294967296, (1, 71, 0)), (1, (1, 70, 2)), ((-1), (1, 66, 7))]), (4294967295, [(4294967296, (1, 71, 1)), (1, (1, 70, 5)), ((-1), (1, 66, 7))]), ((-1), [(1, (1, 66, 0)), ((-1), (1, 70, 1))]), ((-1), [(1, (1, 66, 0)), ((-1), (1, 70, 4))])])], true)
def krn_84 : List sx_N := []
theorem krc_84 : sx_chk [kr_36] [] 6000 kr_84 krn_84 = true := by decide +kernel
theorem krh_84 : sx_hd qq kr_84 := sx_chk_ok (sx_h1 krh_36 sx_h0) (fun _ _ _ hf hq => qq_fr (by decide +kernel) hf hq) krc_84
/-- X10_drift B -/
def kr_85 : sx_K := (199, ([sx_va [66], sx_ri (-2147483648) 2147483647], srh_97, []), [], [([sx_ri (-1000000003) (-1000000002)], srh_97, [])], false)
def krn_85 : List sx_N := []
theorem krc_85 : sx_chk [] [] 6000 kr_85 krn_85 = true := by decide +kernel
theorem krh_85 : sx_hd qq kr_85 := sx_chk_ok sx_h0 (fun u => nomatch u) krc_85
def srh_133 : sx_H := ([], [some sr_170, none, none, none, none, some sr_181, none, none, none, none, none, none, none, none, none, none, none, none, none, none, none, none, none, none, none, none, none, none])
/-- X10_where A -/
def kr_86 : sx_K := (200, ([sx_va [66], sx_ri (-2147483648) 2147483647], srh_133, []), [], [([sx_ri (-1000000001) 11], srh_133, [])], false)
def krn_86 : List sx_N := []
theorem krc_86 : sx_chk [] [] 6000 kr_86 krn_86 = true := by decide +kernel
theorem krh_86 : sx_hd qq kr_86 := sx_chk_ok sx_h0 (fun u => nomatch u) krc_86
/-- X10_where B -/
def kr_87 : sx_K := (200, ([sx_va [66], sx_ri (-2147483648) 2147483647], srh_97, []), [], [([sx_ri (-1000000003) (-1000000001)], srh_97, [])], false)
def krn_87 : List sx_N := []
theorem krc_87 : sx_chk [] [] 6000 kr_87 krn_87 = true := by decide +kernel
theorem krh_87 : sx_hd qq kr_87 := sx_chk_ok sx_h0 (fun u => nomatch u) krc_87
/-- X10_begin A -/
def kr_88 : sx_K := (201, ([sx_va [66]], srh_91, [((-1), [(1, (1, 66, 0)), ((-1), (1, 71, 0))]), ((-1), [(1, (1, 66, 0)), ((-1), (1, 71, 1))]), (4294967295, [(4294967296, (1, 71, 0)), (1, (1, 70, 2)), ((-1), (1, 66, 7))]), (4294967295, [(4294967296, (1, 71, 1)), (1, (1, 70, 5)), ((-1), (1, 66, 7))]), ((-1), [(1, (1, 66, 0)), ((-1), (1, 70, 1))]), ((-1), [(1, (1, 66, 0)), ((-1), (1, 70, 4))])]), [(66, [7]), (71, [0, 1])], [([sx_ri (-2147483648) 2147483647], srh_91, [((-1), [(1, (1, 66, 0)), ((-1), (1, 71, 0))]), ((-1), [(1, (1, 66, 0)), ((-1), (1, 71, 1))]), (4294967295, [(4294967296, (1, 71, 0)), (1, (1, 70, 2)), ((-1), (1, 66, 7))]), (4294967295, [(4294967296, (1, 71, 1)), (1, (1, 70, 5)), ((-1), (1, 66, 7))]), ((-1), [(1, (1, 66, 0)), ((-1), (1, 70, 1))]), ((-1), [(1, (1, 66, 0)), ((-1), (1, 70, 4))])])], false)
def krn_88 : List sx_N := []
theorem krc_88 : sx_chk [] [] 6000 kr_88 krn_88 = true := by decide +kernel
theorem krh_88 : sx_hd qq kr_88 := sx_chk_ok sx_h0 (fun u => nomatch u) krc_88
def srh_134 : sx_H := ([], [some sr_187, none, none, none, some sr_173, some sr_181, none, none, none, none, none, none, none, none, none, none, none, none, none, none, none, none, none, none, none, none, none, none])
/-- X10_begin B -/
def kr_89 : sx_K := (201, ([sx_va [66]], srh_134, []), [(66, [7]), (71, [0, 1])], [([sx_ri (-2147483648) 2147483647], srh_134, [])], false)
def krn_89 : List sx_N := []
theorem krc_89 : sx_chk [] [] 6000 kr_89 krn_89 = true := by decide +kernel
theorem krh_89 : sx_hd qq kr_89 := sx_chk_ok sx_h0 (fun u => nomatch u) krc_89
/-- X10_morning A -/
def kr_90 : sx_K := (202, ([sx_va [66], sx_ri (-2147483648) 2147483647], srh_95, [((-1), [(1, (1, 66, 0)), ((-1), (1, 71, 0))]), ((-1), [(1, (1, 66, 0)), ((-1), (1, 71, 1))]), (4294967295, [(4294967296, (1, 71, 0)), (1, (1, 70, 2)), ((-1), (1, 66, 7))]), (4294967295, [(4294967296, (1, 71, 1)), (1, (1, 70, 5)), ((-1), (1, 66, 7))]), ((-1), [(1, (1, 66, 0)), ((-1), (1, 70, 1))]), ((-1), [(1, (1, 66, 0)), ((-1), (1, 70, 4))])]), [(66, [7, 8, 24]), (71, [0, 1]), (77, [0, 1, 2, 3, 4]), (78, [0, 1, 2, 3, 4])], [([sx_ri (-2147483648) 2147483647], srh_95, [((-1), [(1, (1, 66, 0)), ((-1), (1, 71, 0))]), ((-1), [(1, (1, 66, 0)), ((-1), (1, 71, 1))]), (4294967295, [(4294967296, (1, 71, 0)), (1, (1, 70, 2)), ((-1), (1, 66, 7))]), (4294967295, [(4294967296, (1, 71, 1)), (1, (1, 70, 5)), ((-1), (1, 66, 7))]), ((-1), [(1, (1, 66, 0)), ((-1), (1, 70, 1))]), ((-1), [(1, (1, 66, 0)), ((-1), (1, 70, 4))])])], true)
def krn_90 : List sx_N := [(51, [some (sx_va [66]), some (sx_ri 1 40), some (sx_ri (-2147483648) 2147483647), some (sx_ri (-1) 11), some (sx_ri (-1) 11), some (sx_ri (-2147483648) 2147483647), some (sx_ri 0 40)], srh_95, [((-1), [(1, (1, 66, 0)), ((-1), (1, 70, 1))]), ((-1), [(1, (1, 66, 0)), ((-1), (1, 70, 4))]), ((-1), [(1, (1, 66, 0)), ((-1), (0, 3, 0))]), ((-1), [(1, (1, 66, 0)), ((-1), (0, 4, 0))]), (4294967295, [(4294967296, (0, 3, 0)), (1, (1, 70, 2)), ((-1), (0, 2, 0))]), (4294967295, [(4294967296, (0, 4, 0)), (1, (1, 70, 5)), ((-1), (0, 2, 0))])], (40, [((-1), (0, 6, 0))]))]
theorem krc_90 : sx_chk [kr_36] [] 6000 kr_90 krn_90 = true := by decide +kernel
theorem krh_90 : sx_hd qq kr_90 := sx_chk_ok (sx_h1 krh_36 sx_h0) (fun _ _ _ hf hq => qq_fr (by decide +kernel) hf hq) krc_90
