/-! contracts of the reference, checked (written by wip/sx/ref3.py) -/
/-- X10_morning B -/
def kr_91 : sx_K := (202, ([sx_va [66], sx_ri (-2147483648) 2147483647], srh_97, []), [], [([sx_ri (-1000000003) (-1000000002)], srh_97, [])], false)
def krn_91 : List sx_N := []
theorem krc_91 : sx_chk [] [] 6000 kr_91 krn_91 = true := by decide +kernel
theorem krh_91 : sx_hd qq kr_91 := sx_chk_ok sx_h0 (fun u => nomatch u) krc_91
def srh_135 : sx_H := ([], [some sr_170, none, none, none, none, none, none, none, none, none, none, none, none, none, none, none, none, none, none, none, none, none, none, none, some sr_200, some sr_188, none, none])
/-- X10_log A -/
def kr_92 : sx_K := (203, ([sx_va [66], sx_ri (-2147483648) 2147483647, sx_ri (-2147483648) 2147483647], srh_135, []), [(90, [0, 1]), (91, [9999])], [([sx_ri (-1000000004) 40], srh_135, [])], false)
def krn_92 : List sx_N := []
theorem krc_92 : sx_chk [] [(203, 29)] 6000 kr_92 krn_92 = true := by decide +kernel
theorem krh_92 : sx_hd qq kr_92 := sx_chk_ok sx_h0 (fun u => nomatch u) krc_92
def srh_136 : sx_H := ([], [some sr_187, none, none, none, none, none, none, none, none, none, none, none, none, none, none, none, none, none, none, none, none, none, none, none, some sr_200, some sr_188, none, none])
/-- X10_log B -/
def kr_93 : sx_K := (203, ([sx_va [66], sx_ri (-2147483648) 2147483647, sx_ri (-2147483648) 2147483647], srh_136, []), [(90, [0, 1]), (91, [9999])], [([sx_ri (-1000000004) 40], srh_136, [])], false)
def krn_93 : List sx_N := []
theorem krc_93 : sx_chk [] [(203, 29)] 6000 kr_93 krn_93 = true := by decide +kernel
theorem krh_93 : sx_hd qq kr_93 := sx_chk_ok sx_h0 (fun u => nomatch u) krc_93
def srh_137 : sx_H := ([], [some sr_170, none, none, none, none, none, none, none, none, none, none, none, none, none, none, none, none, none, none, none, none, none, none, none, some sr_200, none, none, none])
/-- X10_clear A -/
def kr_94 : sx_K := (204, ([sx_va [66]], srh_137, []), [(90, [0, 1])], [([sx_ri 0 80], srh_137, [])], false)
def krn_94 : List sx_N := []
theorem krc_94 : sx_chk [] [] 6000 kr_94 krn_94 = true := by decide +kernel
theorem krh_94 : sx_hd qq kr_94 := sx_chk_ok sx_h0 (fun u => nomatch u) krc_94
def srh_138 : sx_H := ([], [some sr_187, none, none, none, none, none, none, none, none, none, none, none, none, none, none, none, none, none, none, none, none, none, none, none, some sr_200, none, none, none])
/-- X10_clear B -/
def kr_95 : sx_K := (204, ([sx_va [66]], srh_138, []), [(90, [0, 1])], [([sx_ri 0 80], srh_138, [])], false)
def krn_95 : List sx_N := []
theorem krc_95 : sx_chk [] [] 6000 kr_95 krn_95 = true := by decide +kernel
theorem krh_95 : sx_hd qq kr_95 := sx_chk_ok sx_h0 (fun u => nomatch u) krc_95
def srh_139 : sx_H := ([], [some sr_170, some sr_9, some sr_166, some sr_12, some sr_173, none, none, none, none, none, none, some sr_167, some sr_168, none, none, none, none, none, none, none, none, none, none, none, some sr_200, some sr_188, none, none])
/-- X10_judge A -/
def kr_96 : sx_K := (207, ([sx_va [66], sx_ri (-2147483648) 2147483647], srh_139, []), [(66, [24]), (77, [0, 1, 2, 3, 4]), (78, [0, 1, 2, 3, 4])], [([sx_ri (-1000000001) 39], srh_139, [])], false)
def krn_96 : List sx_N := [(12, [some (sx_va [66]), some (sx_ri 0 1), some (sx_ri 0 40)], srh_139, [], (40, [((-1), (0, 2, 0))]))]
theorem krc_96 : sx_chk [kr_43] [] 6000 kr_96 krn_96 = true := by decide +kernel
theorem krh_96 : sx_hd qq kr_96 := sx_chk_ok (sx_h1 krh_43 sx_h0) (fun u => nomatch u) krc_96
def srh_140 : sx_H := ([], [some sr_187, some sr_9, some sr_166, some sr_12, some sr_173, none, none, none, none, none, none, some sr_167, some sr_168, none, none, none, none, none, none, none, none, none, none, none, some sr_200, some sr_188, none, none])
/-- X10_judge B -/
def kr_97 : sx_K := (207, ([sx_va [66], sx_ri (-2147483648) 2147483647], srh_140, []), [(66, [24]), (77, [0, 1, 2, 3, 4]), (78, [0, 1, 2, 3, 4])], [([sx_ri (-1000000001) 39], srh_140, [])], false)
def krn_97 : List sx_N := [(12, [some (sx_va [66]), some (sx_ri 0 1), some (sx_ri 0 40)], srh_140, [], (40, [((-1), (0, 2, 0))]))]
theorem krc_97 : sx_chk [kr_43] [] 6000 kr_97 krn_97 = true := by decide +kernel
theorem krh_97 : sx_hd qq kr_97 := sx_chk_ok (sx_h1 krh_43 sx_h0) (fun u => nomatch u) krc_97
/-- X10_seed A -/
def kr_98 : sx_K := (208, ([sx_va [66], sx_ri (-2147483648) 2147483647], srh_116, []), [(66, [8])], [([sx_ri (-2147483648) 2147483647], srh_116, [])], false)
def krn_98 : List sx_N := []
theorem krc_98 : sx_chk [] [] 6000 kr_98 krn_98 = true := by decide +kernel
theorem krh_98 : sx_hd qq kr_98 := sx_chk_ok sx_h0 (fun u => nomatch u) krc_98
/-- X10_seed B -/
def kr_99 : sx_K := (208, ([sx_va [66], sx_ri (-2147483648) 2147483647], srh_97, []), [(66, [8])], [([sx_ri (-2147483648) 2147483647], srh_97, [])], false)
def krn_99 : List sx_N := []
theorem krc_99 : sx_chk [] [] 6000 kr_99 krn_99 = true := by decide +kernel
theorem krh_99 : sx_hd qq kr_99 := sx_chk_ok sx_h0 (fun u => nomatch u) krc_99
