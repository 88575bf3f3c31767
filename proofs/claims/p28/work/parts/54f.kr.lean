/-! contracts of the reference, checked (written by wip/sx/ref3.py) -/
/-- X10_findMixed  -/
def kr_28 : sx_K := (179, ([sx_va [66], sx_ri 1 1], srh_85, []), [(66, [32, 33]), (84, [9999]), (85, [9999]), (86, [9999]), (87, [9999])], [([sx_ri 0 0], srh_85, []), ([sx_ri 1 1], srh_87, []), ([sx_ri 1 1], srh_88, [])], false)
def krn_28 : List sx_N := [(2, [some (sx_va [66]), some (sx_ri 1 1), some (sx_ri 1 2), none, none], srh_85, [], (4999999, [((-1000000), (0, 2, 0))])), (9, [some (sx_va [66]), some (sx_ri 1 1), some (sx_ri 1 1), some (sx_ri 1 2), none], srh_85, [], (4008999, [((-1000000), (0, 2, 0)), ((-1000), (0, 3, 0))])), (19, [some (sx_va [66]), some (sx_ri 1 1), some (sx_ri 1 1), some (sx_ri 1 1), some (sx_ri 1 2)], srh_85, [], (4008008, [((-1000000), (0, 2, 0)), ((-1000), (0, 3, 0)), ((-1), (0, 4, 0))]))]
theorem krc_28 : sx_chk [kr_27] [] 6000 kr_28 krn_28 = true := by decide +kernel
theorem krh_28 : sx_hd qq kr_28 := sx_chk_ok (sx_h1 krh_27 sx_h0) (fun u => nomatch u) krc_28
/-- X10_findMixed  -/
def kr_29 : sx_K := (179, ([sx_va [66], sx_ri 2 2], srh_85, []), [(66, [32, 33]), (84, [9999]), (85, [9999]), (86, [9999]), (87, [9999])], [([sx_ri 0 0], srh_85, []), ([sx_ri 1 1], srh_87, []), ([sx_ri 1 1], srh_88, [])], false)
def krn_29 : List sx_N := [(2, [some (sx_va [66]), some (sx_ri 2 2), some (sx_ri 1 3), none, none], srh_85, [], (4999999, [((-1000000), (0, 2, 0))])), (9, [some (sx_va [66]), some (sx_ri 2 2), some (sx_ri 1 2), some (sx_ri 1 4), none], srh_85, [], (4008999, [((-1000000), (0, 2, 0)), ((-1000), (0, 3, 0))])), (19, [some (sx_va [66]), some (sx_ri 2 2), some (sx_ri 1 2), some (sx_ri 1 3), some (sx_ri 1 4)], srh_85, [], (4008008, [((-1000000), (0, 2, 0)), ((-1000), (0, 3, 0)), ((-1), (0, 4, 0))]))]
theorem krc_29 : sx_chk [kr_27] [] 6000 kr_29 krn_29 = true := by decide +kernel
theorem krh_29 : sx_hd qq kr_29 := sx_chk_ok (sx_h1 krh_27 sx_h0) (fun u => nomatch u) krc_29
/-- X10_findMixed  -/
def kr_30 : sx_K := (179, ([sx_va [66], sx_ri 3 3], srh_85, []), [(66, [32, 33]), (84, [9999]), (85, [9999]), (86, [9999]), (87, [9999])], [([sx_ri 0 0], srh_85, []), ([sx_ri 1 1], srh_87, []), ([sx_ri 1 1], srh_88, [])], false)
def krn_30 : List sx_N := [(2, [some (sx_va [66]), some (sx_ri 3 3), some (sx_ri 1 4), none, none], srh_85, [], (4999999, [((-1000000), (0, 2, 0))])), (9, [some (sx_va [66]), some (sx_ri 3 3), some (sx_ri 1 3), some (sx_ri 1 8), none], srh_85, [], (4008999, [((-1000000), (0, 2, 0)), ((-1000), (0, 3, 0))])), (19, [some (sx_va [66]), some (sx_ri 3 3), some (sx_ri 1 3), some (sx_ri 1 7), some (sx_ri 1 8)], srh_85, [], (4008008, [((-1000000), (0, 2, 0)), ((-1000), (0, 3, 0)), ((-1), (0, 4, 0))]))]
theorem krc_30 : sx_chk [kr_27] [] 6000 kr_30 krn_30 = true := by decide +kernel
theorem krh_30 : sx_hd qq kr_30 := sx_chk_ok (sx_h1 krh_27 sx_h0) (fun u => nomatch u) krc_30
def srh_89 : sx_H := ([], [some sr_170, some sr_9, some sr_166, some sr_12, none, none, none, none, none, none, none, some sr_167, some sr_168, none, none, none, none, none, none, none, none, none, none, none, none, none, none, none])
/-- X10_gone by hand, out of its rows -/
def kr_31 : sx_K := (195, ([sx_va [66], sx_ri 0 10], srh_89, [((-2), [(1, (1, 66, 0)), ((-1), (0, 1, 0))])]), [(66, [8, 24]), (77, [0, 1, 2, 3, 4]), (78, [0, 1, 2, 3, 4])], [([sx_ri 0 11], srh_89, [((-1), [(1, (1, 66, 0)), ((-1), (2, 0, 0))])])], true)
