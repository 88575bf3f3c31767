/-! contracts of the reference, checked (written by wip/sx/ref3.py) -/
def sr_180 : sx_C := .inr (.inl (0, [sx_ri (-1) (-1), sx_ri (-1) 11]))
def srh_90 : sx_H := ([], [some sr_170, none, none, none, some sr_173, some sr_180, none, none, none, none, none, none, none, none, none, none, none, none, none, none, none, none, none, none, none, none, none, none])
def sr_181 : sx_C := .inr (.inl (0, [sx_ri (-1) 11, sx_ri (-1) 11]))
def srh_91 : sx_H := ([], [some sr_170, none, none, none, some sr_173, some sr_181, none, none, none, none, none, none, none, none, none, none, none, none, none, none, none, none, none, none, none, none, none, none])
/-- X10_goSide  -/
def kr_32 : sx_K := (196, ([sx_va [66], sx_ri 0 0], srh_90, [((-1), [(1, (1, 66, 0)), ((-1), (1, 71, 0))]), (4294967296, [(4294967296, (1, 71, 0)), (1, (1, 70, 2)), ((-1), (1, 66, 7))]), ((-1), [(1, (1, 66, 0)), ((-1), (1, 70, 1))])]), [(71, [0])], [([], srh_91, [((-1), [(1, (1, 66, 0)), ((-1), (1, 71, 0))]), (4294967295, [(4294967296, (1, 71, 0)), (1, (1, 70, 2)), ((-1), (1, 66, 7))])])], true)
def krn_32 : List sx_N := []
theorem krc_32 : sx_chk [] [(196, 20016)] 6000 kr_32 krn_32 = true := by decide +kernel
theorem krh_32 : sx_hd qq kr_32 := sx_chk_ok sx_h0 (fun _ _ _ hf hq => qq_fr (by decide +kernel) hf hq) krc_32
def sr_182 : sx_C := .inr (.inl (0, [sx_ri 0 11, sx_ri (-1) 11]))
def srh_92 : sx_H := ([], [some sr_170, some sr_9, some sr_166, some sr_12, some sr_173, some sr_182, none, none, none, none, none, some sr_167, some sr_168, none, none, none, none, none, none, none, none, none, none, none, none, none, none, none])
/-- X10_goSide  -/
def kr_33 : sx_K := (196, ([sx_va [66], sx_ri 0 0], srh_92, [((-1), [(1, (1, 66, 0)), ((-1), (1, 71, 0))]), (4294967296, [(4294967296, (1, 71, 0)), (1, (1, 70, 2)), ((-1), (1, 66, 7))]), ((-1), [(1, (1, 66, 0)), ((-1), (1, 70, 1))])]), [(66, [8, 24]), (71, [0]), (77, [0, 1, 2, 3, 4]), (78, [0, 1, 2, 3, 4])], [([], srh_92, [((-1), [(1, (1, 66, 0)), ((-1), (1, 71, 0))]), (4294967295, [(4294967296, (1, 71, 0)), (1, (1, 70, 2)), ((-1), (1, 66, 7))])])], true)
def krn_33 : List sx_N := []
theorem krc_33 : sx_chk [kr_31] [(196, 20016)] 6000 kr_33 krn_33 = true := by decide +kernel
theorem krh_33 : sx_hd qq kr_33 := sx_chk_ok (sx_h1 krh_31 sx_h0) (fun _ _ _ hf hq => qq_fr (by decide +kernel) hf hq) krc_33
def sr_183 : sx_C := .inr (.inl (0, [sx_ri (-1) 11, sx_ri (-1) (-1)]))
def srh_93 : sx_H := ([], [some sr_170, none, none, none, some sr_173, some sr_183, none, none, none, none, none, none, none, none, none, none, none, none, none, none, none, none, none, none, none, none, none, none])
/-- X10_goSide  -/
def kr_34 : sx_K := (196, ([sx_va [66], sx_ri 1 1], srh_93, [((-1), [(1, (1, 66, 0)), ((-1), (1, 71, 1))]), (4294967296, [(4294967296, (1, 71, 1)), (1, (1, 70, 5)), ((-1), (1, 66, 7))]), ((-1), [(1, (1, 66, 0)), ((-1), (1, 70, 4))])]), [(71, [1])], [([], srh_91, [((-1), [(1, (1, 66, 0)), ((-1), (1, 71, 1))]), (4294967295, [(4294967296, (1, 71, 1)), (1, (1, 70, 5)), ((-1), (1, 66, 7))])])], true)
def krn_34 : List sx_N := []
theorem krc_34 : sx_chk [] [(196, 20016)] 6000 kr_34 krn_34 = true := by decide +kernel
theorem krh_34 : sx_hd qq kr_34 := sx_chk_ok sx_h0 (fun _ _ _ hf hq => qq_fr (by decide +kernel) hf hq) krc_34
def sr_184 : sx_C := .inr (.inl (0, [sx_ri (-1) 11, sx_ri 0 11]))
def srh_94 : sx_H := ([], [some sr_170, some sr_9, some sr_166, some sr_12, some sr_173, some sr_184, none, none, none, none, none, some sr_167, some sr_168, none, none, none, none, none, none, none, none, none, none, none, none, none, none, none])
/-- X10_goSide  -/
def kr_35 : sx_K := (196, ([sx_va [66], sx_ri 1 1], srh_94, [((-1), [(1, (1, 66, 0)), ((-1), (1, 71, 1))]), (4294967296, [(4294967296, (1, 71, 1)), (1, (1, 70, 5)), ((-1), (1, 66, 7))]), ((-1), [(1, (1, 66, 0)), ((-1), (1, 70, 4))])]), [(66, [8, 24]), (71, [1]), (77, [0, 1, 2, 3, 4]), (78, [0, 1, 2, 3, 4])], [([], srh_94, [((-1), [(1, (1, 66, 0)), ((-1), (1, 71, 1))]), (4294967295, [(4294967296, (1, 71, 1)), (1, (1, 70, 5)), ((-1), (1, 66, 7))])])], true)
def krn_35 : List sx_N := []
theorem krc_35 : sx_chk [kr_31] [(196, 20016)] 6000 kr_35 krn_35 = true := by decide +kernel
theorem krh_35 : sx_hd qq kr_35 := sx_chk_ok (sx_h1 krh_31 sx_h0) (fun _ _ _ hf hq => qq_fr (by decide +kernel) hf hq) krc_35
def srh_95 : sx_H := ([], [some sr_170, some sr_9, some sr_166, some sr_12, some sr_173, some sr_181, none, none, none, none, none, some sr_167, some sr_168, none, none, none, none, none, none, none, none, none, none, none, none, none, none, none])
/-- X10_driftOn  -/
def kr_36 : sx_K := (198, ([sx_va [66], sx_ri 1 200], srh_95, [((-1), [(1, (1, 66, 0)), ((-1), (1, 71, 0))]), ((-1), [(1, (1, 66, 0)), ((-1), (1, 71, 1))]), (4294967295, [(4294967296, (1, 71, 0)), (1, (1, 70, 2)), ((-1), (1, 66, 7))]), (4294967295, [(4294967296, (1, 71, 1)), (1, (1, 70, 5)), ((-1), (1, 66, 7))]), ((-1), [(1, (1, 66, 0)), ((-1), (1, 70, 1))]), ((-1), [(1, (1, 66, 0)), ((-1), (1, 70, 4))])]), [(66, [7, 8, 24]), (71, [0, 1]), (77, [0, 1, 2, 3, 4]), (78, [0, 1, 2, 3, 4])], [([sx_ri 0 3], srh_95, [((-1), [(1, (1, 66, 0)), ((-1), (1, 71, 0))]), ((-1), [(1, (1, 66, 0)), ((-1), (1, 71, 1))]), (4294967295, [(4294967296, (1, 71, 0)), (1, (1, 70, 2)), ((-1), (1, 66, 7))]), (4294967295, [(4294967296, (1, 71, 1)), (1, (1, 70, 5)), ((-1), (1, 66, 7))]), ((-1), [(1, (1, 66, 0)), ((-1), (1, 70, 1))]), ((-1), [(1, (1, 66, 0)), ((-1), (1, 70, 4))])])], true)
def krn_36 : List sx_N := [(2, [some (sx_va [66]), some (sx_ri 1 200), some (sx_ri 0 200)], srh_95, [((-1), [(1, (1, 66, 0)), ((-1), (1, 71, 0))]), ((-1), [(1, (1, 66, 0)), ((-1), (1, 71, 1))]), (4294967295, [(4294967296, (1, 71, 0)), (1, (1, 70, 2)), ((-1), (1, 66, 7))]), (4294967295, [(4294967296, (1, 71, 1)), (1, (1, 70, 5)), ((-1), (1, 66, 7))]), ((-1), [(1, (1, 66, 0)), ((-1), (1, 70, 1))]), ((-1), [(1, (1, 66, 0)), ((-1), (1, 70, 4))])], (200, [((-1), (0, 2, 0))]))]
theorem krc_36 : sx_chk [kr_32, kr_33, kr_34, kr_35] [(197, 10006), (197, 10024)] 6000 kr_36 krn_36 = true := by decide +kernel
theorem krh_36 : sx_hd qq kr_36 := sx_chk_ok (sx_h1 krh_32 (sx_h1 krh_33 (sx_h1 krh_34 (sx_h1 krh_35 sx_h0)))) (fun _ _ _ hf hq => qq_fr (by decide +kernel) hf hq) krc_36
