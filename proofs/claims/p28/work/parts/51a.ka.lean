/-! contracts of the class, checked (written by wip/sx/pub2.py) -/
theorem sx_h0 {Q : List ik_E → Prop} : ∀ D, D ∈ ([] : List sx_K) → sx_hd Q D := fun _ h => nomatch h
theorem sx_h1 {Q : List ik_E → Prop} {C : sx_K} {K : List sx_K} (h : sx_hd Q C) (r : ∀ D, D ∈ K → sx_hd Q D) : ∀ D, D ∈ C :: K → sx_hd Q D := by
  intro D hD
  rcases List.mem_cons.mp hD with rfl | hD
  · exact h
  · exact r D hD
def sc_0 : sx_C := .inl (6, [sx_va [2], sx_ri 0 500, sx_ri 0 500, sx_ri (-2147483648) 2147483647, sx_ri (-2147483648) 2147483647, sx_ri 0 12, sx_va [3], sx_va [4], sx_va [5], sx_va [6]])
def sc_1 : sx_C := .inr (.inr (2, 500, (-128), 127))
def sch_0 : sx_H := ([none, some sc_0, some sc_1], [])
def sc_2 : sx_C := .inl (6, [sx_va [2], sx_ri 1 500, sx_ri 1 500, sx_ri (-2147483648) 2147483647, sx_ri (-2147483648) 2147483647, sx_ri 0 12, sx_va [3], sx_va [4], sx_va [5], sx_va [6]])
def sch_1 : sx_H := ([none, some sc_2, some sc_1], [])
/-- X6_skipBlanks  -/
def ka_0 : sx_K := (66, ([sx_va [1]], sch_0, []), [(1, [2])], [([], sch_0, [])], false)
def kan_0 : List sx_N := [(0, [some (sx_va [1])], sch_1, [], (500, [((-1), (1, 1, 2))]))]
theorem kac_0 : sx_chk [] [] 6000 ka_0 kan_0 = true := by decide +kernel
theorem kah_0 (Q : List ik_E → Prop) : sx_hd Q ka_0 := sx_chk_ok sx_h0 (fun u => nomatch u) kac_0
/-- X6_readWord  -/
def ka_1 : sx_K := (64, ([sx_va [1], sx_vo 1], sch_0, []), [(1, [2])], [([sx_ri 0 1], sch_0, [])], false)
def kan_1 : List sx_N := [(5, [some (sx_va [1]), some (sx_vo 1), some (sx_ri 0 500), none], sch_0, [], (500, [((-1), (0, 2, 0))]))]
theorem kac_1 : sx_chk [] [] 6000 ka_1 kan_1 = true := by decide +kernel
theorem kah_1 (Q : List ik_E → Prop) : sx_hd Q ka_1 := sx_chk_ok sx_h0 (fun u => nomatch u) kac_1
/-- X6_readWord  -/
def ka_2 : sx_K := (64, ([sx_va [1], sx_vo 3], sch_0, []), [(1, [2])], [([sx_ri 0 1], sch_0, [])], false)
def kan_2 : List sx_N := [(5, [some (sx_va [1]), some (sx_vo 3), some (sx_ri 0 500), none], sch_0, [], (500, [((-1), (0, 2, 0))]))]
theorem kac_2 : sx_chk [] [] 6000 ka_2 kan_2 = true := by decide +kernel
theorem kah_2 (Q : List ik_E → Prop) : sx_hd Q ka_2 := sx_chk_ok sx_h0 (fun u => nomatch u) kac_2
/-- X6_readWord  -/
def ka_3 : sx_K := (64, ([sx_va [1], sx_vo 5], sch_0, []), [(1, [2])], [([sx_ri 0 1], sch_0, [])], false)
def kan_3 : List sx_N := [(5, [some (sx_va [1]), some (sx_vo 5), some (sx_ri 0 500), none], sch_0, [], (500, [((-1), (0, 2, 0))]))]
theorem kac_3 : sx_chk [] [] 6000 ka_3 kan_3 = true := by decide +kernel
theorem kah_3 (Q : List ik_E → Prop) : sx_hd Q ka_3 := sx_chk_ok sx_h0 (fun u => nomatch u) kac_3
/-- X6_readNumber  -/
def ka_4 : sx_K := (63, ([sx_va [1], sx_ri 0 0, sx_ri 11 11], sch_0, []), [(1, [2, 3, 4])], [([sx_ri (-1) 11], sch_0, [])], false)
def kan_4 : List sx_N := [(8, [some (sx_va [1]), some (sx_ri 0 0), some (sx_ri 11 11), some (sx_ri 0 500), some (sx_ri (-2147483648) 1000)], sch_0, [], (500, [((-1), (1, 1, 2))]))]
theorem kac_4 : sx_chk [] [] 6000 ka_4 kan_4 = true := by decide +kernel
theorem kah_4 (Q : List ik_E → Prop) : sx_hd Q ka_4 := sx_chk_ok sx_h0 (fun u => nomatch u) kac_4
/-- X6_readNumber  -/
def ka_5 : sx_K := (63, ([sx_va [1], sx_ri 1 1, sx_ri 100 100], sch_0, []), [(1, [2, 3, 4])], [([sx_ri (-1) 100], sch_0, [])], false)
def kan_5 : List sx_N := [(8, [some (sx_va [1]), some (sx_ri 1 1), some (sx_ri 100 100), some (sx_ri 0 500), some (sx_ri (-2147483648) 1000)], sch_0, [], (500, [((-1), (1, 1, 2))]))]
theorem kac_5 : sx_chk [] [] 6000 ka_5 kan_5 = true := by decide +kernel
theorem kah_5 (Q : List ik_E → Prop) : sx_hd Q ka_5 := sx_chk_ok sx_h0 (fun u => nomatch u) kac_5
def sc_3 : sx_C := .inr (.inr (0, 48, 0, 11))
def sc_4 : sx_C := .inr (.inr (0, 48, (-2147483648), 2147483647))
def sch_2 : sx_H := ([none, some sc_0, some sc_1, none, some sc_3, none, some sc_4], [])
/-- X6_readGoal  -/
def ka_6 : sx_K := (59, ([sx_va [1], sx_ri 0 10, sx_ri 0 3], sch_2, []), [(1, [2, 3, 4]), (4, [9999]), (6, [9999])], [([sx_ri 0 1], sch_2, [])], false)
def kan_6 : List sx_N := [(29, [some (sx_va [1]), some (sx_ri 0 10), some (sx_ri 0 3), some (sx_ri 0 500), some (sx_ri 0 11), some (sx_ri 0 3)], sch_2, [], (3, [((-1), (0, 5, 0))]))]
theorem kac_6 : sx_chk [ka_0, ka_4, ka_5] [] 6000 ka_6 kan_6 = true := by decide +kernel
theorem kah_6 (Q : List ik_E → Prop) : sx_hd Q ka_6 := sx_chk_ok (sx_h1 (kah_0 Q) (sx_h1 (kah_4 Q) (sx_h1 (kah_5 Q) sx_h0))) (fun u => nomatch u) kac_6
def sc_5 : sx_C := .inr (.inr (0, 12, 0, 4))
def sch_3 : sx_H := ([none, some sc_0, some sc_1, some sc_5, some sc_3, some sc_4, some sc_4], [])
/-- X6_readMoves  -/
def ka_7 : sx_K := (58, ([sx_va [1], sx_ri 0 10], sch_3, []), [(1, [2, 3, 4]), (3, [9999]), (4, [9999]), (5, [9999]), (6, [9999])], [([sx_ri 0 1], sch_3, [])], false)
def kan_7 : List sx_N := [(4, [some (sx_va [1]), some (sx_ri 0 10), some (sx_ri (-2147483648) 2147483647), some (sx_ri 0 4), none], sch_3, [], (5, [((-1), (0, 3, 0))]))]
theorem kac_7 : sx_chk [ka_0, ka_1, ka_2, ka_3, ka_4, ka_5, ka_6] [] 6000 ka_7 kan_7 = true := by decide +kernel
theorem kah_7 (Q : List ik_E → Prop) : sx_hd Q ka_7 := sx_chk_ok (sx_h1 (kah_0 Q) (sx_h1 (kah_1 Q) (sx_h1 (kah_2 Q) (sx_h1 (kah_3 Q) (sx_h1 (kah_4 Q) (sx_h1 (kah_5 Q) (sx_h1 (kah_6 Q) sx_h0))))))) (fun u => nomatch u) kac_7
def sc_6 : sx_C := .inl (6, [sx_va [2], sx_ri 1 500, sx_ri 0 500, sx_ri (-2147483648) 2147483647, sx_ri (-2147483648) 2147483647, sx_ri 0 12, sx_va [3], sx_va [4], sx_va [5], sx_va [6]])
def sch_4 : sx_H := ([none, some sc_6, some sc_1, some sc_5, some sc_3, some sc_4, some sc_4], [])
/-- X6_readPlaces  -/
def ka_8 : sx_K := (57, ([sx_va [1]], sch_3, []), [(1, [2, 3, 4, 5]), (3, [9999]), (4, [9999]), (5, [9999]), (6, [9999])], [([sx_ri 0 1], sch_3, [])], false)
def kan_8 : List sx_N := [(19, [some (sx_va [1]), some (sx_ri 0 11), none], sch_4, [], (12, [((-1), (0, 1, 0))]))]
theorem kac_8 : sx_chk [ka_0, ka_1, ka_2, ka_3, ka_7] [] 6000 ka_8 kan_8 = true := by decide +kernel
theorem kah_8 (Q : List ik_E → Prop) : sx_hd Q ka_8 := sx_chk_ok (sx_h1 (kah_0 Q) (sx_h1 (kah_1 Q) (sx_h1 (kah_2 Q) (sx_h1 (kah_3 Q) (sx_h1 (kah_7 Q) sx_h0))))) (fun u => nomatch u) kac_8
