noncomputable section
/-! every public method, from every state (written by wip/sx/pub4.py) -/
theorem pc_fault {h : List ik_E} (hC : cc_CI h)  : ik_W none 92 0 (ik_loc (ik_ml 92) [.ref 0]) [] h 0 0 (pc_P cc_N 92 (fun _ _ => True) h) := by
  rcases hC with q | q
  · exact pc_of (N := cc_N) (C := ka_66) kah_66 (T := cc_TA) (by decide +kernel) q ⟨⟨0, List.mem_singleton.mpr rfl, rfl⟩, trivial⟩
  · exact pc_of (N := cc_N) (C := ka_67) kah_67 (T := cc_TB) (by decide +kernel) q ⟨⟨0, List.mem_singleton.mpr rfl, rfl⟩, trivial⟩
theorem pm_fault {h : List ik_E} (hI : rc_RI h)  : ik_W none 148 0 (ik_loc (ik_ml 148) [.ref 66]) [] h 0 0 (pr_P rc_N 148 (fun _ _ => True) h) := by
  rcases hI.1 with q | q
  · exact pr_of (N := rc_N) (C := kr_48) krh_48 (T := rc_TA) (fun r => Or.inl r) (by decide +kernel) q hI.2 ⟨⟨66, List.mem_singleton.mpr rfl, rfl⟩, trivial⟩
  · exact pr_of (N := rc_N) (C := kr_49) krh_49 (T := rc_TB) (fun r => Or.inr r) (by decide +kernel) q hI.2 ⟨⟨66, List.mem_singleton.mpr rfl, rfl⟩, trivial⟩
theorem pc_told {h : List ik_E} (hC : cc_CI h) {x0 : Int32} : ik_W none 93 0 (ik_loc (ik_ml 93) [.ref 0, .int x0]) [] h 0 0 (pc_P cc_N 93 (fun _ _ => True) h) := by
  rcases hC with q | q
  · exact pc_of (N := cc_N) (C := ka_68) kah_68 (T := cc_TA) (by decide +kernel) q ⟨⟨0, List.mem_singleton.mpr rfl, rfl⟩, ⟨x0, rfl, (sx_i32 x0).1, (sx_i32 x0).2⟩, trivial⟩
  · exact pc_of (N := cc_N) (C := ka_69) kah_69 (T := cc_TB) (by decide +kernel) q ⟨⟨0, List.mem_singleton.mpr rfl, rfl⟩, ⟨x0, rfl, (sx_i32 x0).1, (sx_i32 x0).2⟩, trivial⟩
theorem pm_told {h : List ik_E} (hI : rc_RI h) {x0 : Int32} : ik_W none 150 0 (ik_loc (ik_ml 150) [.ref 66, .int x0]) [] h 0 0 (pr_P rc_N 150 (fun _ _ => True) h) := by
  rcases hI.1 with q | q
  · exact pr_of (N := rc_N) (C := kr_50) krh_50 (T := rc_TA) (fun r => Or.inl r) (by decide +kernel) q hI.2 ⟨⟨66, List.mem_singleton.mpr rfl, rfl⟩, ⟨x0, rfl, (sx_i32 x0).1, (sx_i32 x0).2⟩, trivial⟩
  · exact pr_of (N := rc_N) (C := kr_51) krh_51 (T := rc_TB) (fun r => Or.inr r) (by decide +kernel) q hI.2 ⟨⟨66, List.mem_singleton.mpr rfl, rfl⟩, ⟨x0, rfl, (sx_i32 x0).1, (sx_i32 x0).2⟩, trivial⟩
theorem pc_move {h : List ik_E} (hC : cc_CI h) {x0 : Int32} {x1 : Int32} {x2 : Int32} : ik_W none 94 0 (ik_loc (ik_ml 94) [.ref 0, .int x0, .int x1, .int x2]) [] h 0 0 (pc_P cc_N 94 (fun _ _ => True) h) := by
  rcases hC with q | q
  · exact pc_of (N := cc_N) (C := ka_70) kah_70 (T := cc_TA) (by decide +kernel) q ⟨⟨0, List.mem_singleton.mpr rfl, rfl⟩, ⟨x0, rfl, (sx_i32 x0).1, (sx_i32 x0).2⟩, ⟨x1, rfl, (sx_i32 x1).1, (sx_i32 x1).2⟩, ⟨x2, rfl, (sx_i32 x2).1, (sx_i32 x2).2⟩, trivial⟩
  · exact pc_of (N := cc_N) (C := ka_71) kah_71 (T := cc_TB) (by decide +kernel) q ⟨⟨0, List.mem_singleton.mpr rfl, rfl⟩, ⟨x0, rfl, (sx_i32 x0).1, (sx_i32 x0).2⟩, ⟨x1, rfl, (sx_i32 x1).1, (sx_i32 x1).2⟩, ⟨x2, rfl, (sx_i32 x2).1, (sx_i32 x2).2⟩, trivial⟩
theorem pm_move {h : List ik_E} (hI : rc_RI h) {x0 : Int32} {x1 : Int32} {x2 : Int32} : ik_W none 151 0 (ik_loc (ik_ml 151) [.ref 66, .int x0, .int x1, .int x2]) [] h 0 0 (pr_P rc_N 151 (fun _ _ => True) h) := by
  rcases hI.1 with q | q
  · exact pr_of (N := rc_N) (C := kr_52) krh_52 (T := rc_TA) (fun r => Or.inl r) (by decide +kernel) q hI.2 ⟨⟨66, List.mem_singleton.mpr rfl, rfl⟩, ⟨x0, rfl, (sx_i32 x0).1, (sx_i32 x0).2⟩, ⟨x1, rfl, (sx_i32 x1).1, (sx_i32 x1).2⟩, ⟨x2, rfl, (sx_i32 x2).1, (sx_i32 x2).2⟩, trivial⟩
  · exact pr_of (N := rc_N) (C := kr_53) krh_53 (T := rc_TB) (fun r => Or.inr r) (by decide +kernel) q hI.2 ⟨⟨66, List.mem_singleton.mpr rfl, rfl⟩, ⟨x0, rfl, (sx_i32 x0).1, (sx_i32 x0).2⟩, ⟨x1, rfl, (sx_i32 x1).1, (sx_i32 x1).2⟩, ⟨x2, rfl, (sx_i32 x2).1, (sx_i32 x2).2⟩, trivial⟩
theorem pc_cork {h : List ik_E} (hC : cc_CI h) {x0 : Int32} {x1 : Int32} {x2 : Int32} : ik_W none 95 0 (ik_loc (ik_ml 95) [.ref 0, .int x0, .int x1, .int x2]) [] h 0 0 (pc_P cc_N 95 (fun _ _ => True) h) := by
  rcases hC with q | q
  · exact pc_of (N := cc_N) (C := ka_72) kah_72 (T := cc_TA) (by decide +kernel) q ⟨⟨0, List.mem_singleton.mpr rfl, rfl⟩, ⟨x0, rfl, (sx_i32 x0).1, (sx_i32 x0).2⟩, ⟨x1, rfl, (sx_i32 x1).1, (sx_i32 x1).2⟩, ⟨x2, rfl, (sx_i32 x2).1, (sx_i32 x2).2⟩, trivial⟩
  · exact pc_of (N := cc_N) (C := ka_73) kah_73 (T := cc_TB) (by decide +kernel) q ⟨⟨0, List.mem_singleton.mpr rfl, rfl⟩, ⟨x0, rfl, (sx_i32 x0).1, (sx_i32 x0).2⟩, ⟨x1, rfl, (sx_i32 x1).1, (sx_i32 x1).2⟩, ⟨x2, rfl, (sx_i32 x2).1, (sx_i32 x2).2⟩, trivial⟩
theorem pm_cork {h : List ik_E} (hI : rc_RI h) {x0 : Int32} {x1 : Int32} {x2 : Int32} : ik_W none 158 0 (ik_loc (ik_ml 158) [.ref 66, .int x0, .int x1, .int x2]) [] h 0 0 (pr_P rc_N 158 (fun _ _ => True) h) := by
  rcases hI.1 with q | q
  · exact pr_of (N := rc_N) (C := kr_54) krh_54 (T := rc_TA) (fun r => Or.inl r) (by decide +kernel) q hI.2 ⟨⟨66, List.mem_singleton.mpr rfl, rfl⟩, ⟨x0, rfl, (sx_i32 x0).1, (sx_i32 x0).2⟩, ⟨x1, rfl, (sx_i32 x1).1, (sx_i32 x1).2⟩, ⟨x2, rfl, (sx_i32 x2).1, (sx_i32 x2).2⟩, trivial⟩
  · exact pr_of (N := rc_N) (C := kr_55) krh_55 (T := rc_TB) (fun r => Or.inr r) (by decide +kernel) q hI.2 ⟨⟨66, List.mem_singleton.mpr rfl, rfl⟩, ⟨x0, rfl, (sx_i32 x0).1, (sx_i32 x0).2⟩, ⟨x1, rfl, (sx_i32 x1).1, (sx_i32 x1).2⟩, ⟨x2, rfl, (sx_i32 x2).1, (sx_i32 x2).2⟩, trivial⟩
theorem pc_comes {h : List ik_E} (hC : cc_CI h) {x0 : Int32} {x1 : Int32} {x2 : Int32} : ik_W none 96 0 (ik_loc (ik_ml 96) [.ref 0, .int x0, .int x1, .int x2]) [] h 0 0 (pc_P cc_N 96 (fun _ _ => True) h) := by
  rcases hC with q | q
  · exact pc_of (N := cc_N) (C := ka_74) kah_74 (T := cc_TA) (by decide +kernel) q ⟨⟨0, List.mem_singleton.mpr rfl, rfl⟩, ⟨x0, rfl, (sx_i32 x0).1, (sx_i32 x0).2⟩, ⟨x1, rfl, (sx_i32 x1).1, (sx_i32 x1).2⟩, ⟨x2, rfl, (sx_i32 x2).1, (sx_i32 x2).2⟩, trivial⟩
  · exact pc_of (N := cc_N) (C := ka_75) kah_75 (T := cc_TB) (by decide +kernel) q ⟨⟨0, List.mem_singleton.mpr rfl, rfl⟩, ⟨x0, rfl, (sx_i32 x0).1, (sx_i32 x0).2⟩, ⟨x1, rfl, (sx_i32 x1).1, (sx_i32 x1).2⟩, ⟨x2, rfl, (sx_i32 x2).1, (sx_i32 x2).2⟩, trivial⟩
theorem pm_comes {h : List ik_E} (hI : rc_RI h) {x0 : Int32} {x1 : Int32} {x2 : Int32} : ik_W none 160 0 (ik_loc (ik_ml 160) [.ref 66, .int x0, .int x1, .int x2]) [] h 0 0 (pr_P rc_N 160 (fun _ _ => True) h) := by
  rcases hI.1 with q | q
  · exact pr_of (N := rc_N) (C := kr_56) krh_56 (T := rc_TA) (fun r => Or.inl r) (by decide +kernel) q hI.2 ⟨⟨66, List.mem_singleton.mpr rfl, rfl⟩, ⟨x0, rfl, (sx_i32 x0).1, (sx_i32 x0).2⟩, ⟨x1, rfl, (sx_i32 x1).1, (sx_i32 x1).2⟩, ⟨x2, rfl, (sx_i32 x2).1, (sx_i32 x2).2⟩, trivial⟩
  · exact pr_of (N := rc_N) (C := kr_57) krh_57 (T := rc_TB) (fun r => Or.inr r) (by decide +kernel) q hI.2 ⟨⟨66, List.mem_singleton.mpr rfl, rfl⟩, ⟨x0, rfl, (sx_i32 x0).1, (sx_i32 x0).2⟩, ⟨x1, rfl, (sx_i32 x1).1, (sx_i32 x1).2⟩, ⟨x2, rfl, (sx_i32 x2).1, (sx_i32 x2).2⟩, trivial⟩
theorem pc_at {h : List ik_E} (hC : cc_CI h) {x0 : Int32} {x1 : Int32} {x2 : Int32} {x3 : Int32} : ik_W none 97 0 (ik_loc (ik_ml 97) [.ref 0, .int x0, .int x1, .int x2, .int x3]) [] h 0 0 (pc_P cc_N 97 (fun _ _ => True) h) := by
  rcases hC with q | q
  · exact pc_of (N := cc_N) (C := ka_76) kah_76 (T := cc_TA) (by decide +kernel) q ⟨⟨0, List.mem_singleton.mpr rfl, rfl⟩, ⟨x0, rfl, (sx_i32 x0).1, (sx_i32 x0).2⟩, ⟨x1, rfl, (sx_i32 x1).1, (sx_i32 x1).2⟩, ⟨x2, rfl, (sx_i32 x2).1, (sx_i32 x2).2⟩, ⟨x3, rfl, (sx_i32 x3).1, (sx_i32 x3).2⟩, trivial⟩
  · exact pc_of (N := cc_N) (C := ka_77) kah_77 (T := cc_TB) (by decide +kernel) q ⟨⟨0, List.mem_singleton.mpr rfl, rfl⟩, ⟨x0, rfl, (sx_i32 x0).1, (sx_i32 x0).2⟩, ⟨x1, rfl, (sx_i32 x1).1, (sx_i32 x1).2⟩, ⟨x2, rfl, (sx_i32 x2).1, (sx_i32 x2).2⟩, ⟨x3, rfl, (sx_i32 x3).1, (sx_i32 x3).2⟩, trivial⟩
theorem pm_at {h : List ik_E} (hI : rc_RI h) {x0 : Int32} {x1 : Int32} {x2 : Int32} {x3 : Int32} : ik_W none 161 0 (ik_loc (ik_ml 161) [.ref 66, .int x0, .int x1, .int x2, .int x3]) [] h 0 0 (pr_P rc_N 161 (fun _ _ => True) h) := by
  rcases hI.1 with q | q
  · exact pr_of (N := rc_N) (C := kr_58) krh_58 (T := rc_TA) (fun r => Or.inl r) (by decide +kernel) q hI.2 ⟨⟨66, List.mem_singleton.mpr rfl, rfl⟩, ⟨x0, rfl, (sx_i32 x0).1, (sx_i32 x0).2⟩, ⟨x1, rfl, (sx_i32 x1).1, (sx_i32 x1).2⟩, ⟨x2, rfl, (sx_i32 x2).1, (sx_i32 x2).2⟩, ⟨x3, rfl, (sx_i32 x3).1, (sx_i32 x3).2⟩, trivial⟩
  · exact pr_of (N := rc_N) (C := kr_59) krh_59 (T := rc_TB) (fun r => Or.inr r) (by decide +kernel) q hI.2 ⟨⟨66, List.mem_singleton.mpr rfl, rfl⟩, ⟨x0, rfl, (sx_i32 x0).1, (sx_i32 x0).2⟩, ⟨x1, rfl, (sx_i32 x1).1, (sx_i32 x1).2⟩, ⟨x2, rfl, (sx_i32 x2).1, (sx_i32 x2).2⟩, ⟨x3, rfl, (sx_i32 x3).1, (sx_i32 x3).2⟩, trivial⟩
theorem pc_kept {h : List ik_E} (hC : cc_CI h) {x0 : Int32} {x1 : Int32} {x2 : Int32} : ik_W none 98 0 (ik_loc (ik_ml 98) [.ref 0, .int x0, .int x1, .int x2]) [] h 0 0 (pc_P cc_N 98 (fun _ _ => True) h) := by
  rcases hC with q | q
  · exact pc_of (N := cc_N) (C := ka_78) kah_78 (T := cc_TA) (by decide +kernel) q ⟨⟨0, List.mem_singleton.mpr rfl, rfl⟩, ⟨x0, rfl, (sx_i32 x0).1, (sx_i32 x0).2⟩, ⟨x1, rfl, (sx_i32 x1).1, (sx_i32 x1).2⟩, ⟨x2, rfl, (sx_i32 x2).1, (sx_i32 x2).2⟩, trivial⟩
  · exact pc_of (N := cc_N) (C := ka_79) kah_79 (T := cc_TB) (by decide +kernel) q ⟨⟨0, List.mem_singleton.mpr rfl, rfl⟩, ⟨x0, rfl, (sx_i32 x0).1, (sx_i32 x0).2⟩, ⟨x1, rfl, (sx_i32 x1).1, (sx_i32 x1).2⟩, ⟨x2, rfl, (sx_i32 x2).1, (sx_i32 x2).2⟩, trivial⟩
theorem pm_kept {h : List ik_E} (hI : rc_RI h) {x0 : Int32} {x1 : Int32} {x2 : Int32} : ik_W none 162 0 (ik_loc (ik_ml 162) [.ref 66, .int x0, .int x1, .int x2]) [] h 0 0 (pr_P rc_N 162 (fun _ _ => True) h) := by
  rcases hI.1 with q | q
  · exact pr_of (N := rc_N) (C := kr_60) krh_60 (T := rc_TA) (fun r => Or.inl r) (by decide +kernel) q hI.2 ⟨⟨66, List.mem_singleton.mpr rfl, rfl⟩, ⟨x0, rfl, (sx_i32 x0).1, (sx_i32 x0).2⟩, ⟨x1, rfl, (sx_i32 x1).1, (sx_i32 x1).2⟩, ⟨x2, rfl, (sx_i32 x2).1, (sx_i32 x2).2⟩, trivial⟩
  · exact pr_of (N := rc_N) (C := kr_61) krh_61 (T := rc_TB) (fun r => Or.inr r) (by decide +kernel) q hI.2 ⟨⟨66, List.mem_singleton.mpr rfl, rfl⟩, ⟨x0, rfl, (sx_i32 x0).1, (sx_i32 x0).2⟩, ⟨x1, rfl, (sx_i32 x1).1, (sx_i32 x1).2⟩, ⟨x2, rfl, (sx_i32 x2).1, (sx_i32 x2).2⟩, trivial⟩
theorem pc_known {h : List ik_E} (hC : cc_CI h) {x0 : Int32} {x1 : Int32} {x2 : Int32} : ik_W none 99 0 (ik_loc (ik_ml 99) [.ref 0, .int x0, .int x1, .int x2]) [] h 0 0 (pc_P cc_N 99 (fun _ _ => True) h) := by
  rcases hC with q | q
  · exact pc_of (N := cc_N) (C := ka_80) kah_80 (T := cc_TA) (by decide +kernel) q ⟨⟨0, List.mem_singleton.mpr rfl, rfl⟩, ⟨x0, rfl, (sx_i32 x0).1, (sx_i32 x0).2⟩, ⟨x1, rfl, (sx_i32 x1).1, (sx_i32 x1).2⟩, ⟨x2, rfl, (sx_i32 x2).1, (sx_i32 x2).2⟩, trivial⟩
  · exact pc_of (N := cc_N) (C := ka_81) kah_81 (T := cc_TB) (by decide +kernel) q ⟨⟨0, List.mem_singleton.mpr rfl, rfl⟩, ⟨x0, rfl, (sx_i32 x0).1, (sx_i32 x0).2⟩, ⟨x1, rfl, (sx_i32 x1).1, (sx_i32 x1).2⟩, ⟨x2, rfl, (sx_i32 x2).1, (sx_i32 x2).2⟩, trivial⟩
theorem pm_known {h : List ik_E} (hI : rc_RI h) {x0 : Int32} {x1 : Int32} {x2 : Int32} : ik_W none 164 0 (ik_loc (ik_ml 164) [.ref 66, .int x0, .int x1, .int x2]) [] h 0 0 (pr_P rc_N 164 (fun _ _ => True) h) := by
  rcases hI.1 with q | q
  · exact pr_of (N := rc_N) (C := kr_62) krh_62 (T := rc_TA) (fun r => Or.inl r) (by decide +kernel) q hI.2 ⟨⟨66, List.mem_singleton.mpr rfl, rfl⟩, ⟨x0, rfl, (sx_i32 x0).1, (sx_i32 x0).2⟩, ⟨x1, rfl, (sx_i32 x1).1, (sx_i32 x1).2⟩, ⟨x2, rfl, (sx_i32 x2).1, (sx_i32 x2).2⟩, trivial⟩
  · exact pr_of (N := rc_N) (C := kr_63) krh_63 (T := rc_TB) (fun r => Or.inr r) (by decide +kernel) q hI.2 ⟨⟨66, List.mem_singleton.mpr rfl, rfl⟩, ⟨x0, rfl, (sx_i32 x0).1, (sx_i32 x0).2⟩, ⟨x1, rfl, (sx_i32 x1).1, (sx_i32 x1).2⟩, ⟨x2, rfl, (sx_i32 x2).1, (sx_i32 x2).2⟩, trivial⟩
theorem pc_later {h : List ik_E} (hC : cc_CI h) {x0 : Int32} : ik_W none 100 0 (ik_loc (ik_ml 100) [.ref 0, .int x0]) [] h 0 0 (pc_P cc_N 100 (fun _ _ => True) h) := by
  rcases hC with q | q
  · exact pc_of (N := cc_N) (C := ka_82) kah_82 (T := cc_TA) (by decide +kernel) q ⟨⟨0, List.mem_singleton.mpr rfl, rfl⟩, ⟨x0, rfl, (sx_i32 x0).1, (sx_i32 x0).2⟩, trivial⟩
  · exact pc_of (N := cc_N) (C := ka_83) kah_83 (T := cc_TB) (by decide +kernel) q ⟨⟨0, List.mem_singleton.mpr rfl, rfl⟩, ⟨x0, rfl, (sx_i32 x0).1, (sx_i32 x0).2⟩, trivial⟩
theorem pm_later {h : List ik_E} (hI : rc_RI h) {x0 : Int32} : ik_W none 170 0 (ik_loc (ik_ml 170) [.ref 66, .int x0]) [] h 0 0 (pr_P rc_N 170 (fun _ _ => True) h) := by
  rcases hI.1 with q | q
  · exact pr_of (N := rc_N) (C := kr_64) krh_64 (T := rc_TA) (fun r => Or.inl r) (by decide +kernel) q hI.2 ⟨⟨66, List.mem_singleton.mpr rfl, rfl⟩, ⟨x0, rfl, (sx_i32 x0).1, (sx_i32 x0).2⟩, trivial⟩
  · exact pr_of (N := rc_N) (C := kr_65) krh_65 (T := rc_TB) (fun r => Or.inr r) (by decide +kernel) q hI.2 ⟨⟨66, List.mem_singleton.mpr rfl, rfl⟩, ⟨x0, rfl, (sx_i32 x0).1, (sx_i32 x0).2⟩, trivial⟩
theorem pc_best {h : List ik_E} (hC : cc_CI h) {x0 : Int32} {x1 : Int32} {x2 : Int32} : ik_W none 101 0 (ik_loc (ik_ml 101) [.ref 0, .int x0, .int x1, .int x2]) [] h 0 0 (pc_P cc_N 101 (fun _ _ => True) h) := by
  rcases hC with q | q
  · exact pc_of (N := cc_N) (C := ka_84) kah_84 (T := cc_TA) (by decide +kernel) q ⟨⟨0, List.mem_singleton.mpr rfl, rfl⟩, ⟨x0, rfl, (sx_i32 x0).1, (sx_i32 x0).2⟩, ⟨x1, rfl, (sx_i32 x1).1, (sx_i32 x1).2⟩, ⟨x2, rfl, (sx_i32 x2).1, (sx_i32 x2).2⟩, trivial⟩
  · exact pc_of (N := cc_N) (C := ka_85) kah_85 (T := cc_TB) (by decide +kernel) q ⟨⟨0, List.mem_singleton.mpr rfl, rfl⟩, ⟨x0, rfl, (sx_i32 x0).1, (sx_i32 x0).2⟩, ⟨x1, rfl, (sx_i32 x1).1, (sx_i32 x1).2⟩, ⟨x2, rfl, (sx_i32 x2).1, (sx_i32 x2).2⟩, trivial⟩
theorem pm_best {h : List ik_E} (hI : rc_RI h) {x0 : Int32} {x1 : Int32} {x2 : Int32} : ik_W none 171 0 (ik_loc (ik_ml 171) [.ref 66, .int x0, .int x1, .int x2]) [] h 0 0 (pr_P rc_N 171 (fun _ _ => True) h) := by
  rcases hI.1 with q | q
  · exact pr_of (N := rc_N) (C := kr_66) krh_66 (T := rc_TA) (fun r => Or.inl r) (by decide +kernel) q hI.2 ⟨⟨66, List.mem_singleton.mpr rfl, rfl⟩, ⟨x0, rfl, (sx_i32 x0).1, (sx_i32 x0).2⟩, ⟨x1, rfl, (sx_i32 x1).1, (sx_i32 x1).2⟩, ⟨x2, rfl, (sx_i32 x2).1, (sx_i32 x2).2⟩, trivial⟩
  · exact pr_of (N := rc_N) (C := kr_67) krh_67 (T := rc_TB) (fun r => Or.inr r) (by decide +kernel) q hI.2 ⟨⟨66, List.mem_singleton.mpr rfl, rfl⟩, ⟨x0, rfl, (sx_i32 x0).1, (sx_i32 x0).2⟩, ⟨x1, rfl, (sx_i32 x1).1, (sx_i32 x1).2⟩, ⟨x2, rfl, (sx_i32 x2).1, (sx_i32 x2).2⟩, trivial⟩
theorem pc_mixed {h : List ik_E} (hC : cc_CI h) {x0 : Int32} {x1 : Int32} {x2 : Int32} : ik_W none 102 0 (ik_loc (ik_ml 102) [.ref 0, .int x0, .int x1, .int x2]) [] h 0 0 (pc_P cc_N 102 (fun _ _ => True) h) := by
  rcases hC with q | q
  · exact pc_of (N := cc_N) (C := ka_86) kah_86 (T := cc_TA) (by decide +kernel) q ⟨⟨0, List.mem_singleton.mpr rfl, rfl⟩, ⟨x0, rfl, (sx_i32 x0).1, (sx_i32 x0).2⟩, ⟨x1, rfl, (sx_i32 x1).1, (sx_i32 x1).2⟩, ⟨x2, rfl, (sx_i32 x2).1, (sx_i32 x2).2⟩, trivial⟩
  · exact pc_of (N := cc_N) (C := ka_87) kah_87 (T := cc_TB) (by decide +kernel) q ⟨⟨0, List.mem_singleton.mpr rfl, rfl⟩, ⟨x0, rfl, (sx_i32 x0).1, (sx_i32 x0).2⟩, ⟨x1, rfl, (sx_i32 x1).1, (sx_i32 x1).2⟩, ⟨x2, rfl, (sx_i32 x2).1, (sx_i32 x2).2⟩, trivial⟩
theorem pm_mixed {h : List ik_E} (hI : rc_RI h) {x0 : Int32} {x1 : Int32} {x2 : Int32} : ik_W none 180 0 (ik_loc (ik_ml 180) [.ref 66, .int x0, .int x1, .int x2]) [] h 0 0 (pr_P rc_N 180 (fun _ _ => True) h) := by
  rcases hI.1 with q | q
  · exact pr_of (N := rc_N) (C := kr_68) krh_68 (T := rc_TA) (fun r => Or.inl r) (by decide +kernel) q hI.2 ⟨⟨66, List.mem_singleton.mpr rfl, rfl⟩, ⟨x0, rfl, (sx_i32 x0).1, (sx_i32 x0).2⟩, ⟨x1, rfl, (sx_i32 x1).1, (sx_i32 x1).2⟩, ⟨x2, rfl, (sx_i32 x2).1, (sx_i32 x2).2⟩, trivial⟩
  · exact pr_of (N := rc_N) (C := kr_69) krh_69 (T := rc_TB) (fun r => Or.inr r) (by decide +kernel) q hI.2 ⟨⟨66, List.mem_singleton.mpr rfl, rfl⟩, ⟨x0, rfl, (sx_i32 x0).1, (sx_i32 x0).2⟩, ⟨x1, rfl, (sx_i32 x1).1, (sx_i32 x1).2⟩, ⟨x2, rfl, (sx_i32 x2).1, (sx_i32 x2).2⟩, trivial⟩
theorem pc_stone {h : List ik_E} (hC : cc_CI h) {x0 : Int32} {x1 : Int32} (g1 : 0 ≤ x1.toInt ∧ x1.toInt ≤ 1) : ik_W none 103 0 (ik_loc (ik_ml 103) [.ref 0, .int x0, .int x1]) [] h 0 0 (pc_P cc_N 103 (fun _ _ => True) h) := by
  rcases hC with q | q
  · exact pc_of (N := cc_N) (C := ka_88) kah_88 (T := cc_TA) (by decide +kernel) q ⟨⟨0, List.mem_singleton.mpr rfl, rfl⟩, ⟨x0, rfl, (sx_i32 x0).1, (sx_i32 x0).2⟩, ⟨x1, rfl, g1.1, g1.2⟩, trivial⟩
  · exact pc_of (N := cc_N) (C := ka_89) kah_89 (T := cc_TB) (by decide +kernel) q ⟨⟨0, List.mem_singleton.mpr rfl, rfl⟩, ⟨x0, rfl, (sx_i32 x0).1, (sx_i32 x0).2⟩, ⟨x1, rfl, g1.1, g1.2⟩, trivial⟩
theorem pm_stone {h : List ik_E} (hI : rc_RI h) {x0 : Int32} {x1 : Int32} (g1 : 0 ≤ x1.toInt ∧ x1.toInt ≤ 1) : ik_W none 181 0 (ik_loc (ik_ml 181) [.ref 66, .int x0, .int x1]) [] h 0 0 (pr_P rc_N 181 (fun _ _ => True) h) := by
  rcases hI.1 with q | q
  · exact pr_of (N := rc_N) (C := kr_70) krh_70 (T := rc_TA) (fun r => Or.inl r) (by decide +kernel) q hI.2 ⟨⟨66, List.mem_singleton.mpr rfl, rfl⟩, ⟨x0, rfl, (sx_i32 x0).1, (sx_i32 x0).2⟩, ⟨x1, rfl, g1.1, g1.2⟩, trivial⟩
  · exact pr_of (N := rc_N) (C := kr_71) krh_71 (T := rc_TB) (fun r => Or.inr r) (by decide +kernel) q hI.2 ⟨⟨66, List.mem_singleton.mpr rfl, rfl⟩, ⟨x0, rfl, (sx_i32 x0).1, (sx_i32 x0).2⟩, ⟨x1, rfl, g1.1, g1.2⟩, trivial⟩
theorem pc_most {h : List ik_E} (hC : cc_CI h) {x0 : Int32} {x1 : Int32} : ik_W none 104 0 (ik_loc (ik_ml 104) [.ref 0, .int x0, .int x1]) [] h 0 0 (pc_P cc_N 104 (fun _ _ => True) h) := by
  rcases hC with q | q
  · exact pc_of (N := cc_N) (C := ka_90) kah_90 (T := cc_TA) (by decide +kernel) q ⟨⟨0, List.mem_singleton.mpr rfl, rfl⟩, ⟨x0, rfl, (sx_i32 x0).1, (sx_i32 x0).2⟩, ⟨x1, rfl, (sx_i32 x1).1, (sx_i32 x1).2⟩, trivial⟩
  · exact pc_of (N := cc_N) (C := ka_91) kah_91 (T := cc_TB) (by decide +kernel) q ⟨⟨0, List.mem_singleton.mpr rfl, rfl⟩, ⟨x0, rfl, (sx_i32 x0).1, (sx_i32 x0).2⟩, ⟨x1, rfl, (sx_i32 x1).1, (sx_i32 x1).2⟩, trivial⟩
theorem pm_most {h : List ik_E} (hI : rc_RI h) {x0 : Int32} {x1 : Int32} : ik_W none 182 0 (ik_loc (ik_ml 182) [.ref 66, .int x0, .int x1]) [] h 0 0 (pr_P rc_N 182 (fun _ _ => True) h) := by
  rcases hI.1 with q | q
  · exact pr_of (N := rc_N) (C := kr_72) krh_72 (T := rc_TA) (fun r => Or.inl r) (by decide +kernel) q hI.2 ⟨⟨66, List.mem_singleton.mpr rfl, rfl⟩, ⟨x0, rfl, (sx_i32 x0).1, (sx_i32 x0).2⟩, ⟨x1, rfl, (sx_i32 x1).1, (sx_i32 x1).2⟩, trivial⟩
  · exact pr_of (N := rc_N) (C := kr_73) krh_73 (T := rc_TB) (fun r => Or.inr r) (by decide +kernel) q hI.2 ⟨⟨66, List.mem_singleton.mpr rfl, rfl⟩, ⟨x0, rfl, (sx_i32 x0).1, (sx_i32 x0).2⟩, ⟨x1, rfl, (sx_i32 x1).1, (sx_i32 x1).2⟩, trivial⟩
theorem pc_run {h : List ik_E} (hC : cc_CI h) {x0 : Int32} {x1 : Int32} : ik_W none 105 0 (ik_loc (ik_ml 105) [.ref 0, .int x0, .int x1]) [] h 0 0 (pc_P cc_Nr 105 (fun _ _ => True) h) := by
  rcases hC with q | q
  · exact pc_of (N := cc_Nr) (C := ka_92) kah_92 (T := cc_TA) (by decide +kernel) q ⟨⟨0, List.mem_singleton.mpr rfl, rfl⟩, ⟨x0, rfl, (sx_i32 x0).1, (sx_i32 x0).2⟩, ⟨x1, rfl, (sx_i32 x1).1, (sx_i32 x1).2⟩, trivial⟩
  · exact pc_of (N := cc_Nr) (C := ka_93) kah_93 (T := cc_TB) (by decide +kernel) q ⟨⟨0, List.mem_singleton.mpr rfl, rfl⟩, ⟨x0, rfl, (sx_i32 x0).1, (sx_i32 x0).2⟩, ⟨x1, rfl, (sx_i32 x1).1, (sx_i32 x1).2⟩, trivial⟩
theorem pm_run {h : List ik_E} (hI : rc_RI h) {x0 : Int32} {x1 : Int32} : ik_W none 183 0 (ik_loc (ik_ml 183) [.ref 66, .int x0, .int x1]) [] h 0 0 (pr_P rc_Nr 183 (fun _ _ => True) h) := by
  rcases hI.1 with q | q
  · exact pr_of (N := rc_Nr) (C := kr_74) krh_74 (T := rc_TA) (fun r => Or.inl r) (by decide +kernel) q hI.2 ⟨⟨66, List.mem_singleton.mpr rfl, rfl⟩, ⟨x0, rfl, (sx_i32 x0).1, (sx_i32 x0).2⟩, ⟨x1, rfl, (sx_i32 x1).1, (sx_i32 x1).2⟩, trivial⟩
  · exact pr_of (N := rc_Nr) (C := kr_75) krh_75 (T := rc_TB) (fun r => Or.inr r) (by decide +kernel) q hI.2 ⟨⟨66, List.mem_singleton.mpr rfl, rfl⟩, ⟨x0, rfl, (sx_i32 x0).1, (sx_i32 x0).2⟩, ⟨x1, rfl, (sx_i32 x1).1, (sx_i32 x1).2⟩, trivial⟩
theorem pc_forget {h : List ik_E} (hC : cc_CI h)  : ik_W none 106 0 (ik_loc (ik_ml 106) [.ref 0]) [] h 0 0 (pc_P cc_Nr 106 (fun _ _ => True) h) := by
  rcases hC with q | q
  · exact pc_of (N := cc_Nr) (C := ka_94) kah_94 (T := cc_TA) (by decide +kernel) q ⟨⟨0, List.mem_singleton.mpr rfl, rfl⟩, trivial⟩
  · exact pc_of (N := cc_Nr) (C := ka_95) kah_95 (T := cc_TB) (by decide +kernel) q ⟨⟨0, List.mem_singleton.mpr rfl, rfl⟩, trivial⟩
theorem pm_forget {h : List ik_E} (hI : rc_RI h)  : ik_W none 184 0 (ik_loc (ik_ml 184) [.ref 66]) [] h 0 0 (pr_P rc_Nr 184 (fun _ _ => True) h) := by
  rcases hI.1 with q | q
  · exact pr_of (N := rc_Nr) (C := kr_76) krh_76 (T := rc_TA) (fun r => Or.inl r) (by decide +kernel) q hI.2 ⟨⟨66, List.mem_singleton.mpr rfl, rfl⟩, trivial⟩
  · exact pr_of (N := rc_Nr) (C := kr_77) krh_77 (T := rc_TB) (fun r => Or.inr r) (by decide +kernel) q hI.2 ⟨⟨66, List.mem_singleton.mpr rfl, rfl⟩, trivial⟩
theorem pc_fit {h : List ik_E} (hC : cc_CI h) {x0 : Int32} : ik_W none 107 0 (ik_loc (ik_ml 107) [.ref 0, .int x0]) [] h 0 0 (pc_P cc_N 107 (fun _ _ => True) h) := by
  rcases hC with q | q
  · exact pc_of (N := cc_N) (C := ka_96) kah_96 (T := cc_TA) (by decide +kernel) q ⟨⟨0, List.mem_singleton.mpr rfl, rfl⟩, ⟨x0, rfl, (sx_i32 x0).1, (sx_i32 x0).2⟩, trivial⟩
  · exact pc_of (N := cc_N) (C := ka_97) kah_97 (T := cc_TB) (by decide +kernel) q ⟨⟨0, List.mem_singleton.mpr rfl, rfl⟩, ⟨x0, rfl, (sx_i32 x0).1, (sx_i32 x0).2⟩, trivial⟩
theorem pm_fit {h : List ik_E} (hI : rc_RI h) {x0 : Int32} : ik_W none 187 0 (ik_loc (ik_ml 187) [.ref 66, .int x0]) [] h 0 0 (pr_P rc_N 187 (fun _ _ => True) h) := by
  rcases hI.1 with q | q
  · exact pr_of (N := rc_N) (C := kr_78) krh_78 (T := rc_TA) (fun r => Or.inl r) (by decide +kernel) q hI.2 ⟨⟨66, List.mem_singleton.mpr rfl, rfl⟩, ⟨x0, rfl, (sx_i32 x0).1, (sx_i32 x0).2⟩, trivial⟩
  · exact pr_of (N := rc_N) (C := kr_79) krh_79 (T := rc_TB) (fun r => Or.inr r) (by decide +kernel) q hI.2 ⟨⟨66, List.mem_singleton.mpr rfl, rfl⟩, ⟨x0, rfl, (sx_i32 x0).1, (sx_i32 x0).2⟩, trivial⟩
theorem pc_stoned {h : List ik_E} (hC : cc_CI h)  : ik_W none 108 0 (ik_loc (ik_ml 108) [.ref 0]) [] h 0 0 (pc_P cc_N 108 (fun _ _ => True) h) := by
  rcases hC with q | q
  · exact pc_of (N := cc_N) (C := ka_98) kah_98 (T := cc_TA) (by decide +kernel) q ⟨⟨0, List.mem_singleton.mpr rfl, rfl⟩, trivial⟩
  · exact pc_of (N := cc_N) (C := ka_99) kah_99 (T := cc_TB) (by decide +kernel) q ⟨⟨0, List.mem_singleton.mpr rfl, rfl⟩, trivial⟩
theorem pm_stoned {h : List ik_E} (hI : rc_RI h)  : ik_W none 188 0 (ik_loc (ik_ml 188) [.ref 66]) [] h 0 0 (pr_P rc_N 188 (fun _ _ => True) h) := by
  rcases hI.1 with q | q
  · exact pr_of (N := rc_N) (C := kr_80) krh_80 (T := rc_TA) (fun r => Or.inl r) (by decide +kernel) q hI.2 ⟨⟨66, List.mem_singleton.mpr rfl, rfl⟩, trivial⟩
  · exact pr_of (N := rc_N) (C := kr_81) krh_81 (T := rc_TB) (fun r => Or.inr r) (by decide +kernel) q hI.2 ⟨⟨66, List.mem_singleton.mpr rfl, rfl⟩, trivial⟩
theorem pc_dig {h : List ik_E} (hC : cc_CI h) {x0 : Int32} {x1 : Int32} {x2 : Int32} {x3 : Int32} : ik_W none 109 0 (ik_loc (ik_ml 109) [.ref 0, .int x0, .int x1, .int x2, .int x3]) [] h 0 0 (pc_P cc_N 109 (fun _ _ => True) h) := by
  rcases hC with q | q
  · exact pc_of (N := cc_N) (C := ka_100) kah_100 (T := cc_TA) (by decide +kernel) q ⟨⟨0, List.mem_singleton.mpr rfl, rfl⟩, ⟨x0, rfl, (sx_i32 x0).1, (sx_i32 x0).2⟩, ⟨x1, rfl, (sx_i32 x1).1, (sx_i32 x1).2⟩, ⟨x2, rfl, (sx_i32 x2).1, (sx_i32 x2).2⟩, ⟨x3, rfl, (sx_i32 x3).1, (sx_i32 x3).2⟩, trivial⟩
  · exact pc_of (N := cc_N) (C := ka_101) kah_101 (T := cc_TB) (by decide +kernel) q ⟨⟨0, List.mem_singleton.mpr rfl, rfl⟩, ⟨x0, rfl, (sx_i32 x0).1, (sx_i32 x0).2⟩, ⟨x1, rfl, (sx_i32 x1).1, (sx_i32 x1).2⟩, ⟨x2, rfl, (sx_i32 x2).1, (sx_i32 x2).2⟩, ⟨x3, rfl, (sx_i32 x3).1, (sx_i32 x3).2⟩, trivial⟩
theorem pm_dig {h : List ik_E} (hI : rc_RI h) {x0 : Int32} {x1 : Int32} {x2 : Int32} {x3 : Int32} : ik_W none 189 0 (ik_loc (ik_ml 189) [.ref 66, .int x0, .int x1, .int x2, .int x3]) [] h 0 0 (pr_P rc_N 189 (fun _ _ => True) h) := pr_dig hI ⟨⟨66, List.mem_singleton.mpr rfl, rfl⟩, ⟨x0, rfl, (sx_i32 x0).1, (sx_i32 x0).2⟩, ⟨x1, rfl, (sx_i32 x1).1, (sx_i32 x1).2⟩, ⟨x2, rfl, (sx_i32 x2).1, (sx_i32 x2).2⟩, ⟨x3, rfl, (sx_i32 x3).1, (sx_i32 x3).2⟩, trivial⟩
theorem pc_fair {h : List ik_E} (hC : cc_CI h) {x0 : Int32} {x1 : Int32} : ik_W none 110 0 (ik_loc (ik_ml 110) [.ref 0, .int x0, .int x1]) [] h 0 0 (pc_P cc_N 110 (fun _ _ => True) h) := by
  rcases hC with q | q
  · exact pc_of (N := cc_N) (C := ka_102) kah_102 (T := cc_TA) (by decide +kernel) q ⟨⟨0, List.mem_singleton.mpr rfl, rfl⟩, ⟨x0, rfl, (sx_i32 x0).1, (sx_i32 x0).2⟩, ⟨x1, rfl, (sx_i32 x1).1, (sx_i32 x1).2⟩, trivial⟩
  · exact pc_of (N := cc_N) (C := ka_103) kah_103 (T := cc_TB) (by decide +kernel) q ⟨⟨0, List.mem_singleton.mpr rfl, rfl⟩, ⟨x0, rfl, (sx_i32 x0).1, (sx_i32 x0).2⟩, ⟨x1, rfl, (sx_i32 x1).1, (sx_i32 x1).2⟩, trivial⟩
theorem pm_fair {h : List ik_E} (hI : rc_RI h) {x0 : Int32} {x1 : Int32} : ik_W none 192 0 (ik_loc (ik_ml 192) [.ref 66, .int x0, .int x1]) [] h 0 0 (pr_P rc_N 192 (fun _ _ => True) h) := by
  rcases hI.1 with q | q
  · exact pr_of (N := rc_N) (C := kr_82) krh_82 (T := rc_TA) (fun r => Or.inl r) (by decide +kernel) q hI.2 ⟨⟨66, List.mem_singleton.mpr rfl, rfl⟩, ⟨x0, rfl, (sx_i32 x0).1, (sx_i32 x0).2⟩, ⟨x1, rfl, (sx_i32 x1).1, (sx_i32 x1).2⟩, trivial⟩
  · exact pr_of (N := rc_N) (C := kr_83) krh_83 (T := rc_TB) (fun r => Or.inr r) (by decide +kernel) q hI.2 ⟨⟨66, List.mem_singleton.mpr rfl, rfl⟩, ⟨x0, rfl, (sx_i32 x0).1, (sx_i32 x0).2⟩, ⟨x1, rfl, (sx_i32 x1).1, (sx_i32 x1).2⟩, trivial⟩
theorem pc_drift {h : List ik_E} (hC : cc_CI h) {x0 : Int32} : ik_W none 111 0 (ik_loc (ik_ml 111) [.ref 0, .int x0]) [] h 0 0 (pc_P cc_N 111 (fun _ _ => True) h) := by
  rcases hC with q | q
  · exact pc_of (N := cc_N) (C := ka_104) kah_104 (T := cc_TA) (by decide +kernel) q ⟨⟨0, List.mem_singleton.mpr rfl, rfl⟩, ⟨x0, rfl, (sx_i32 x0).1, (sx_i32 x0).2⟩, trivial⟩
  · exact pc_of (N := cc_N) (C := ka_105) kah_105 (T := cc_TB) (by decide +kernel) q ⟨⟨0, List.mem_singleton.mpr rfl, rfl⟩, ⟨x0, rfl, (sx_i32 x0).1, (sx_i32 x0).2⟩, trivial⟩
theorem pm_drift {h : List ik_E} (hI : rc_RI h) {x0 : Int32} : ik_W none 199 0 (ik_loc (ik_ml 199) [.ref 66, .int x0]) [] h 0 0 (pr_P rc_N 199 (fun _ _ => True) h) := by
  rcases hI.1 with q | q
  · exact pr_of (N := rc_N) (C := kr_84) krh_84 (T := rc_TA) (fun r => Or.inl r) (by decide +kernel) q hI.2 ⟨⟨66, List.mem_singleton.mpr rfl, rfl⟩, ⟨x0, rfl, (sx_i32 x0).1, (sx_i32 x0).2⟩, trivial⟩
  · exact pr_of (N := rc_N) (C := kr_85) krh_85 (T := rc_TB) (fun r => Or.inr r) (by decide +kernel) q hI.2 ⟨⟨66, List.mem_singleton.mpr rfl, rfl⟩, ⟨x0, rfl, (sx_i32 x0).1, (sx_i32 x0).2⟩, trivial⟩
theorem pc_where {h : List ik_E} (hC : cc_CI h) {x0 : Int32} : ik_W none 112 0 (ik_loc (ik_ml 112) [.ref 0, .int x0]) [] h 0 0 (pc_P cc_N 112 (fun _ _ => True) h) := by
  rcases hC with q | q
  · exact pc_of (N := cc_N) (C := ka_106) kah_106 (T := cc_TA) (by decide +kernel) q ⟨⟨0, List.mem_singleton.mpr rfl, rfl⟩, ⟨x0, rfl, (sx_i32 x0).1, (sx_i32 x0).2⟩, trivial⟩
  · exact pc_of (N := cc_N) (C := ka_107) kah_107 (T := cc_TB) (by decide +kernel) q ⟨⟨0, List.mem_singleton.mpr rfl, rfl⟩, ⟨x0, rfl, (sx_i32 x0).1, (sx_i32 x0).2⟩, trivial⟩
theorem pm_where {h : List ik_E} (hI : rc_RI h) {x0 : Int32} : ik_W none 200 0 (ik_loc (ik_ml 200) [.ref 66, .int x0]) [] h 0 0 (pr_P rc_N 200 (fun _ _ => True) h) := by
  rcases hI.1 with q | q
  · exact pr_of (N := rc_N) (C := kr_86) krh_86 (T := rc_TA) (fun r => Or.inl r) (by decide +kernel) q hI.2 ⟨⟨66, List.mem_singleton.mpr rfl, rfl⟩, ⟨x0, rfl, (sx_i32 x0).1, (sx_i32 x0).2⟩, trivial⟩
  · exact pr_of (N := rc_N) (C := kr_87) krh_87 (T := rc_TB) (fun r => Or.inr r) (by decide +kernel) q hI.2 ⟨⟨66, List.mem_singleton.mpr rfl, rfl⟩, ⟨x0, rfl, (sx_i32 x0).1, (sx_i32 x0).2⟩, trivial⟩
theorem pc_begin {h : List ik_E} (hC : cc_CI h)  : ik_W none 113 0 (ik_loc (ik_ml 113) [.ref 0]) [] h 0 0 (pc_P cc_N 113 (fun _ _ => True) h) := by
  rcases hC with q | q
  · exact pc_of (N := cc_N) (C := ka_108) kah_108 (T := cc_TA) (by decide +kernel) q ⟨⟨0, List.mem_singleton.mpr rfl, rfl⟩, trivial⟩
  · exact pc_of (N := cc_N) (C := ka_109) kah_109 (T := cc_TB) (by decide +kernel) q ⟨⟨0, List.mem_singleton.mpr rfl, rfl⟩, trivial⟩
theorem pm_begin {h : List ik_E} (hI : rc_RI h)  : ik_W none 201 0 (ik_loc (ik_ml 201) [.ref 66]) [] h 0 0 (pr_P rc_N 201 (fun _ _ => True) h) := by
  rcases hI.1 with q | q
  · exact pr_of (N := rc_N) (C := kr_88) krh_88 (T := rc_TA) (fun r => Or.inl r) (by decide +kernel) q hI.2 ⟨⟨66, List.mem_singleton.mpr rfl, rfl⟩, trivial⟩
  · exact pr_of (N := rc_N) (C := kr_89) krh_89 (T := rc_TB) (fun r => Or.inr r) (by decide +kernel) q hI.2 ⟨⟨66, List.mem_singleton.mpr rfl, rfl⟩, trivial⟩
theorem pc_morning {h : List ik_E} (hC : cc_CI h) {x0 : Int32} : ik_W none 114 0 (ik_loc (ik_ml 114) [.ref 0, .int x0]) [] h 0 0 (pc_P cc_N 114 (fun _ _ => True) h) := by
  rcases hC with q | q
  · exact pc_of (N := cc_N) (C := ka_110) kah_110 (T := cc_TA) (by decide +kernel) q ⟨⟨0, List.mem_singleton.mpr rfl, rfl⟩, ⟨x0, rfl, (sx_i32 x0).1, (sx_i32 x0).2⟩, trivial⟩
  · exact pc_of (N := cc_N) (C := ka_111) kah_111 (T := cc_TB) (by decide +kernel) q ⟨⟨0, List.mem_singleton.mpr rfl, rfl⟩, ⟨x0, rfl, (sx_i32 x0).1, (sx_i32 x0).2⟩, trivial⟩
theorem pm_morning {h : List ik_E} (hI : rc_RI h) {x0 : Int32} : ik_W none 202 0 (ik_loc (ik_ml 202) [.ref 66, .int x0]) [] h 0 0 (pr_P rc_N 202 (fun _ _ => True) h) := by
  rcases hI.1 with q | q
  · exact pr_of (N := rc_N) (C := kr_90) krh_90 (T := rc_TA) (fun r => Or.inl r) (by decide +kernel) q hI.2 ⟨⟨66, List.mem_singleton.mpr rfl, rfl⟩, ⟨x0, rfl, (sx_i32 x0).1, (sx_i32 x0).2⟩, trivial⟩
  · exact pr_of (N := rc_N) (C := kr_91) krh_91 (T := rc_TB) (fun r => Or.inr r) (by decide +kernel) q hI.2 ⟨⟨66, List.mem_singleton.mpr rfl, rfl⟩, ⟨x0, rfl, (sx_i32 x0).1, (sx_i32 x0).2⟩, trivial⟩
theorem pc_log {h : List ik_E} (hC : cc_CI h) {x0 : Int32} {x1 : Int32} : ik_W none 115 0 (ik_loc (ik_ml 115) [.ref 0, .int x0, .int x1]) [] h 0 0 (pc_P cc_Nl 115 (fun _ _ => True) h) := by
  rcases hC with q | q
  · exact pc_of (N := cc_Nl) (C := ka_112) kah_112 (T := cc_TA) (by decide +kernel) q ⟨⟨0, List.mem_singleton.mpr rfl, rfl⟩, ⟨x0, rfl, (sx_i32 x0).1, (sx_i32 x0).2⟩, ⟨x1, rfl, (sx_i32 x1).1, (sx_i32 x1).2⟩, trivial⟩
  · exact pc_of (N := cc_Nl) (C := ka_113) kah_113 (T := cc_TB) (by decide +kernel) q ⟨⟨0, List.mem_singleton.mpr rfl, rfl⟩, ⟨x0, rfl, (sx_i32 x0).1, (sx_i32 x0).2⟩, ⟨x1, rfl, (sx_i32 x1).1, (sx_i32 x1).2⟩, trivial⟩
theorem pm_log {h : List ik_E} (hI : rc_RI h) {x0 : Int32} {x1 : Int32} : ik_W none 203 0 (ik_loc (ik_ml 203) [.ref 66, .int x0, .int x1]) [] h 0 0 (pr_P rc_Nl 203 (fun _ _ => True) h) := by
  rcases hI.1 with q | q
  · exact pr_of (N := rc_Nl) (C := kr_92) krh_92 (T := rc_TA) (fun r => Or.inl r) (by decide +kernel) q hI.2 ⟨⟨66, List.mem_singleton.mpr rfl, rfl⟩, ⟨x0, rfl, (sx_i32 x0).1, (sx_i32 x0).2⟩, ⟨x1, rfl, (sx_i32 x1).1, (sx_i32 x1).2⟩, trivial⟩
  · exact pr_of (N := rc_Nl) (C := kr_93) krh_93 (T := rc_TB) (fun r => Or.inr r) (by decide +kernel) q hI.2 ⟨⟨66, List.mem_singleton.mpr rfl, rfl⟩, ⟨x0, rfl, (sx_i32 x0).1, (sx_i32 x0).2⟩, ⟨x1, rfl, (sx_i32 x1).1, (sx_i32 x1).2⟩, trivial⟩
theorem pc_clear {h : List ik_E} (hC : cc_CI h)  : ik_W none 116 0 (ik_loc (ik_ml 116) [.ref 0]) [] h 0 0 (pc_P cc_Nl 116 (fun _ _ => True) h) := by
  rcases hC with q | q
  · exact pc_of (N := cc_Nl) (C := ka_114) kah_114 (T := cc_TA) (by decide +kernel) q ⟨⟨0, List.mem_singleton.mpr rfl, rfl⟩, trivial⟩
  · exact pc_of (N := cc_Nl) (C := ka_115) kah_115 (T := cc_TB) (by decide +kernel) q ⟨⟨0, List.mem_singleton.mpr rfl, rfl⟩, trivial⟩
theorem pm_clear {h : List ik_E} (hI : rc_RI h)  : ik_W none 204 0 (ik_loc (ik_ml 204) [.ref 66]) [] h 0 0 (pr_P rc_Nl 204 (fun _ _ => True) h) := by
  rcases hI.1 with q | q
  · exact pr_of (N := rc_Nl) (C := kr_94) krh_94 (T := rc_TA) (fun r => Or.inl r) (by decide +kernel) q hI.2 ⟨⟨66, List.mem_singleton.mpr rfl, rfl⟩, trivial⟩
  · exact pr_of (N := rc_Nl) (C := kr_95) krh_95 (T := rc_TB) (fun r => Or.inr r) (by decide +kernel) q hI.2 ⟨⟨66, List.mem_singleton.mpr rfl, rfl⟩, trivial⟩
theorem pc_judge {h : List ik_E} (hC : cc_CI h) {x0 : Int32} : ik_W none 117 0 (ik_loc (ik_ml 117) [.ref 0, .int x0]) [] h 0 0 (pc_P cc_N 117 (fun _ _ => True) h) := by
  rcases hC with q | q
  · exact pc_of (N := cc_N) (C := ka_116) kah_116 (T := cc_TA) (by decide +kernel) q ⟨⟨0, List.mem_singleton.mpr rfl, rfl⟩, ⟨x0, rfl, (sx_i32 x0).1, (sx_i32 x0).2⟩, trivial⟩
  · exact pc_of (N := cc_N) (C := ka_117) kah_117 (T := cc_TB) (by decide +kernel) q ⟨⟨0, List.mem_singleton.mpr rfl, rfl⟩, ⟨x0, rfl, (sx_i32 x0).1, (sx_i32 x0).2⟩, trivial⟩
theorem pm_judge {h : List ik_E} (hI : rc_RI h) {x0 : Int32} : ik_W none 207 0 (ik_loc (ik_ml 207) [.ref 66, .int x0]) [] h 0 0 (pr_P rc_N 207 (fun _ _ => True) h) := by
  rcases hI.1 with q | q
  · exact pr_of (N := rc_N) (C := kr_96) krh_96 (T := rc_TA) (fun r => Or.inl r) (by decide +kernel) q hI.2 ⟨⟨66, List.mem_singleton.mpr rfl, rfl⟩, ⟨x0, rfl, (sx_i32 x0).1, (sx_i32 x0).2⟩, trivial⟩
  · exact pr_of (N := rc_N) (C := kr_97) krh_97 (T := rc_TB) (fun r => Or.inr r) (by decide +kernel) q hI.2 ⟨⟨66, List.mem_singleton.mpr rfl, rfl⟩, ⟨x0, rfl, (sx_i32 x0).1, (sx_i32 x0).2⟩, trivial⟩
theorem pc_seed {h : List ik_E} (hC : cc_CI h) {x0 : Int32} : ik_W none 118 0 (ik_loc (ik_ml 118) [.ref 0, .int x0]) [] h 0 0 (pc_P cc_N 118 (fun _ _ => True) h) := by
  rcases hC with q | q
  · exact pc_of (N := cc_N) (C := ka_118) kah_118 (T := cc_TA) (by decide +kernel) q ⟨⟨0, List.mem_singleton.mpr rfl, rfl⟩, ⟨x0, rfl, (sx_i32 x0).1, (sx_i32 x0).2⟩, trivial⟩
  · exact pc_of (N := cc_N) (C := ka_119) kah_119 (T := cc_TB) (by decide +kernel) q ⟨⟨0, List.mem_singleton.mpr rfl, rfl⟩, ⟨x0, rfl, (sx_i32 x0).1, (sx_i32 x0).2⟩, trivial⟩
theorem pm_seed {h : List ik_E} (hI : rc_RI h) {x0 : Int32} : ik_W none 208 0 (ik_loc (ik_ml 208) [.ref 66, .int x0]) [] h 0 0 (pr_P rc_N 208 (fun _ _ => True) h) := by
  rcases hI.1 with q | q
  · exact pr_of (N := rc_N) (C := kr_98) krh_98 (T := rc_TA) (fun r => Or.inl r) (by decide +kernel) q hI.2 ⟨⟨66, List.mem_singleton.mpr rfl, rfl⟩, ⟨x0, rfl, (sx_i32 x0).1, (sx_i32 x0).2⟩, trivial⟩
  · exact pr_of (N := rc_N) (C := kr_99) krh_99 (T := rc_TB) (fun r => Or.inr r) (by decide +kernel) q hI.2 ⟨⟨66, List.mem_singleton.mpr rfl, rfl⟩, ⟨x0, rfl, (sx_i32 x0).1, (sx_i32 x0).2⟩, trivial⟩
theorem pc_goBack {h : List ik_E} (hC : cc_CI h) {x0 : Int32} : ik_W none 120 0 (ik_loc (ik_ml 120) [.ref 0, .int x0]) [] h 0 0 (pc_P cc_N 120 (fun _ _ => True) h) := by
  rcases hC with q | q
  · exact pc_of (N := cc_N) (C := ka_122) kah_122 (T := cc_TA) (by decide +kernel) q ⟨⟨0, List.mem_singleton.mpr rfl, rfl⟩, ⟨x0, rfl, (sx_i32 x0).1, (sx_i32 x0).2⟩, trivial⟩
  · exact pc_of (N := cc_N) (C := ka_123) kah_123 (T := cc_TB) (by decide +kernel) q ⟨⟨0, List.mem_singleton.mpr rfl, rfl⟩, ⟨x0, rfl, (sx_i32 x0).1, (sx_i32 x0).2⟩, trivial⟩
theorem pm_goBack {h : List ik_E} (hI : rc_RI h) {x0 : Int32} : ik_W none 210 0 (ik_loc (ik_ml 210) [.ref 66, .int x0]) [] h 0 0 (pr_P rc_N 210 (fun _ _ => True) h) := pr_goBack hI ⟨⟨66, List.mem_singleton.mpr rfl, rfl⟩, ⟨x0, rfl, (sx_i32 x0).1, (sx_i32 x0).2⟩, trivial⟩
end
