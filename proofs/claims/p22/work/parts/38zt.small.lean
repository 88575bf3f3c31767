/-! 38zt.small -/
noncomputable section
/-! the smaller calls of both (written by wip/fx/u20.py) -/
theorem cp_fault {h : List ik_E} {tn : Int} {cu : Int} {fl : Int} {fp : Int} {rpl : Int}  (h0 : cE h 0 (.inr (9, [.ref 1, .ref 7, .ref 14, .ref 17, .ref 45, .ref 51, .ref 54, .ref 57]))) (h1 : cE h 1 (.inr (6, [.ref 2, fI tn, fI cu, fI fl, fI fp, fI rpl, .ref 3, .ref 4, .ref 5, .ref 6]))) (hl : h.length = 94) : ik_F 92 [.ref 0] h (fun rv h_q => rv = [fI fp] ∧ hfr [] h h_q) := by
  refine ik_Wk 1 (pc_q := 1) (loc_q := [some (.ref 0)]) (st_q := [.ref 0]) (h_q := h) (cl_q := 0) (sl_q := 0) rfl ?_
  refine fw_gf rfl rfl h0 rfl ?_
  refine fw_gf rfl rfl h1 rfl ?_
  exact ik_Wret rfl rfl ⟨_, _, rfl, rfl, rfl, rfl, ⟨rfl, (hfr_refl [] h)⟩⟩

theorem rp_fault {h : List ik_E} {f : Nat → Int}  (h66 : cE h 66 (.inr (10, (fI (f 0) :: .ref 67 :: .ref 68 :: .ref 69 :: fI (f 4) :: .ref 70 :: .ref 71 :: fI (f 7) :: fI (f 8) :: .ref 72 :: fI (f 10) :: fI (f 11) :: fI (f 12) :: fJ (f 13) :: fI (f 14) :: fI (f 15) :: fI (f 16) :: fI (f 17) :: .ref 73 :: .ref 74 :: .ref 75 :: .ref 76 :: .ref 77 :: .ref 78 :: fI (f 24) :: .ref 79 :: .ref 80 :: .ref 81 :: .ref 82 :: .ref 83 :: .ref 84 :: .ref 85 :: fJ (f 32) :: fJ (f 33) :: .ref 86 :: .ref 87 :: fI (f 36) :: .ref 88 :: .ref 89 :: .ref 90 :: .ref 91 :: .ref 92 :: .ref 93 :: [])))) (hl : h.length = 94) : ik_F 148 [.ref 66] h (fun rv h_q => rv = [fI (f 11)] ∧ hfr [] h h_q) := by
  refine ik_Wk 1 (pc_q := 1) (loc_q := [some (.ref 66)]) (st_q := [.ref 66]) (h_q := h) (cl_q := 0) (sl_q := 0) rfl ?_
  refine fw_gf rfl rfl h66 rfl ?_
  exact ik_Wret rfl rfl ⟨_, _, rfl, rfl, rfl, rfl, ⟨rfl, (hfr_refl [] h)⟩⟩

theorem cp_told0 {h : List ik_E} {pl : Int} {st : Int} {lo : Int}  (h0 : cE h 0 (.inr (9, [.ref 1, .ref 7, .ref 14, .ref 17, .ref 45, .ref 51, .ref 54, .ref 57]))) (h7 : cE h 7 (.inr (0, [fI pl, fI st, fI lo, .ref 8, .ref 9, .ref 10, .ref 11, .ref 12, .ref 13]))) (hl : h.length = 94) : ik_F 93 [.ref 0, fI 0] h (fun rv h_q => rv = [fI pl] ∧ hfr [] h h_q) := by
  refine ik_Wk 1 (pc_q := 1) (loc_q := [some (.ref 0), some (fI 0)]) (st_q := [fI 0]) (h_q := h) (cl_q := 0) (sl_q := 0) rfl ?_
  refine ik_Wsi 115 0 7 #[47, 55, 63, 71, 81, 91, 99, 107] 47 48 rfl (by decide +kernel) rfl rfl ?_
  refine ik_Wk 1 (pc_q := 49) (loc_q := [some (.ref 0), some (fI 0)]) (st_q := [.ref 0]) (h_q := h) (cl_q := 0) (sl_q := 0) rfl ?_
  refine fw_gf rfl rfl h0 rfl ?_
  refine fw_gf rfl rfl h7 rfl ?_
  exact ik_Wret rfl rfl ⟨_, _, rfl, rfl, rfl, rfl, ⟨rfl, (hfr_refl [] h)⟩⟩

theorem rp_told0 {h : List ik_E} {f : Nat → Int}  (h66 : cE h 66 (.inr (10, (fI (f 0) :: .ref 67 :: .ref 68 :: .ref 69 :: fI (f 4) :: .ref 70 :: .ref 71 :: fI (f 7) :: fI (f 8) :: .ref 72 :: fI (f 10) :: fI (f 11) :: fI (f 12) :: fJ (f 13) :: fI (f 14) :: fI (f 15) :: fI (f 16) :: fI (f 17) :: .ref 73 :: .ref 74 :: .ref 75 :: .ref 76 :: .ref 77 :: .ref 78 :: fI (f 24) :: .ref 79 :: .ref 80 :: .ref 81 :: .ref 82 :: .ref 83 :: .ref 84 :: .ref 85 :: fJ (f 32) :: fJ (f 33) :: .ref 86 :: .ref 87 :: fI (f 36) :: .ref 88 :: .ref 89 :: .ref 90 :: .ref 91 :: .ref 92 :: .ref 93 :: [])))) (hl : h.length = 94) : ik_F 150 [.ref 66, fI 0] h (fun rv h_q => rv = [fI (f 0)] ∧ hfr [] h h_q) := by
  refine ik_Wk 1 (pc_q := 1) (loc_q := [some (.ref 66), some (fI 0)]) (st_q := [fI 0]) (h_q := h) (cl_q := 0) (sl_q := 0) rfl ?_
  refine ik_Wsi 91 0 7 #[47, 52, 57, 62, 69, 76, 81, 86] 47 48 rfl (by decide +kernel) rfl rfl ?_
  refine ik_Wk 1 (pc_q := 49) (loc_q := [some (.ref 66), some (fI 0)]) (st_q := [.ref 66]) (h_q := h) (cl_q := 0) (sl_q := 0) rfl ?_
  refine fw_gf rfl rfl h66 rfl ?_
  exact ik_Wret rfl rfl ⟨_, _, rfl, rfl, rfl, rfl, ⟨rfl, (hfr_refl [] h)⟩⟩

theorem cp_told1 {h : List ik_E} {r : Int}  (h0 : cE h 0 (.inr (9, [.ref 1, .ref 7, .ref 14, .ref 17, .ref 45, .ref 51, .ref 54, .ref 57]))) (h51 : cE h 51 (.inr (7, [.ref 7, fI r, .ref 52, .ref 53]))) (hl : h.length = 94) : ik_F 93 [.ref 0, fI 1] h (fun rv h_q => rv = [fI r] ∧ hfr [] h h_q) := by
  refine ik_Wk 1 (pc_q := 1) (loc_q := [some (.ref 0), some (fI 1)]) (st_q := [fI 1]) (h_q := h) (cl_q := 0) (sl_q := 0) rfl ?_
  refine ik_Wsi 115 0 7 #[47, 55, 63, 71, 81, 91, 99, 107] 55 56 rfl (by decide +kernel) rfl rfl ?_
  refine ik_Wk 1 (pc_q := 57) (loc_q := [some (.ref 0), some (fI 1)]) (st_q := [.ref 0]) (h_q := h) (cl_q := 0) (sl_q := 0) rfl ?_
  refine fw_gf rfl rfl h0 rfl ?_
  refine fw_gf rfl rfl h51 rfl ?_
  exact ik_Wret rfl rfl ⟨_, _, rfl, rfl, rfl, rfl, ⟨rfl, (hfr_refl [] h)⟩⟩

theorem rp_told1 {h : List ik_E} {f : Nat → Int}  (h66 : cE h 66 (.inr (10, (fI (f 0) :: .ref 67 :: .ref 68 :: .ref 69 :: fI (f 4) :: .ref 70 :: .ref 71 :: fI (f 7) :: fI (f 8) :: .ref 72 :: fI (f 10) :: fI (f 11) :: fI (f 12) :: fJ (f 13) :: fI (f 14) :: fI (f 15) :: fI (f 16) :: fI (f 17) :: .ref 73 :: .ref 74 :: .ref 75 :: .ref 76 :: .ref 77 :: .ref 78 :: fI (f 24) :: .ref 79 :: .ref 80 :: .ref 81 :: .ref 82 :: .ref 83 :: .ref 84 :: .ref 85 :: fJ (f 32) :: fJ (f 33) :: .ref 86 :: .ref 87 :: fI (f 36) :: .ref 88 :: .ref 89 :: .ref 90 :: .ref 91 :: .ref 92 :: .ref 93 :: [])))) (hl : h.length = 94) : ik_F 150 [.ref 66, fI 1] h (fun rv h_q => rv = [fI (f 36)] ∧ hfr [] h h_q) := by
  refine ik_Wk 1 (pc_q := 1) (loc_q := [some (.ref 66), some (fI 1)]) (st_q := [fI 1]) (h_q := h) (cl_q := 0) (sl_q := 0) rfl ?_
  refine ik_Wsi 91 0 7 #[47, 52, 57, 62, 69, 76, 81, 86] 52 53 rfl (by decide +kernel) rfl rfl ?_
  refine ik_Wk 1 (pc_q := 54) (loc_q := [some (.ref 66), some (fI 1)]) (st_q := [.ref 66]) (h_q := h) (cl_q := 0) (sl_q := 0) rfl ?_
  refine fw_gf rfl rfl h66 rfl ?_
  exact ik_Wret rfl rfl ⟨_, _, rfl, rfl, rfl, rfl, ⟨rfl, (hfr_refl [] h)⟩⟩

theorem cp_told2 {h : List ik_E} {tn : Int} {cu : Int} {fl : Int} {fp : Int} {rpl : Int}  (h0 : cE h 0 (.inr (9, [.ref 1, .ref 7, .ref 14, .ref 17, .ref 45, .ref 51, .ref 54, .ref 57]))) (h1 : cE h 1 (.inr (6, [.ref 2, fI tn, fI cu, fI fl, fI fp, fI rpl, .ref 3, .ref 4, .ref 5, .ref 6]))) (hl : h.length = 94) : ik_F 93 [.ref 0, fI 2] h (fun rv h_q => rv = [fI tn] ∧ hfr [] h h_q) := by
  refine ik_Wk 1 (pc_q := 1) (loc_q := [some (.ref 0), some (fI 2)]) (st_q := [fI 2]) (h_q := h) (cl_q := 0) (sl_q := 0) rfl ?_
  refine ik_Wsi 115 0 7 #[47, 55, 63, 71, 81, 91, 99, 107] 63 64 rfl (by decide +kernel) rfl rfl ?_
  refine ik_Wk 1 (pc_q := 65) (loc_q := [some (.ref 0), some (fI 2)]) (st_q := [.ref 0]) (h_q := h) (cl_q := 0) (sl_q := 0) rfl ?_
  refine fw_gf rfl rfl h0 rfl ?_
  refine fw_gf rfl rfl h1 rfl ?_
  exact ik_Wret rfl rfl ⟨_, _, rfl, rfl, rfl, rfl, ⟨rfl, (hfr_refl [] h)⟩⟩

theorem rp_told2 {h : List ik_E} {f : Nat → Int}  (h66 : cE h 66 (.inr (10, (fI (f 0) :: .ref 67 :: .ref 68 :: .ref 69 :: fI (f 4) :: .ref 70 :: .ref 71 :: fI (f 7) :: fI (f 8) :: .ref 72 :: fI (f 10) :: fI (f 11) :: fI (f 12) :: fJ (f 13) :: fI (f 14) :: fI (f 15) :: fI (f 16) :: fI (f 17) :: .ref 73 :: .ref 74 :: .ref 75 :: .ref 76 :: .ref 77 :: .ref 78 :: fI (f 24) :: .ref 79 :: .ref 80 :: .ref 81 :: .ref 82 :: .ref 83 :: .ref 84 :: .ref 85 :: fJ (f 32) :: fJ (f 33) :: .ref 86 :: .ref 87 :: fI (f 36) :: .ref 88 :: .ref 89 :: .ref 90 :: .ref 91 :: .ref 92 :: .ref 93 :: [])))) (hl : h.length = 94) : ik_F 150 [.ref 66, fI 2] h (fun rv h_q => rv = [fI (f 10)] ∧ hfr [] h h_q) := by
  refine ik_Wk 1 (pc_q := 1) (loc_q := [some (.ref 66), some (fI 2)]) (st_q := [fI 2]) (h_q := h) (cl_q := 0) (sl_q := 0) rfl ?_
  refine ik_Wsi 91 0 7 #[47, 52, 57, 62, 69, 76, 81, 86] 57 58 rfl (by decide +kernel) rfl rfl ?_
  refine ik_Wk 1 (pc_q := 59) (loc_q := [some (.ref 66), some (fI 2)]) (st_q := [.ref 66]) (h_q := h) (cl_q := 0) (sl_q := 0) rfl ?_
  refine fw_gf rfl rfl h66 rfl ?_
  exact ik_Wret rfl rfl ⟨_, _, rfl, rfl, rfl, rfl, ⟨rfl, (hfr_refl [] h)⟩⟩

theorem cp_told3 {h : List ik_E} {n0 : Int} {n1 : Int}  (h0 : cE h 0 (.inr (9, [.ref 1, .ref 7, .ref 14, .ref 17, .ref 45, .ref 51, .ref 54, .ref 57]))) (h54 : cE h 54 (.inr (4, [.ref 55, .ref 56]))) (h56 : cE h 56 (.inl (.int, fA [n0, n1]))) (hl : h.length = 94) : ik_F 93 [.ref 0, fI 3] h (fun rv h_q => rv = [fI n0] ∧ hfr [] h h_q) := by
  refine ik_Wk 1 (pc_q := 1) (loc_q := [some (.ref 0), some (fI 3)]) (st_q := [fI 3]) (h_q := h) (cl_q := 0) (sl_q := 0) rfl ?_
  refine ik_Wsi 115 0 7 #[47, 55, 63, 71, 81, 91, 99, 107] 71 72 rfl (by decide +kernel) rfl rfl ?_
  refine ik_Wk 1 (pc_q := 73) (loc_q := [some (.ref 0), some (fI 3)]) (st_q := [.ref 0]) (h_q := h) (cl_q := 0) (sl_q := 0) rfl ?_
  refine fw_gf rfl rfl h0 rfl ?_
  refine fw_gf rfl rfl h54 rfl ?_
  refine ik_Wk 1 (pc_q := 80) (loc_q := [some (.ref 0), some (fI 3)]) (st_q := [fI 0, .ref 56]) (h_q := h) (cl_q := 0) (sl_q := 0) rfl ?_
  refine fw_ial (z := 0) rfl h56 (by decide +kernel) (Nat.le_of_ble_eq_true rfl) (by decide +kernel) ?_
  refine ik_Wk 0 (pc_q := 81) (loc_q := [some (.ref 0), some (fI 3)]) (st_q := [fI n0]) (h_q := h) (cl_q := 0) (sl_q := 0) rfl ?_
  exact ik_Wret rfl rfl ⟨_, _, rfl, rfl, rfl, rfl, ⟨rfl, (hfr_refl [] h)⟩⟩

theorem rp_told3 {h : List ik_E} {f : Nat → Int} {n0 : Int} {n1 : Int}  (h66 : cE h 66 (.inr (10, (fI (f 0) :: .ref 67 :: .ref 68 :: .ref 69 :: fI (f 4) :: .ref 70 :: .ref 71 :: fI (f 7) :: fI (f 8) :: .ref 72 :: fI (f 10) :: fI (f 11) :: fI (f 12) :: fJ (f 13) :: fI (f 14) :: fI (f 15) :: fI (f 16) :: fI (f 17) :: .ref 73 :: .ref 74 :: .ref 75 :: .ref 76 :: .ref 77 :: .ref 78 :: fI (f 24) :: .ref 79 :: .ref 80 :: .ref 81 :: .ref 82 :: .ref 83 :: .ref 84 :: .ref 85 :: fJ (f 32) :: fJ (f 33) :: .ref 86 :: .ref 87 :: fI (f 36) :: .ref 88 :: .ref 89 :: .ref 90 :: .ref 91 :: .ref 92 :: .ref 93 :: [])))) (h90 : cE h 90 (.inl (.int, fA [n0, n1]))) (hl : h.length = 94) : ik_F 150 [.ref 66, fI 3] h (fun rv h_q => rv = [fI n0] ∧ hfr [] h h_q) := by
  refine ik_Wk 1 (pc_q := 1) (loc_q := [some (.ref 66), some (fI 3)]) (st_q := [fI 3]) (h_q := h) (cl_q := 0) (sl_q := 0) rfl ?_
  refine ik_Wsi 91 0 7 #[47, 52, 57, 62, 69, 76, 81, 86] 62 63 rfl (by decide +kernel) rfl rfl ?_
  refine ik_Wk 1 (pc_q := 64) (loc_q := [some (.ref 66), some (fI 3)]) (st_q := [.ref 66]) (h_q := h) (cl_q := 0) (sl_q := 0) rfl ?_
  refine fw_gf rfl rfl h66 rfl ?_
  refine ik_Wk 1 (pc_q := 68) (loc_q := [some (.ref 66), some (fI 3)]) (st_q := [fI 0, .ref 90]) (h_q := h) (cl_q := 0) (sl_q := 0) rfl ?_
  refine fw_ial (z := 0) rfl h90 (by decide +kernel) (Nat.le_of_ble_eq_true rfl) (by decide +kernel) ?_
  refine ik_Wk 0 (pc_q := 69) (loc_q := [some (.ref 66), some (fI 3)]) (st_q := [fI n0]) (h_q := h) (cl_q := 0) (sl_q := 0) rfl ?_
  exact ik_Wret rfl rfl ⟨_, _, rfl, rfl, rfl, rfl, ⟨rfl, (hfr_refl [] h)⟩⟩

theorem cp_told4 {h : List ik_E} {n0 : Int} {n1 : Int}  (h0 : cE h 0 (.inr (9, [.ref 1, .ref 7, .ref 14, .ref 17, .ref 45, .ref 51, .ref 54, .ref 57]))) (h54 : cE h 54 (.inr (4, [.ref 55, .ref 56]))) (h56 : cE h 56 (.inl (.int, fA [n0, n1]))) (hl : h.length = 94) : ik_F 93 [.ref 0, fI 4] h (fun rv h_q => rv = [fI n1] ∧ hfr [] h h_q) := by
  refine ik_Wk 1 (pc_q := 1) (loc_q := [some (.ref 0), some (fI 4)]) (st_q := [fI 4]) (h_q := h) (cl_q := 0) (sl_q := 0) rfl ?_
  refine ik_Wsi 115 0 7 #[47, 55, 63, 71, 81, 91, 99, 107] 81 82 rfl (by decide +kernel) rfl rfl ?_
  refine ik_Wk 1 (pc_q := 83) (loc_q := [some (.ref 0), some (fI 4)]) (st_q := [.ref 0]) (h_q := h) (cl_q := 0) (sl_q := 0) rfl ?_
  refine fw_gf rfl rfl h0 rfl ?_
  refine fw_gf rfl rfl h54 rfl ?_
  refine ik_Wk 1 (pc_q := 90) (loc_q := [some (.ref 0), some (fI 4)]) (st_q := [fI 1, .ref 56]) (h_q := h) (cl_q := 0) (sl_q := 0) rfl ?_
  refine fw_ial (z := 1) rfl h56 (by decide +kernel) (Nat.le_of_ble_eq_true rfl) (by decide +kernel) ?_
  refine ik_Wk 0 (pc_q := 91) (loc_q := [some (.ref 0), some (fI 4)]) (st_q := [fI n1]) (h_q := h) (cl_q := 0) (sl_q := 0) rfl ?_
  exact ik_Wret rfl rfl ⟨_, _, rfl, rfl, rfl, rfl, ⟨rfl, (hfr_refl [] h)⟩⟩

theorem rp_told4 {h : List ik_E} {f : Nat → Int} {n0 : Int} {n1 : Int}  (h66 : cE h 66 (.inr (10, (fI (f 0) :: .ref 67 :: .ref 68 :: .ref 69 :: fI (f 4) :: .ref 70 :: .ref 71 :: fI (f 7) :: fI (f 8) :: .ref 72 :: fI (f 10) :: fI (f 11) :: fI (f 12) :: fJ (f 13) :: fI (f 14) :: fI (f 15) :: fI (f 16) :: fI (f 17) :: .ref 73 :: .ref 74 :: .ref 75 :: .ref 76 :: .ref 77 :: .ref 78 :: fI (f 24) :: .ref 79 :: .ref 80 :: .ref 81 :: .ref 82 :: .ref 83 :: .ref 84 :: .ref 85 :: fJ (f 32) :: fJ (f 33) :: .ref 86 :: .ref 87 :: fI (f 36) :: .ref 88 :: .ref 89 :: .ref 90 :: .ref 91 :: .ref 92 :: .ref 93 :: [])))) (h90 : cE h 90 (.inl (.int, fA [n0, n1]))) (hl : h.length = 94) : ik_F 150 [.ref 66, fI 4] h (fun rv h_q => rv = [fI n1] ∧ hfr [] h h_q) := by
  refine ik_Wk 1 (pc_q := 1) (loc_q := [some (.ref 66), some (fI 4)]) (st_q := [fI 4]) (h_q := h) (cl_q := 0) (sl_q := 0) rfl ?_
  refine ik_Wsi 91 0 7 #[47, 52, 57, 62, 69, 76, 81, 86] 69 70 rfl (by decide +kernel) rfl rfl ?_
  refine ik_Wk 1 (pc_q := 71) (loc_q := [some (.ref 66), some (fI 4)]) (st_q := [.ref 66]) (h_q := h) (cl_q := 0) (sl_q := 0) rfl ?_
  refine fw_gf rfl rfl h66 rfl ?_
  refine ik_Wk 1 (pc_q := 75) (loc_q := [some (.ref 66), some (fI 4)]) (st_q := [fI 1, .ref 90]) (h_q := h) (cl_q := 0) (sl_q := 0) rfl ?_
  refine fw_ial (z := 1) rfl h90 (by decide +kernel) (Nat.le_of_ble_eq_true rfl) (by decide +kernel) ?_
  refine ik_Wk 0 (pc_q := 76) (loc_q := [some (.ref 66), some (fI 4)]) (st_q := [fI n1]) (h_q := h) (cl_q := 0) (sl_q := 0) rfl ?_
  exact ik_Wret rfl rfl ⟨_, _, rfl, rfl, rfl, rfl, ⟨rfl, (hfr_refl [] h)⟩⟩

theorem cp_told5 {h : List ik_E} {mi : Int} {dr : Int}  (h0 : cE h 0 (.inr (9, [.ref 1, .ref 7, .ref 14, .ref 17, .ref 45, .ref 51, .ref 54, .ref 57]))) (h14 : cE h 14 (.inr (1, [.ref 7, .ref 15, .ref 16, fI mi, fJ dr]))) (hl : h.length = 94) : ik_F 93 [.ref 0, fI 5] h (fun rv h_q => rv = [fI mi] ∧ hfr [] h h_q) := by
  refine ik_Wk 1 (pc_q := 1) (loc_q := [some (.ref 0), some (fI 5)]) (st_q := [fI 5]) (h_q := h) (cl_q := 0) (sl_q := 0) rfl ?_
  refine ik_Wsi 115 0 7 #[47, 55, 63, 71, 81, 91, 99, 107] 91 92 rfl (by decide +kernel) rfl rfl ?_
  refine ik_Wk 1 (pc_q := 93) (loc_q := [some (.ref 0), some (fI 5)]) (st_q := [.ref 0]) (h_q := h) (cl_q := 0) (sl_q := 0) rfl ?_
  refine fw_gf rfl rfl h0 rfl ?_
  refine fw_gf rfl rfl h14 rfl ?_
  exact ik_Wret rfl rfl ⟨_, _, rfl, rfl, rfl, rfl, ⟨rfl, (hfr_refl [] h)⟩⟩

theorem rp_told5 {h : List ik_E} {f : Nat → Int}  (h66 : cE h 66 (.inr (10, (fI (f 0) :: .ref 67 :: .ref 68 :: .ref 69 :: fI (f 4) :: .ref 70 :: .ref 71 :: fI (f 7) :: fI (f 8) :: .ref 72 :: fI (f 10) :: fI (f 11) :: fI (f 12) :: fJ (f 13) :: fI (f 14) :: fI (f 15) :: fI (f 16) :: fI (f 17) :: .ref 73 :: .ref 74 :: .ref 75 :: .ref 76 :: .ref 77 :: .ref 78 :: fI (f 24) :: .ref 79 :: .ref 80 :: .ref 81 :: .ref 82 :: .ref 83 :: .ref 84 :: .ref 85 :: fJ (f 32) :: fJ (f 33) :: .ref 86 :: .ref 87 :: fI (f 36) :: .ref 88 :: .ref 89 :: .ref 90 :: .ref 91 :: .ref 92 :: .ref 93 :: [])))) (hl : h.length = 94) : ik_F 150 [.ref 66, fI 5] h (fun rv h_q => rv = [fI (f 7)] ∧ hfr [] h h_q) := by
  refine ik_Wk 1 (pc_q := 1) (loc_q := [some (.ref 66), some (fI 5)]) (st_q := [fI 5]) (h_q := h) (cl_q := 0) (sl_q := 0) rfl ?_
  refine ik_Wsi 91 0 7 #[47, 52, 57, 62, 69, 76, 81, 86] 76 77 rfl (by decide +kernel) rfl rfl ?_
  refine ik_Wk 1 (pc_q := 78) (loc_q := [some (.ref 66), some (fI 5)]) (st_q := [.ref 66]) (h_q := h) (cl_q := 0) (sl_q := 0) rfl ?_
  refine fw_gf rfl rfl h66 rfl ?_
  exact ik_Wret rfl rfl ⟨_, _, rfl, rfl, rfl, rfl, ⟨rfl, (hfr_refl [] h)⟩⟩

theorem cp_told6 {h : List ik_E} {pl : Int} {st : Int} {lo : Int}  (h0 : cE h 0 (.inr (9, [.ref 1, .ref 7, .ref 14, .ref 17, .ref 45, .ref 51, .ref 54, .ref 57]))) (h7 : cE h 7 (.inr (0, [fI pl, fI st, fI lo, .ref 8, .ref 9, .ref 10, .ref 11, .ref 12, .ref 13]))) (hl : h.length = 94) : ik_F 93 [.ref 0, fI 6] h (fun rv h_q => rv = [fI lo] ∧ hfr [] h h_q) := by
  refine ik_Wk 1 (pc_q := 1) (loc_q := [some (.ref 0), some (fI 6)]) (st_q := [fI 6]) (h_q := h) (cl_q := 0) (sl_q := 0) rfl ?_
  refine ik_Wsi 115 0 7 #[47, 55, 63, 71, 81, 91, 99, 107] 99 100 rfl (by decide +kernel) rfl rfl ?_
  refine ik_Wk 1 (pc_q := 101) (loc_q := [some (.ref 0), some (fI 6)]) (st_q := [.ref 0]) (h_q := h) (cl_q := 0) (sl_q := 0) rfl ?_
  refine fw_gf rfl rfl h0 rfl ?_
  refine fw_gf rfl rfl h7 rfl ?_
  exact ik_Wret rfl rfl ⟨_, _, rfl, rfl, rfl, rfl, ⟨rfl, (hfr_refl [] h)⟩⟩

theorem rp_told6 {h : List ik_E} {pl : Int} {f : Nat → Int} {cn : List Int} {go : List Int} (q0 : 0 ≤ pl ∧ pl ≤ 12) (q1 : ∀ x : Int, (0 : Int) ≤ x → x < pl - 1 → (0 ≤ cn.getD x.toNat 0 ∧ cn.getD x.toNat 0 ≤ 4) ∧ ∀ i : Int, (0 : Int) ≤ i → i < cn.getD x.toNat 0 → 0 ≤ go.getD (4 * x + i).toNat 0 ∧ go.getD (4 * x + i).toNat 0 < pl) (h66 : cE h 66 (.inr (10, (fI pl :: .ref 67 :: .ref 68 :: .ref 69 :: fI (f 4) :: .ref 70 :: .ref 71 :: fI (f 7) :: fI (f 8) :: .ref 72 :: fI (f 10) :: fI (f 11) :: fI (f 12) :: fJ (f 13) :: fI (f 14) :: fI (f 15) :: fI (f 16) :: fI (f 17) :: .ref 73 :: .ref 74 :: .ref 75 :: .ref 76 :: .ref 77 :: .ref 78 :: fI (f 24) :: .ref 79 :: .ref 80 :: .ref 81 :: .ref 82 :: .ref 83 :: .ref 84 :: .ref 85 :: fJ (f 32) :: fJ (f 33) :: .ref 86 :: .ref 87 :: fI (f 36) :: .ref 88 :: .ref 89 :: .ref 90 :: .ref 91 :: .ref 92 :: .ref 93 :: [])))) (h67 : cE h 67 (.inl (.int, fA cn))) (n67 : cn.length = (12 : Nat)) (h68 : cE h 68 (.inl (.int, fA go))) (n68 : go.length = (48 : Nat)) (hl : h.length = (94 : Nat)) : ik_F 150 [.ref 66, fI 6] h (fun rv h_q => rv = [fI ((mj_lost pl cn go : Nat) : Int)] ∧ hfr [] h h_q) := by
  refine ik_Wk 1 (pc_q := 1) (loc_q := [some (.ref 66), some (fI 6)]) (st_q := [fI 6]) (h_q := h) (cl_q := 0) (sl_q := 0) rfl ?_
  refine ik_Wsi 91 0 7 #[47, 52, 57, 62, 69, 76, 81, 86] 81 82 rfl (by decide +kernel) rfl rfl ?_
  refine ik_Wk 1 (pc_q := 83) (loc_q := [some (.ref 66), some (fI 6)]) (st_q := [.ref 66]) (h_q := h) (cl_q := 0) (sl_q := 0) rfl ?_
  refine fw_call 149 1 0 [.ref 66] [] rfl rfl rfl (Nat.le_of_ble_eq_true rfl) rfl rfl (fw_rec hl rfl h66 rfl (Nat.le_of_ble_eq_true rfl)) (cr_lost (pl := pl) (f := fun j => ((0 :: 0 :: 0 :: 0 :: f 4 :: 0 :: 0 :: f 7 :: f 8 :: 0 :: f 10 :: f 11 :: f 12 :: f 13 :: f 14 :: f 15 :: f 16 :: f 17 :: 0 :: 0 :: 0 :: 0 :: 0 :: 0 :: f 24 :: 0 :: 0 :: 0 :: 0 :: 0 :: 0 :: 0 :: f 32 :: f 33 :: 0 :: 0 :: f 36 :: 0 :: 0 :: 0 :: 0 :: 0 :: 0 :: []) : List Int).getD j 0) (cn := cn) (go := go) (by omega) q1 h66 h67 n67 h68 n68 hl) ?_
  rintro _ h_390 ⟨rfl, F_390⟩
  have k_390 : cL h_390 := F_390.1.trans hl
  have fr_390 := hfr_cb (hfr_refl [] h) F_390 rfl
  have g_390_66 := (hfr_g F_390 66 rfl).trans h66
  have g_390_67 := (hfr_g F_390 67 rfl).trans h67
  have g_390_68 := (hfr_g F_390 68 rfl).trans h68
  refine ik_Wk 0 (pc_q := 86) (loc_q := [some (.ref 66), some (fI 6)]) (st_q := [fI ((mj_lost pl cn go : Nat) : Int)]) (h_q := h_390) (cl_q := 0) (sl_q := 0) rfl ?_
  exact ik_Wret rfl rfl ⟨_, _, rfl, rfl, rfl, rfl, ⟨rfl, fr_390⟩⟩

theorem cp_told7 {h : List ik_E} {pl : Int} {st : Int} {lo : Int}  (h0 : cE h 0 (.inr (9, [.ref 1, .ref 7, .ref 14, .ref 17, .ref 45, .ref 51, .ref 54, .ref 57]))) (h7 : cE h 7 (.inr (0, [fI pl, fI st, fI lo, .ref 8, .ref 9, .ref 10, .ref 11, .ref 12, .ref 13]))) (hl : h.length = 94) : ik_F 93 [.ref 0, fI 7] h (fun rv h_q => rv = [fI st] ∧ hfr [] h h_q) := by
  refine ik_Wk 1 (pc_q := 1) (loc_q := [some (.ref 0), some (fI 7)]) (st_q := [fI 7]) (h_q := h) (cl_q := 0) (sl_q := 0) rfl ?_
  refine ik_Wsi 115 0 7 #[47, 55, 63, 71, 81, 91, 99, 107] 107 108 rfl (by decide +kernel) rfl rfl ?_
  refine ik_Wk 1 (pc_q := 109) (loc_q := [some (.ref 0), some (fI 7)]) (st_q := [.ref 0]) (h_q := h) (cl_q := 0) (sl_q := 0) rfl ?_
  refine fw_gf rfl rfl h0 rfl ?_
  refine fw_gf rfl rfl h7 rfl ?_
  exact ik_Wret rfl rfl ⟨_, _, rfl, rfl, rfl, rfl, ⟨rfl, (hfr_refl [] h)⟩⟩

theorem rp_told7 {h : List ik_E} {f : Nat → Int}  (h66 : cE h 66 (.inr (10, (fI (f 0) :: .ref 67 :: .ref 68 :: .ref 69 :: fI (f 4) :: .ref 70 :: .ref 71 :: fI (f 7) :: fI (f 8) :: .ref 72 :: fI (f 10) :: fI (f 11) :: fI (f 12) :: fJ (f 13) :: fI (f 14) :: fI (f 15) :: fI (f 16) :: fI (f 17) :: .ref 73 :: .ref 74 :: .ref 75 :: .ref 76 :: .ref 77 :: .ref 78 :: fI (f 24) :: .ref 79 :: .ref 80 :: .ref 81 :: .ref 82 :: .ref 83 :: .ref 84 :: .ref 85 :: fJ (f 32) :: fJ (f 33) :: .ref 86 :: .ref 87 :: fI (f 36) :: .ref 88 :: .ref 89 :: .ref 90 :: .ref 91 :: .ref 92 :: .ref 93 :: [])))) (hl : h.length = 94) : ik_F 150 [.ref 66, fI 7] h (fun rv h_q => rv = [fI (f 4)] ∧ hfr [] h h_q) := by
  refine ik_Wk 1 (pc_q := 1) (loc_q := [some (.ref 66), some (fI 7)]) (st_q := [fI 7]) (h_q := h) (cl_q := 0) (sl_q := 0) rfl ?_
  refine ik_Wsi 91 0 7 #[47, 52, 57, 62, 69, 76, 81, 86] 86 87 rfl (by decide +kernel) rfl rfl ?_
  refine ik_Wk 1 (pc_q := 88) (loc_q := [some (.ref 66), some (fI 7)]) (st_q := [.ref 66]) (h_q := h) (cl_q := 0) (sl_q := 0) rfl ?_
  refine fw_gf rfl rfl h66 rfl ?_
  exact ik_Wret rfl rfl ⟨_, _, rfl, rfl, rfl, rfl, ⟨rfl, (hfr_refl [] h)⟩⟩

theorem cp_toldE {h : List ik_E} {what : Int} (q0 : -2147483648 ≤ what ∧ what < 2147483648) (q1 : what < 0 ∨ 7 < what) (h0 : cE h 0 (.inr (9, [.ref 1, .ref 7, .ref 14, .ref 17, .ref 45, .ref 51, .ref 54, .ref 57]))) (hl : h.length = 94) : ik_F 93 [.ref 0, fI what] h (fun rv h_q => rv = [fI (-1000000002)] ∧ hfr [] h h_q) := by
  refine ik_Wk 1 (pc_q := 1) (loc_q := [some (.ref 0), some (fI what)]) (st_q := [fI what]) (h_q := h) (cl_q := 0) (sl_q := 0) rfl ?_
  refine ik_Wsw 115 0 7 #[47, 55, 63, 71, 81, 91, 99, 107] 116 rfl rfl (by rw [fi_i (by omega) (by omega)]; omega) ?_
  refine fw_ld (-1000000002) rfl rfl (by decide +kernel) ?_
  exact ik_Wret rfl rfl ⟨_, _, rfl, rfl, rfl, rfl, ⟨rfl, (hfr_refl [] h)⟩⟩

theorem rp_toldE {h : List ik_E} {f : Nat → Int} {what : Int} (q0 : -2147483648 ≤ what ∧ what < 2147483648) (q1 : what < 0 ∨ 7 < what) (h66 : cE h 66 (.inr (10, (fI (f 0) :: .ref 67 :: .ref 68 :: .ref 69 :: fI (f 4) :: .ref 70 :: .ref 71 :: fI (f 7) :: fI (f 8) :: .ref 72 :: fI (f 10) :: fI (f 11) :: fI (f 12) :: fJ (f 13) :: fI (f 14) :: fI (f 15) :: fI (f 16) :: fI (f 17) :: .ref 73 :: .ref 74 :: .ref 75 :: .ref 76 :: .ref 77 :: .ref 78 :: fI (f 24) :: .ref 79 :: .ref 80 :: .ref 81 :: .ref 82 :: .ref 83 :: .ref 84 :: .ref 85 :: fJ (f 32) :: fJ (f 33) :: .ref 86 :: .ref 87 :: fI (f 36) :: .ref 88 :: .ref 89 :: .ref 90 :: .ref 91 :: .ref 92 :: .ref 93 :: [])))) (hl : h.length = 94) : ik_F 150 [.ref 66, fI what] h (fun rv h_q => rv = [fI (-1000000002)] ∧ hfr [] h h_q) := by
  refine ik_Wk 1 (pc_q := 1) (loc_q := [some (.ref 66), some (fI what)]) (st_q := [fI what]) (h_q := h) (cl_q := 0) (sl_q := 0) rfl ?_
  refine ik_Wsw 91 0 7 #[47, 52, 57, 62, 69, 76, 81, 86] 92 rfl rfl (by rw [fi_i (by omega) (by omega)]; omega) ?_
  refine fw_ld (-1000000002) rfl rfl (by decide +kernel) ?_
  exact ik_Wret rfl rfl ⟨_, _, rfl, rfl, rfl, rfl, ⟨rfl, (hfr_refl [] h)⟩⟩

theorem cp_move {h : List ik_E} {pl : Int} {p : Int} {i : Int} {what : Int} {cn : List Int} {go : List Int} {ch : List Int} {st : Int} {lo : Int} (q0 : 0 ≤ pl ∧ pl ≤ 12) (q1 : ∀ x : Int, (0 : Int) ≤ x → x < pl → 0 ≤ cn.getD x.toNat 0 ∧ cn.getD x.toNat 0 ≤ 4) (q2 : (-2147483648 : Int) ≤ p ∧ p < (2147483648 : Int)) (q3 : (-2147483648 : Int) ≤ i ∧ i < (2147483648 : Int)) (q4 : (-2147483648 : Int) ≤ what ∧ what < (2147483648 : Int)) (h0 : cE h 0 (.inr (9, [.ref 1, .ref 7, .ref 14, .ref 17, .ref 45, .ref 51, .ref 54, .ref 57]))) (h7 : cE h 7 (.inr (0, [fI pl, fI st, fI lo, .ref 8, .ref 9, .ref 10, .ref 11, .ref 12, .ref 13]))) (h8 : cE h 8 (.inl (.int, fA cn))) (n8 : cn.length = (12 : Nat)) (h9 : cE h 9 (.inl (.int, fA go))) (n9 : go.length = (48 : Nat)) (h10 : cE h 10 (.inl (.int, fA ch))) (n10 : ch.length = (48 : Nat)) (hl : h.length = (94 : Nat)) : ik_F 94 [.ref 0, fI p, fI i, fI what] h (fun rv h_q => rv = [fI (an_mv pl (cn.getD p.toNat 0) (go.getD (4 * p + i).toNat 0) (ch.getD (4 * p + i).toNat 0) p i what)] ∧ hfr [] h h_q) := by
  refine ik_Wk 1 (pc_q := 1) (loc_q := [some (.ref 0), some (fI p), some (fI i), some (fI what)]) (st_q := [.ref 0]) (h_q := h) (cl_q := 0) (sl_q := 0) rfl ?_
  refine fw_gf rfl rfl h0 rfl ?_
  refine ik_Wk 1 (pc_q := 5) (loc_q := [some (.ref 0), some (fI p), some (fI i), some (fI what)]) (st_q := [fI p, .ref 7]) (h_q := h) (cl_q := 0) (sl_q := 0) rfl ?_
  refine ik_Wc 3 2 0 [.ref 7, fI p] [] rfl rfl rfl (by decide +kernel) rfl rfl (fw_rec hl rfl h7 rfl (Nat.le_of_ble_eq_true rfl)) ?_
  refine ik_Wk 0 (pc_q := 0) (loc_q := [some (.ref 7), some (fI p)]) (st_q := []) (h_q := h) (cl_q := 0) (sl_q := 0) rfl ?_
  refine ik_Wk 1 (pc_q := 1) (loc_q := [some (.ref 7), some (fI p)]) (st_q := [fI p]) (h_q := h) (cl_q := 0) (sl_q := 0) rfl ?_
  refine fw_if_lt rfl rfl (by omega) (by omega) (fun hc1 => ?_) (fun hc1 => ?_)
  · refine ik_Wk 1 (pc_q := 17) (loc_q := [some (.ref 7), some (fI p)]) (st_q := [fI 0]) (h_q := h) (cl_q := 0) (sl_q := 0) rfl ?_
    refine ik_Wret rfl rfl ⟨_, _, rfl, rfl, ?_⟩
    refine ik_Wk 0 (pc_q := 8) (loc_q := [some (.ref 0), some (fI p), some (fI i), some (fI what)]) (st_q := [fI 0]) (h_q := h) (cl_q := 0) (sl_q := 0) rfl ?_
    refine fw_if_eq rfl rfl (by decide +kernel) (by decide +kernel) (fun hc2 => ?_) (fun hc2 => absurd hc2 (by decide +kernel))
    refine fw_ld (-1000000001) rfl rfl (by decide +kernel) ?_
    exact ik_Wret rfl rfl ⟨_, _, rfl, rfl, rfl, rfl, ⟨(congrArg (fun z => [fI z]) (by unfold an_mv; (repeat' split) <;> first | rfl | omega)), (hfr_refl [] h)⟩⟩
  · refine ik_Wk 2 (pc_q := 6) (loc_q := [some (.ref 7), some (fI p)]) (st_q := [.ref 7, fI p]) (h_q := h) (cl_q := 0) (sl_q := 0) rfl ?_
    refine fw_gf rfl rfl h7 rfl ?_
    refine fw_ic_ge rfl rfl (by omega) (by omega) (by omega) (by omega) (fun hc3 => ?_) (fun hc3 => ?_)
    · refine ik_Wk 1 (pc_q := 17) (loc_q := [some (.ref 7), some (fI p)]) (st_q := [fI 0]) (h_q := h) (cl_q := 0) (sl_q := 0) rfl ?_
      refine ik_Wret rfl rfl ⟨_, _, rfl, rfl, ?_⟩
      refine ik_Wk 0 (pc_q := 8) (loc_q := [some (.ref 0), some (fI p), some (fI i), some (fI what)]) (st_q := [fI 0]) (h_q := h) (cl_q := 0) (sl_q := 0) rfl ?_
      refine fw_if_eq rfl rfl (by decide +kernel) (by decide +kernel) (fun hc4 => ?_) (fun hc4 => absurd hc4 (by decide +kernel))
      refine fw_ld (-1000000001) rfl rfl (by decide +kernel) ?_
      exact ik_Wret rfl rfl ⟨_, _, rfl, rfl, rfl, rfl, ⟨(congrArg (fun z => [fI z]) (by unfold an_mv; (repeat' split) <;> first | rfl | omega)), (hfr_refl [] h)⟩⟩
    · refine ik_Wk 2 (pc_q := 17) (loc_q := [some (.ref 7), some (fI p)]) (st_q := [fI 1]) (h_q := h) (cl_q := 0) (sl_q := 0) rfl ?_
      refine ik_Wret rfl rfl ⟨_, _, rfl, rfl, ?_⟩
      refine ik_Wk 0 (pc_q := 8) (loc_q := [some (.ref 0), some (fI p), some (fI i), some (fI what)]) (st_q := [fI 1]) (h_q := h) (cl_q := 0) (sl_q := 0) rfl ?_
      refine fw_if_eq rfl rfl (by decide +kernel) (by decide +kernel) (fun hc5 => absurd hc5 (by decide +kernel)) (fun hc5 => ?_)
      refine ik_Wk 2 (pc_q := 13) (loc_q := [some (.ref 0), some (fI p), some (fI i), some (fI what)]) (st_q := [fI (-1), fI i]) (h_q := h) (cl_q := 0) (sl_q := 0) rfl ?_
      refine fw_ic_eq rfl rfl (by omega) (by omega) (by omega) (by omega) (fun hc6 => ?_) (fun hc6 => ?_)
      · refine ik_Wk 1 (pc_q := 32) (loc_q := [some (.ref 0), some (fI p), some (fI i), some (fI what)]) (st_q := [fI what]) (h_q := h) (cl_q := 0) (sl_q := 0) rfl ?_
        refine fw_if_lt rfl rfl (by omega) (by omega) (fun hc7 => ?_) (fun hc7 => ?_)
        · refine fw_ld (-1000000002) rfl rfl (by decide +kernel) ?_
          exact ik_Wret rfl rfl ⟨_, _, rfl, rfl, rfl, rfl, ⟨(congrArg (fun z => [fI z]) (by unfold an_mv; (repeat' split) <;> first | rfl | omega)), (hfr_refl [] h)⟩⟩
        · refine ik_Wk 2 (pc_q := 37) (loc_q := [some (.ref 0), some (fI p), some (fI i), some (fI what)]) (st_q := [fI 1, fI what]) (h_q := h) (cl_q := 0) (sl_q := 0) rfl ?_
          refine fw_ic_le rfl rfl (by omega) (by omega) (by omega) (by omega) (fun hc8 => ?_) (fun hc8 => ?_)
          · refine ik_Wk 2 (pc_q := 45) (loc_q := [some (.ref 0), some (fI p), some (fI i), some (fI what)]) (st_q := [fI (-1), fI i]) (h_q := h) (cl_q := 0) (sl_q := 0) rfl ?_
            refine fw_ic_ne rfl rfl (by omega) (by omega) (by omega) (by omega) (fun hc9 => ?_) (fun hc9 => ?_)
            · refine ik_Wk 1 (pc_q := 49) (loc_q := [some (.ref 0), some (fI p), some (fI i), some (fI what)]) (st_q := [.ref 0]) (h_q := h) (cl_q := 0) (sl_q := 0) rfl ?_
              refine fw_gf rfl rfl h0 rfl ?_
              refine fw_gf rfl rfl h7 rfl ?_
              refine ik_Wk 1 (pc_q := 56) (loc_q := [some (.ref 0), some (fI p), some (fI i), some (fI what)]) (st_q := [fI p, .ref 8]) (h_q := h) (cl_q := 0) (sl_q := 0) rfl ?_
              refine fw_ial rfl h8 (by omega) (by omega) (by omega) ?_
              have hn10 := q1 p (by omega) (by omega)
              exact ik_Wret rfl rfl ⟨_, _, rfl, rfl, rfl, rfl, ⟨(congrArg (fun z => [fI z]) (by unfold an_mv; (repeat' split) <;> first | rfl | omega)), (hfr_refl [] h)⟩⟩
            · refine ik_Wk 1 (pc_q := 59) (loc_q := [some (.ref 0), some (fI p), some (fI i), some (fI what)]) (st_q := [fI what]) (h_q := h) (cl_q := 0) (sl_q := 0) rfl ?_
              refine fw_if_ne rfl rfl (by omega) (by omega) (fun hc11 => ?_) (fun hc11 => ?_)
              · refine ik_Wk 1 (pc_q := 63) (loc_q := [some (.ref 0), some (fI p), some (fI i), some (fI what)]) (st_q := [.ref 0]) (h_q := h) (cl_q := 0) (sl_q := 0) rfl ?_
                refine fw_gf rfl rfl h0 rfl ?_
                refine fw_gf rfl rfl h7 rfl ?_
                refine ik_Wk 2 (pc_q := 71) (loc_q := [some (.ref 0), some (fI p), some (fI i), some (fI what)]) (st_q := [fI 4, fI p, .ref 9]) (h_q := h) (cl_q := 0) (sl_q := 0) rfl ?_
                refine fx_mulc rfl ?_
                refine ik_Wk 1 (pc_q := 73) (loc_q := [some (.ref 0), some (fI p), some (fI i), some (fI what)]) (st_q := [fI i, fI (4 * p), .ref 9]) (h_q := h) (cl_q := 0) (sl_q := 0) rfl ?_
                refine fw_add rfl ?_
                refine fw_ial rfl h9 (by omega) (by omega) (by omega) ?_
                refine ik_Wk 1 (pc_q := 91) (loc_q := [some (.ref 0), some (fI p), some (fI i), some (fI what)]) (st_q := [fI (go.getD ((4 * p) + i).toNat 0)]) (h_q := h) (cl_q := 0) (sl_q := 0) rfl ?_
                exact ik_Wret rfl rfl ⟨_, _, rfl, rfl, rfl, rfl, ⟨(congrArg (fun z => [fI z]) (by unfold an_mv; (repeat' split) <;> first | rfl | omega)), (hfr_refl [] h)⟩⟩
              · refine ik_Wk 1 (pc_q := 79) (loc_q := [some (.ref 0), some (fI p), some (fI i), some (fI what)]) (st_q := [.ref 0]) (h_q := h) (cl_q := 0) (sl_q := 0) rfl ?_
                refine fw_gf rfl rfl h0 rfl ?_
                refine fw_gf rfl rfl h7 rfl ?_
                refine ik_Wk 2 (pc_q := 87) (loc_q := [some (.ref 0), some (fI p), some (fI i), some (fI what)]) (st_q := [fI 4, fI p, .ref 10]) (h_q := h) (cl_q := 0) (sl_q := 0) rfl ?_
                refine fx_mulc rfl ?_
                refine ik_Wk 1 (pc_q := 89) (loc_q := [some (.ref 0), some (fI p), some (fI i), some (fI what)]) (st_q := [fI i, fI (4 * p), .ref 10]) (h_q := h) (cl_q := 0) (sl_q := 0) rfl ?_
                refine fw_add rfl ?_
                refine fw_ial rfl h10 (by omega) (by omega) (by omega) ?_
                exact ik_Wret rfl rfl ⟨_, _, rfl, rfl, rfl, rfl, ⟨(congrArg (fun z => [fI z]) (by unfold an_mv; (repeat' split) <;> first | rfl | omega)), (hfr_refl [] h)⟩⟩
          · refine fw_ld (-1000000002) rfl rfl (by decide +kernel) ?_
            exact ik_Wret rfl rfl ⟨_, _, rfl, rfl, rfl, rfl, ⟨(congrArg (fun z => [fI z]) (by unfold an_mv; (repeat' split) <;> first | rfl | omega)), (hfr_refl [] h)⟩⟩
      · refine ik_Wk 1 (pc_q := 17) (loc_q := [some (.ref 0), some (fI p), some (fI i), some (fI what)]) (st_q := [.ref 0]) (h_q := h) (cl_q := 0) (sl_q := 0) rfl ?_
        refine fw_gf rfl rfl h0 rfl ?_
        refine ik_Wk 2 (pc_q := 22) (loc_q := [some (.ref 0), some (fI p), some (fI i), some (fI what)]) (st_q := [fI i, fI p, .ref 7]) (h_q := h) (cl_q := 0) (sl_q := 0) rfl ?_
        refine ik_Wc 5 3 0 [.ref 7, fI p, fI i] [] rfl rfl rfl (by decide +kernel) rfl rfl (fw_rec hl rfl h7 rfl (Nat.le_of_ble_eq_true rfl)) ?_
        refine ik_Wk 0 (pc_q := 0) (loc_q := [some (.ref 7), some (fI p), some (fI i)]) (st_q := []) (h_q := h) (cl_q := 0) (sl_q := 0) rfl ?_
        refine ik_Wk 1 (pc_q := 1) (loc_q := [some (.ref 7), some (fI p), some (fI i)]) (st_q := [fI i]) (h_q := h) (cl_q := 0) (sl_q := 0) rfl ?_
        refine fw_if_lt rfl rfl (by omega) (by omega) (fun hc12 => ?_) (fun hc12 => ?_)
        · refine ik_Wk 1 (pc_q := 19) (loc_q := [some (.ref 7), some (fI p), some (fI i)]) (st_q := [fI 0]) (h_q := h) (cl_q := 0) (sl_q := 0) rfl ?_
          refine ik_Wret rfl rfl ⟨_, _, rfl, rfl, ?_⟩
          refine ik_Wk 0 (pc_q := 25) (loc_q := [some (.ref 0), some (fI p), some (fI i), some (fI what)]) (st_q := [fI 0]) (h_q := h) (cl_q := 0) (sl_q := 0) rfl ?_
          refine fw_if_ne rfl rfl (by decide +kernel) (by decide +kernel) (fun hc13 => ?_) (fun hc13 => absurd hc13 (by decide +kernel))
          refine fw_ld (-1000000001) rfl rfl (by decide +kernel) ?_
          exact ik_Wret rfl rfl ⟨_, _, rfl, rfl, rfl, rfl, ⟨(congrArg (fun z => [fI z]) (by unfold an_mv; (repeat' split) <;> first | rfl | omega)), (hfr_refl [] h)⟩⟩
        · refine ik_Wk 2 (pc_q := 6) (loc_q := [some (.ref 7), some (fI p), some (fI i)]) (st_q := [.ref 7, fI i]) (h_q := h) (cl_q := 0) (sl_q := 0) rfl ?_
          refine fw_gf rfl rfl h7 rfl ?_
          refine ik_Wk 1 (pc_q := 10) (loc_q := [some (.ref 7), some (fI p), some (fI i)]) (st_q := [fI p, .ref 8, fI i]) (h_q := h) (cl_q := 0) (sl_q := 0) rfl ?_
          refine fw_ial rfl h8 (by omega) (by omega) (by omega) ?_
          have hn14 := q1 p (by omega) (by omega)
          refine fw_ic_ge rfl rfl (by omega) (by omega) (by omega) (by omega) (fun hc15 => ?_) (fun hc15 => ?_)
          · refine ik_Wk 1 (pc_q := 19) (loc_q := [some (.ref 7), some (fI p), some (fI i)]) (st_q := [fI 0]) (h_q := h) (cl_q := 0) (sl_q := 0) rfl ?_
            refine ik_Wret rfl rfl ⟨_, _, rfl, rfl, ?_⟩
            refine ik_Wk 0 (pc_q := 25) (loc_q := [some (.ref 0), some (fI p), some (fI i), some (fI what)]) (st_q := [fI 0]) (h_q := h) (cl_q := 0) (sl_q := 0) rfl ?_
            refine fw_if_ne rfl rfl (by decide +kernel) (by decide +kernel) (fun hc16 => ?_) (fun hc16 => absurd hc16 (by decide +kernel))
            refine fw_ld (-1000000001) rfl rfl (by decide +kernel) ?_
            exact ik_Wret rfl rfl ⟨_, _, rfl, rfl, rfl, rfl, ⟨(congrArg (fun z => [fI z]) (by unfold an_mv; (repeat' split) <;> first | rfl | omega)), (hfr_refl [] h)⟩⟩
          · refine ik_Wk 2 (pc_q := 19) (loc_q := [some (.ref 7), some (fI p), some (fI i)]) (st_q := [fI 1]) (h_q := h) (cl_q := 0) (sl_q := 0) rfl ?_
            refine ik_Wret rfl rfl ⟨_, _, rfl, rfl, ?_⟩
            refine ik_Wk 0 (pc_q := 25) (loc_q := [some (.ref 0), some (fI p), some (fI i), some (fI what)]) (st_q := [fI 1]) (h_q := h) (cl_q := 0) (sl_q := 0) rfl ?_
            refine fw_if_ne rfl rfl (by decide +kernel) (by decide +kernel) (fun hc17 => absurd hc17 (by decide +kernel)) (fun hc17 => ?_)
            refine ik_Wk 1 (pc_q := 32) (loc_q := [some (.ref 0), some (fI p), some (fI i), some (fI what)]) (st_q := [fI what]) (h_q := h) (cl_q := 0) (sl_q := 0) rfl ?_
            refine fw_if_lt rfl rfl (by omega) (by omega) (fun hc18 => ?_) (fun hc18 => ?_)
            · refine fw_ld (-1000000002) rfl rfl (by decide +kernel) ?_
              exact ik_Wret rfl rfl ⟨_, _, rfl, rfl, rfl, rfl, ⟨(congrArg (fun z => [fI z]) (by unfold an_mv; (repeat' split) <;> first | rfl | omega)), (hfr_refl [] h)⟩⟩
            · refine ik_Wk 2 (pc_q := 37) (loc_q := [some (.ref 0), some (fI p), some (fI i), some (fI what)]) (st_q := [fI 1, fI what]) (h_q := h) (cl_q := 0) (sl_q := 0) rfl ?_
              refine fw_ic_le rfl rfl (by omega) (by omega) (by omega) (by omega) (fun hc19 => ?_) (fun hc19 => ?_)
              · refine ik_Wk 2 (pc_q := 45) (loc_q := [some (.ref 0), some (fI p), some (fI i), some (fI what)]) (st_q := [fI (-1), fI i]) (h_q := h) (cl_q := 0) (sl_q := 0) rfl ?_
                refine fw_ic_ne rfl rfl (by omega) (by omega) (by omega) (by omega) (fun hc20 => ?_) (fun hc20 => ?_)
                · refine ik_Wk 1 (pc_q := 49) (loc_q := [some (.ref 0), some (fI p), some (fI i), some (fI what)]) (st_q := [.ref 0]) (h_q := h) (cl_q := 0) (sl_q := 0) rfl ?_
                  refine fw_gf rfl rfl h0 rfl ?_
                  refine fw_gf rfl rfl h7 rfl ?_
                  refine ik_Wk 1 (pc_q := 56) (loc_q := [some (.ref 0), some (fI p), some (fI i), some (fI what)]) (st_q := [fI p, .ref 8]) (h_q := h) (cl_q := 0) (sl_q := 0) rfl ?_
                  refine fw_ial rfl h8 (by omega) (by omega) (by omega) ?_
                  have hn21 := q1 p (by omega) (by omega)
                  exact ik_Wret rfl rfl ⟨_, _, rfl, rfl, rfl, rfl, ⟨(congrArg (fun z => [fI z]) (by unfold an_mv; (repeat' split) <;> first | rfl | omega)), (hfr_refl [] h)⟩⟩
                · refine ik_Wk 1 (pc_q := 59) (loc_q := [some (.ref 0), some (fI p), some (fI i), some (fI what)]) (st_q := [fI what]) (h_q := h) (cl_q := 0) (sl_q := 0) rfl ?_
                  refine fw_if_ne rfl rfl (by omega) (by omega) (fun hc22 => ?_) (fun hc22 => ?_)
                  · refine ik_Wk 1 (pc_q := 63) (loc_q := [some (.ref 0), some (fI p), some (fI i), some (fI what)]) (st_q := [.ref 0]) (h_q := h) (cl_q := 0) (sl_q := 0) rfl ?_
                    refine fw_gf rfl rfl h0 rfl ?_
                    refine fw_gf rfl rfl h7 rfl ?_
                    refine ik_Wk 2 (pc_q := 71) (loc_q := [some (.ref 0), some (fI p), some (fI i), some (fI what)]) (st_q := [fI 4, fI p, .ref 9]) (h_q := h) (cl_q := 0) (sl_q := 0) rfl ?_
                    refine fx_mulc rfl ?_
                    refine ik_Wk 1 (pc_q := 73) (loc_q := [some (.ref 0), some (fI p), some (fI i), some (fI what)]) (st_q := [fI i, fI (4 * p), .ref 9]) (h_q := h) (cl_q := 0) (sl_q := 0) rfl ?_
                    refine fw_add rfl ?_
                    refine fw_ial rfl h9 (by omega) (by omega) (by omega) ?_
                    refine ik_Wk 1 (pc_q := 91) (loc_q := [some (.ref 0), some (fI p), some (fI i), some (fI what)]) (st_q := [fI (go.getD ((4 * p) + i).toNat 0)]) (h_q := h) (cl_q := 0) (sl_q := 0) rfl ?_
                    exact ik_Wret rfl rfl ⟨_, _, rfl, rfl, rfl, rfl, ⟨(congrArg (fun z => [fI z]) (by unfold an_mv; (repeat' split) <;> first | rfl | omega)), (hfr_refl [] h)⟩⟩
                  · refine ik_Wk 1 (pc_q := 79) (loc_q := [some (.ref 0), some (fI p), some (fI i), some (fI what)]) (st_q := [.ref 0]) (h_q := h) (cl_q := 0) (sl_q := 0) rfl ?_
                    refine fw_gf rfl rfl h0 rfl ?_
                    refine fw_gf rfl rfl h7 rfl ?_
                    refine ik_Wk 2 (pc_q := 87) (loc_q := [some (.ref 0), some (fI p), some (fI i), some (fI what)]) (st_q := [fI 4, fI p, .ref 10]) (h_q := h) (cl_q := 0) (sl_q := 0) rfl ?_
                    refine fx_mulc rfl ?_
                    refine ik_Wk 1 (pc_q := 89) (loc_q := [some (.ref 0), some (fI p), some (fI i), some (fI what)]) (st_q := [fI i, fI (4 * p), .ref 10]) (h_q := h) (cl_q := 0) (sl_q := 0) rfl ?_
                    refine fw_add rfl ?_
                    refine fw_ial rfl h10 (by omega) (by omega) (by omega) ?_
                    exact ik_Wret rfl rfl ⟨_, _, rfl, rfl, rfl, rfl, ⟨(congrArg (fun z => [fI z]) (by unfold an_mv; (repeat' split) <;> first | rfl | omega)), (hfr_refl [] h)⟩⟩
              · refine fw_ld (-1000000002) rfl rfl (by decide +kernel) ?_
                exact ik_Wret rfl rfl ⟨_, _, rfl, rfl, rfl, rfl, ⟨(congrArg (fun z => [fI z]) (by unfold an_mv; (repeat' split) <;> first | rfl | omega)), (hfr_refl [] h)⟩⟩

theorem rp_move {h : List ik_E} {pl : Int} {p : Int} {i : Int} {what : Int} {cn : List Int} {go : List Int} {ch : List Int} {f : Nat → Int} (q0 : 0 ≤ pl ∧ pl ≤ 12) (q1 : ∀ x : Int, (0 : Int) ≤ x → x < pl → 0 ≤ cn.getD x.toNat 0 ∧ cn.getD x.toNat 0 ≤ 4) (q2 : (-2147483648 : Int) ≤ p ∧ p < (2147483648 : Int)) (q3 : (-2147483648 : Int) ≤ i ∧ i < (2147483648 : Int)) (q4 : (-2147483648 : Int) ≤ what ∧ what < (2147483648 : Int)) (h66 : cE h 66 (.inr (10, (fI pl :: .ref 67 :: .ref 68 :: .ref 69 :: fI (f 4) :: .ref 70 :: .ref 71 :: fI (f 7) :: fI (f 8) :: .ref 72 :: fI (f 10) :: fI (f 11) :: fI (f 12) :: fJ (f 13) :: fI (f 14) :: fI (f 15) :: fI (f 16) :: fI (f 17) :: .ref 73 :: .ref 74 :: .ref 75 :: .ref 76 :: .ref 77 :: .ref 78 :: fI (f 24) :: .ref 79 :: .ref 80 :: .ref 81 :: .ref 82 :: .ref 83 :: .ref 84 :: .ref 85 :: fJ (f 32) :: fJ (f 33) :: .ref 86 :: .ref 87 :: fI (f 36) :: .ref 88 :: .ref 89 :: .ref 90 :: .ref 91 :: .ref 92 :: .ref 93 :: [])))) (h67 : cE h 67 (.inl (.int, fA cn))) (n67 : cn.length = (12 : Nat)) (h68 : cE h 68 (.inl (.int, fA go))) (n68 : go.length = (48 : Nat)) (h69 : cE h 69 (.inl (.int, fA ch))) (n69 : ch.length = (48 : Nat)) (hl : h.length = (94 : Nat)) : ik_F 151 [.ref 66, fI p, fI i, fI what] h (fun rv h_q => rv = [fI (an_mv pl (cn.getD p.toNat 0) (go.getD (4 * p + i).toNat 0) (ch.getD (4 * p + i).toNat 0) p i what)] ∧ hfr [] h h_q) := by
  refine ik_Wk 2 (pc_q := 2) (loc_q := [some (.ref 66), some (fI p), some (fI i), some (fI what)]) (st_q := [fI p, .ref 66]) (h_q := h) (cl_q := 0) (sl_q := 0) rfl ?_
  refine ik_Wc 129 2 0 [.ref 66, fI p] [] rfl rfl rfl (by decide +kernel) rfl rfl (fw_rec hl rfl h66 rfl (Nat.le_of_ble_eq_true rfl)) ?_
  refine ik_Wk 0 (pc_q := 0) (loc_q := [some (.ref 66), some (fI p)]) (st_q := []) (h_q := h) (cl_q := 0) (sl_q := 0) rfl ?_
  refine ik_Wk 1 (pc_q := 1) (loc_q := [some (.ref 66), some (fI p)]) (st_q := [fI p]) (h_q := h) (cl_q := 0) (sl_q := 0) rfl ?_
  refine fw_i2l rfl (by omega) (by omega) ?_
  refine fw_lc (z := 0) rfl (by decide +kernel) ?_
  refine ik_Wk 1 (pc_q := 4) (loc_q := [some (.ref 66), some (fI p)]) (st_q := [.ref 66, fJ 0, fJ p]) (h_q := h) (cl_q := 0) (sl_q := 0) rfl ?_
  refine fw_gf rfl rfl h66 rfl ?_
  refine ik_Wk 1 (pc_q := 8) (loc_q := [some (.ref 66), some (fI p)]) (st_q := [fI 1, fI pl, fJ 0, fJ p]) (h_q := h) (cl_q := 0) (sl_q := 0) rfl ?_
  refine fw_sub rfl ?_
  refine fw_i2l rfl (by omega) (by omega) ?_
  refine fw_call 127 3 3 [fJ p, fJ 0, fJ (pl - 1)] [] rfl rfl rfl (Nat.le_of_ble_eq_true rfl) rfl rfl (fw_sta hl rfl (by decide +kernel)) (cr_in (v := p) (a := 0) (b := pl - 1) (by omega) (by omega) (by omega)  hl) ?_
  rintro _ h_391 (⟨rfl, p_391_0, F_391⟩ | ⟨rfl, p_391_0, F_391⟩)
  · have k_391 : cL h_391 := F_391.1.trans hl
    have fr_391 := hfr_cb (hfr_refl [] h) F_391 rfl
    have g_391_66 := (hfr_g F_391 66 rfl).trans h66
    have g_391_67 := (hfr_g F_391 67 rfl).trans h67
    have g_391_68 := (hfr_g F_391 68 rfl).trans h68
    have g_391_69 := (hfr_g F_391 69 rfl).trans h69
    refine ik_Wk 0 (pc_q := 13) (loc_q := [some (.ref 66), some (fI p)]) (st_q := [fI 1]) (h_q := h_391) (cl_q := 0) (sl_q := 0) rfl ?_
    refine ik_Wret rfl rfl ⟨_, _, rfl, rfl, ?_⟩
    refine ik_Wk 0 (pc_q := 5) (loc_q := [some (.ref 66), some (fI p), some (fI i), some (fI what)]) (st_q := [fI 1]) (h_q := h_391) (cl_q := 0) (sl_q := 0) rfl ?_
    refine fw_if_eq rfl rfl (by decide +kernel) (by decide +kernel) (fun hc1 => absurd hc1 (by decide +kernel)) (fun hc1 => ?_)
    refine ik_Wk 2 (pc_q := 10) (loc_q := [some (.ref 66), some (fI p), some (fI i), some (fI what)]) (st_q := [fI (-1), fI i]) (h_q := h_391) (cl_q := 0) (sl_q := 0) rfl ?_
    refine fw_ic_eq rfl rfl (by omega) (by omega) (by omega) (by omega) (fun hc2 => ?_) (fun hc2 => ?_)
    · refine ik_Wk 1 (pc_q := 35) (loc_q := [some (.ref 66), some (fI p), some (fI i), some (fI what)]) (st_q := [fI what]) (h_q := h_391) (cl_q := 0) (sl_q := 0) rfl ?_
      refine fw_i2l rfl (by omega) (by omega) ?_
      refine fw_lc (z := 0) rfl (by decide +kernel) ?_
      refine fw_lc (z := 1) rfl (by decide +kernel) ?_
      refine fw_call 127 3 3 [fJ what, fJ 0, fJ 1] [] rfl rfl rfl (Nat.le_of_ble_eq_true rfl) rfl rfl (fw_sta k_391 rfl (by decide +kernel)) (cr_in (v := what) (a := 0) (b := 1) (by omega) (by omega) (by omega)  k_391) ?_
      rintro _ h_392 (⟨rfl, p_392_0, F_392⟩ | ⟨rfl, p_392_0, F_392⟩)
      · have k_392 : cL h_392 := F_392.1.trans k_391
        have fr_392 := hfr_cb fr_391 F_392 rfl
        have g_392_66 := (hfr_g F_392 66 rfl).trans g_391_66
        have g_392_67 := (hfr_g F_392 67 rfl).trans g_391_67
        have g_392_68 := (hfr_g F_392 68 rfl).trans g_391_68
        have g_392_69 := (hfr_g F_392 69 rfl).trans g_391_69
        refine ik_Wk 0 (pc_q := 41) (loc_q := [some (.ref 66), some (fI p), some (fI i), some (fI what)]) (st_q := [fI 1]) (h_q := h_392) (cl_q := 0) (sl_q := 0) rfl ?_
        refine fw_if_ne rfl rfl (by decide +kernel) (by decide +kernel) (fun hc3 => absurd hc3 (by decide +kernel)) (fun hc3 => ?_)
        refine ik_Wk 2 (pc_q := 49) (loc_q := [some (.ref 66), some (fI p), some (fI i), some (fI what)]) (st_q := [fI (-1), fI i]) (h_q := h_392) (cl_q := 0) (sl_q := 0) rfl ?_
        refine fw_ic_ne rfl rfl (by omega) (by omega) (by omega) (by omega) (fun hc4 => ?_) (fun hc4 => ?_)
        · refine ik_Wk 1 (pc_q := 53) (loc_q := [some (.ref 66), some (fI p), some (fI i), some (fI what)]) (st_q := [.ref 66]) (h_q := h_392) (cl_q := 0) (sl_q := 0) rfl ?_
          refine fw_gf rfl rfl g_392_66 rfl ?_
          refine ik_Wk 1 (pc_q := 57) (loc_q := [some (.ref 66), some (fI p), some (fI i), some (fI what)]) (st_q := [fI p, .ref 67]) (h_q := h_392) (cl_q := 0) (sl_q := 0) rfl ?_
          refine fw_ial rfl g_392_67 (by omega) (by omega) (by omega) ?_
          have hn5 := q1 p (by omega) (by omega)
          refine ik_Wk 1 (pc_q := 88) (loc_q := [some (.ref 66), some (fI p), some (fI i), some (fI what)]) (st_q := [fI (cn.getD p.toNat 0)]) (h_q := h_392) (cl_q := 0) (sl_q := 0) rfl ?_
          exact ik_Wret rfl rfl ⟨_, _, rfl, rfl, rfl, rfl, ⟨(congrArg (fun z => [fI z]) (by unfold an_mv; (repeat' split) <;> first | rfl | omega)), fr_392⟩⟩
        · refine ik_Wk 1 (pc_q := 62) (loc_q := [some (.ref 66), some (fI p), some (fI i), some (fI what)]) (st_q := [fI what]) (h_q := h_392) (cl_q := 0) (sl_q := 0) rfl ?_
          refine fw_if_ne rfl rfl (by omega) (by omega) (fun hc6 => ?_) (fun hc6 => ?_)
          · refine ik_Wk 1 (pc_q := 66) (loc_q := [some (.ref 66), some (fI p), some (fI i), some (fI what)]) (st_q := [.ref 66]) (h_q := h_392) (cl_q := 0) (sl_q := 0) rfl ?_
            refine fw_gf rfl rfl g_392_66 rfl ?_
            refine ik_Wk 2 (pc_q := 71) (loc_q := [some (.ref 66), some (fI p), some (fI i), some (fI what)]) (st_q := [fI p, fI 4, .ref 68]) (h_q := h_392) (cl_q := 0) (sl_q := 0) rfl ?_
            refine fw_mul rfl ?_
            refine ik_Wk 1 (pc_q := 73) (loc_q := [some (.ref 66), some (fI p), some (fI i), some (fI what)]) (st_q := [fI i, fI (4 * p), .ref 68]) (h_q := h_392) (cl_q := 0) (sl_q := 0) rfl ?_
            refine fw_add rfl ?_
            refine fw_ial rfl g_392_68 (by omega) (by omega) (by omega) ?_
            refine ik_Wk 1 (pc_q := 88) (loc_q := [some (.ref 66), some (fI p), some (fI i), some (fI what)]) (st_q := [fI (go.getD ((4 * p) + i).toNat 0)]) (h_q := h_392) (cl_q := 0) (sl_q := 0) rfl ?_
            exact ik_Wret rfl rfl ⟨_, _, rfl, rfl, rfl, rfl, ⟨(congrArg (fun z => [fI z]) (by unfold an_mv; (repeat' split) <;> first | rfl | omega)), fr_392⟩⟩
          · refine ik_Wk 1 (pc_q := 79) (loc_q := [some (.ref 66), some (fI p), some (fI i), some (fI what)]) (st_q := [.ref 66]) (h_q := h_392) (cl_q := 0) (sl_q := 0) rfl ?_
            refine fw_gf rfl rfl g_392_66 rfl ?_
            refine ik_Wk 2 (pc_q := 84) (loc_q := [some (.ref 66), some (fI p), some (fI i), some (fI what)]) (st_q := [fI p, fI 4, .ref 69]) (h_q := h_392) (cl_q := 0) (sl_q := 0) rfl ?_
            refine fw_mul rfl ?_
            refine ik_Wk 1 (pc_q := 86) (loc_q := [some (.ref 66), some (fI p), some (fI i), some (fI what)]) (st_q := [fI i, fI (4 * p), .ref 69]) (h_q := h_392) (cl_q := 0) (sl_q := 0) rfl ?_
            refine fw_add rfl ?_
            refine fw_ial rfl g_392_69 (by omega) (by omega) (by omega) ?_
            exact ik_Wret rfl rfl ⟨_, _, rfl, rfl, rfl, rfl, ⟨(congrArg (fun z => [fI z]) (by unfold an_mv; (repeat' split) <;> first | rfl | omega)), fr_392⟩⟩
      · have k_392 : cL h_392 := F_392.1.trans k_391
        have fr_392 := hfr_cb fr_391 F_392 rfl
        have g_392_66 := (hfr_g F_392 66 rfl).trans g_391_66
        have g_392_67 := (hfr_g F_392 67 rfl).trans g_391_67
        have g_392_68 := (hfr_g F_392 68 rfl).trans g_391_68
        have g_392_69 := (hfr_g F_392 69 rfl).trans g_391_69
        refine ik_Wk 0 (pc_q := 41) (loc_q := [some (.ref 66), some (fI p), some (fI i), some (fI what)]) (st_q := [fI 0]) (h_q := h_392) (cl_q := 0) (sl_q := 0) rfl ?_
        refine fw_if_ne rfl rfl (by decide +kernel) (by decide +kernel) (fun hc7 => ?_) (fun hc7 => absurd hc7 (by decide +kernel))
        refine fw_ld (-1000000002) rfl rfl (by decide +kernel) ?_
        exact ik_Wret rfl rfl ⟨_, _, rfl, rfl, rfl, rfl, ⟨(congrArg (fun z => [fI z]) (by unfold an_mv; (repeat' split) <;> first | rfl | omega)), fr_392⟩⟩
    · refine ik_Wk 1 (pc_q := 14) (loc_q := [some (.ref 66), some (fI p), some (fI i), some (fI what)]) (st_q := [fI i]) (h_q := h_391) (cl_q := 0) (sl_q := 0) rfl ?_
      refine fw_i2l rfl (by omega) (by omega) ?_
      refine fw_lc (z := 0) rfl (by decide +kernel) ?_
      refine ik_Wk 1 (pc_q := 17) (loc_q := [some (.ref 66), some (fI p), some (fI i), some (fI what)]) (st_q := [.ref 66, fJ 0, fJ i]) (h_q := h_391) (cl_q := 0) (sl_q := 0) rfl ?_
      refine fw_gf rfl rfl g_391_66 rfl ?_
      refine ik_Wk 1 (pc_q := 21) (loc_q := [some (.ref 66), some (fI p), some (fI i), some (fI what)]) (st_q := [fI p, .ref 67, fJ 0, fJ i]) (h_q := h_391) (cl_q := 0) (sl_q := 0) rfl ?_
      refine fw_ial rfl g_391_67 (by omega) (by omega) (by omega) ?_
      have hn8 := q1 p (by omega) (by omega)
      refine ik_Wk 1 (pc_q := 23) (loc_q := [some (.ref 66), some (fI p), some (fI i), some (fI what)]) (st_q := [fI 1, fI (cn.getD p.toNat 0), fJ 0, fJ i]) (h_q := h_391) (cl_q := 0) (sl_q := 0) rfl ?_
      refine fw_sub rfl ?_
      refine fw_i2l rfl (by omega) (by omega) ?_
      refine fw_call 127 3 3 [fJ i, fJ 0, fJ ((cn.getD p.toNat 0) - 1)] [] rfl rfl rfl (Nat.le_of_ble_eq_true rfl) rfl rfl (fw_sta k_391 rfl (by decide +kernel)) (cr_in (v := i) (a := 0) (b := (cn.getD p.toNat 0) - 1) (by omega) (by omega) (by omega)  k_391) ?_
      rintro _ h_393 (⟨rfl, p_393_0, F_393⟩ | ⟨rfl, p_393_0, F_393⟩)
      · have k_393 : cL h_393 := F_393.1.trans k_391
        have fr_393 := hfr_cb fr_391 F_393 rfl
        have g_393_66 := (hfr_g F_393 66 rfl).trans g_391_66
        have g_393_67 := (hfr_g F_393 67 rfl).trans g_391_67
        have g_393_68 := (hfr_g F_393 68 rfl).trans g_391_68
        have g_393_69 := (hfr_g F_393 69 rfl).trans g_391_69
        refine ik_Wk 0 (pc_q := 28) (loc_q := [some (.ref 66), some (fI p), some (fI i), some (fI what)]) (st_q := [fI 1]) (h_q := h_393) (cl_q := 0) (sl_q := 0) rfl ?_
        refine fw_if_ne rfl rfl (by decide +kernel) (by decide +kernel) (fun hc9 => absurd hc9 (by decide +kernel)) (fun hc9 => ?_)
        refine ik_Wk 1 (pc_q := 35) (loc_q := [some (.ref 66), some (fI p), some (fI i), some (fI what)]) (st_q := [fI what]) (h_q := h_393) (cl_q := 0) (sl_q := 0) rfl ?_
        refine fw_i2l rfl (by omega) (by omega) ?_
        refine fw_lc (z := 0) rfl (by decide +kernel) ?_
        refine fw_lc (z := 1) rfl (by decide +kernel) ?_
        refine fw_call 127 3 3 [fJ what, fJ 0, fJ 1] [] rfl rfl rfl (Nat.le_of_ble_eq_true rfl) rfl rfl (fw_sta k_393 rfl (by decide +kernel)) (cr_in (v := what) (a := 0) (b := 1) (by omega) (by omega) (by omega)  k_393) ?_
        rintro _ h_394 (⟨rfl, p_394_0, F_394⟩ | ⟨rfl, p_394_0, F_394⟩)
        · have k_394 : cL h_394 := F_394.1.trans k_393
          have fr_394 := hfr_cb fr_393 F_394 rfl
          have g_394_66 := (hfr_g F_394 66 rfl).trans g_393_66
          have g_394_67 := (hfr_g F_394 67 rfl).trans g_393_67
          have g_394_68 := (hfr_g F_394 68 rfl).trans g_393_68
          have g_394_69 := (hfr_g F_394 69 rfl).trans g_393_69
          refine ik_Wk 0 (pc_q := 41) (loc_q := [some (.ref 66), some (fI p), some (fI i), some (fI what)]) (st_q := [fI 1]) (h_q := h_394) (cl_q := 0) (sl_q := 0) rfl ?_
          refine fw_if_ne rfl rfl (by decide +kernel) (by decide +kernel) (fun hc10 => absurd hc10 (by decide +kernel)) (fun hc10 => ?_)
          refine ik_Wk 2 (pc_q := 49) (loc_q := [some (.ref 66), some (fI p), some (fI i), some (fI what)]) (st_q := [fI (-1), fI i]) (h_q := h_394) (cl_q := 0) (sl_q := 0) rfl ?_
          refine fw_ic_ne rfl rfl (by omega) (by omega) (by omega) (by omega) (fun hc11 => ?_) (fun hc11 => ?_)
          · refine ik_Wk 1 (pc_q := 53) (loc_q := [some (.ref 66), some (fI p), some (fI i), some (fI what)]) (st_q := [.ref 66]) (h_q := h_394) (cl_q := 0) (sl_q := 0) rfl ?_
            refine fw_gf rfl rfl g_394_66 rfl ?_
            refine ik_Wk 1 (pc_q := 57) (loc_q := [some (.ref 66), some (fI p), some (fI i), some (fI what)]) (st_q := [fI p, .ref 67]) (h_q := h_394) (cl_q := 0) (sl_q := 0) rfl ?_
            refine fw_ial rfl g_394_67 (by omega) (by omega) (by omega) ?_
            have hn12 := q1 p (by omega) (by omega)
            refine ik_Wk 1 (pc_q := 88) (loc_q := [some (.ref 66), some (fI p), some (fI i), some (fI what)]) (st_q := [fI (cn.getD p.toNat 0)]) (h_q := h_394) (cl_q := 0) (sl_q := 0) rfl ?_
            exact ik_Wret rfl rfl ⟨_, _, rfl, rfl, rfl, rfl, ⟨(congrArg (fun z => [fI z]) (by unfold an_mv; (repeat' split) <;> first | rfl | omega)), fr_394⟩⟩
          · refine ik_Wk 1 (pc_q := 62) (loc_q := [some (.ref 66), some (fI p), some (fI i), some (fI what)]) (st_q := [fI what]) (h_q := h_394) (cl_q := 0) (sl_q := 0) rfl ?_
            refine fw_if_ne rfl rfl (by omega) (by omega) (fun hc13 => ?_) (fun hc13 => ?_)
            · refine ik_Wk 1 (pc_q := 66) (loc_q := [some (.ref 66), some (fI p), some (fI i), some (fI what)]) (st_q := [.ref 66]) (h_q := h_394) (cl_q := 0) (sl_q := 0) rfl ?_
              refine fw_gf rfl rfl g_394_66 rfl ?_
              refine ik_Wk 2 (pc_q := 71) (loc_q := [some (.ref 66), some (fI p), some (fI i), some (fI what)]) (st_q := [fI p, fI 4, .ref 68]) (h_q := h_394) (cl_q := 0) (sl_q := 0) rfl ?_
              refine fw_mul rfl ?_
              refine ik_Wk 1 (pc_q := 73) (loc_q := [some (.ref 66), some (fI p), some (fI i), some (fI what)]) (st_q := [fI i, fI (4 * p), .ref 68]) (h_q := h_394) (cl_q := 0) (sl_q := 0) rfl ?_
              refine fw_add rfl ?_
              refine fw_ial rfl g_394_68 (by omega) (by omega) (by omega) ?_
              refine ik_Wk 1 (pc_q := 88) (loc_q := [some (.ref 66), some (fI p), some (fI i), some (fI what)]) (st_q := [fI (go.getD ((4 * p) + i).toNat 0)]) (h_q := h_394) (cl_q := 0) (sl_q := 0) rfl ?_
              exact ik_Wret rfl rfl ⟨_, _, rfl, rfl, rfl, rfl, ⟨(congrArg (fun z => [fI z]) (by unfold an_mv; (repeat' split) <;> first | rfl | omega)), fr_394⟩⟩
            · refine ik_Wk 1 (pc_q := 79) (loc_q := [some (.ref 66), some (fI p), some (fI i), some (fI what)]) (st_q := [.ref 66]) (h_q := h_394) (cl_q := 0) (sl_q := 0) rfl ?_
              refine fw_gf rfl rfl g_394_66 rfl ?_
              refine ik_Wk 2 (pc_q := 84) (loc_q := [some (.ref 66), some (fI p), some (fI i), some (fI what)]) (st_q := [fI p, fI 4, .ref 69]) (h_q := h_394) (cl_q := 0) (sl_q := 0) rfl ?_
              refine fw_mul rfl ?_
              refine ik_Wk 1 (pc_q := 86) (loc_q := [some (.ref 66), some (fI p), some (fI i), some (fI what)]) (st_q := [fI i, fI (4 * p), .ref 69]) (h_q := h_394) (cl_q := 0) (sl_q := 0) rfl ?_
              refine fw_add rfl ?_
              refine fw_ial rfl g_394_69 (by omega) (by omega) (by omega) ?_
              exact ik_Wret rfl rfl ⟨_, _, rfl, rfl, rfl, rfl, ⟨(congrArg (fun z => [fI z]) (by unfold an_mv; (repeat' split) <;> first | rfl | omega)), fr_394⟩⟩
        · have k_394 : cL h_394 := F_394.1.trans k_393
          have fr_394 := hfr_cb fr_393 F_394 rfl
          have g_394_66 := (hfr_g F_394 66 rfl).trans g_393_66
          have g_394_67 := (hfr_g F_394 67 rfl).trans g_393_67
          have g_394_68 := (hfr_g F_394 68 rfl).trans g_393_68
          have g_394_69 := (hfr_g F_394 69 rfl).trans g_393_69
          refine ik_Wk 0 (pc_q := 41) (loc_q := [some (.ref 66), some (fI p), some (fI i), some (fI what)]) (st_q := [fI 0]) (h_q := h_394) (cl_q := 0) (sl_q := 0) rfl ?_
          refine fw_if_ne rfl rfl (by decide +kernel) (by decide +kernel) (fun hc14 => ?_) (fun hc14 => absurd hc14 (by decide +kernel))
          refine fw_ld (-1000000002) rfl rfl (by decide +kernel) ?_
          exact ik_Wret rfl rfl ⟨_, _, rfl, rfl, rfl, rfl, ⟨(congrArg (fun z => [fI z]) (by unfold an_mv; (repeat' split) <;> first | rfl | omega)), fr_394⟩⟩
      · have k_393 : cL h_393 := F_393.1.trans k_391
        have fr_393 := hfr_cb fr_391 F_393 rfl
        have g_393_66 := (hfr_g F_393 66 rfl).trans g_391_66
        have g_393_67 := (hfr_g F_393 67 rfl).trans g_391_67
        have g_393_68 := (hfr_g F_393 68 rfl).trans g_391_68
        have g_393_69 := (hfr_g F_393 69 rfl).trans g_391_69
        refine ik_Wk 0 (pc_q := 28) (loc_q := [some (.ref 66), some (fI p), some (fI i), some (fI what)]) (st_q := [fI 0]) (h_q := h_393) (cl_q := 0) (sl_q := 0) rfl ?_
        refine fw_if_ne rfl rfl (by decide +kernel) (by decide +kernel) (fun hc15 => ?_) (fun hc15 => absurd hc15 (by decide +kernel))
        refine fw_ld (-1000000001) rfl rfl (by decide +kernel) ?_
        exact ik_Wret rfl rfl ⟨_, _, rfl, rfl, rfl, rfl, ⟨(congrArg (fun z => [fI z]) (by unfold an_mv; (repeat' split) <;> first | rfl | omega)), fr_393⟩⟩
  · have k_391 : cL h_391 := F_391.1.trans hl
    have fr_391 := hfr_cb (hfr_refl [] h) F_391 rfl
    have g_391_66 := (hfr_g F_391 66 rfl).trans h66
    have g_391_67 := (hfr_g F_391 67 rfl).trans h67
    have g_391_68 := (hfr_g F_391 68 rfl).trans h68
    have g_391_69 := (hfr_g F_391 69 rfl).trans h69
    refine ik_Wk 0 (pc_q := 13) (loc_q := [some (.ref 66), some (fI p)]) (st_q := [fI 0]) (h_q := h_391) (cl_q := 0) (sl_q := 0) rfl ?_
    refine ik_Wret rfl rfl ⟨_, _, rfl, rfl, ?_⟩
    refine ik_Wk 0 (pc_q := 5) (loc_q := [some (.ref 66), some (fI p), some (fI i), some (fI what)]) (st_q := [fI 0]) (h_q := h_391) (cl_q := 0) (sl_q := 0) rfl ?_
    refine fw_if_eq rfl rfl (by decide +kernel) (by decide +kernel) (fun hc16 => ?_) (fun hc16 => absurd hc16 (by decide +kernel))
    refine fw_ld (-1000000001) rfl rfl (by decide +kernel) ?_
    exact ik_Wret rfl rfl ⟨_, _, rfl, rfl, rfl, rfl, ⟨(congrArg (fun z => [fI z]) (by unfold an_mv; (repeat' split) <;> first | rfl | omega)), fr_391⟩⟩

theorem cp_cork00 {h : List ik_E} {ka : Int} {pa : Int} {fa : Int} {kb : Int} {pb : Int} {fb : Int} {xa : Int} {xb : Int} {mi : Int} {dr : Int} {v : Int} {pl : Int} {st : Int} {lo : Int} (q0 : 0 ≤ fa ∧ fa ≤ 30) (q1 : 0 ≤ fb ∧ fb ≤ 30) (q2 : 0 ≤ pl ∧ pl ≤ 12) (q3 : -2147483648 ≤ v ∧ v < 2147483648) (h0 : cE h 0 (.inr (9, [.ref 1, .ref 7, .ref 14, .ref 17, .ref 45, .ref 51, .ref 54, .ref 57]))) (h7 : cE h 7 (.inr (0, [fI pl, fI st, fI lo, .ref 8, .ref 9, .ref 10, .ref 11, .ref 12, .ref 13]))) (h14 : cE h 14 (.inr (1, [.ref 7, .ref 15, .ref 16, fI mi, fJ dr]))) (h15 : cE h 15 (.inl (.int, fA [ka, pa, fa, kb, pb, fb]))) (h16 : cE h 16 (.inl (.int, fA [xa, xb]))) (hl : h.length = 94) : ik_F 95 [.ref 0, fI 0, fI 0, fI v] h (fun rv h_q => (rv = [fI ka] ∧ cE h_q 14 (.inr (1, [.ref 7, .ref 15, .ref 16, fI 0, fJ dr])) ∧ cE h_q 15 (.inl (.int, fA [v, pa, fa, kb, pb, fb])) ∧ cE h_q 16 (.inl (.int, fA [mx_sp pa fa, mx_sp pb fb])) ∧ ((0 ≤ v ∧ v ≤ 2) ∧ 1 < pl) ∧ hfr [14, 15, 16] h h_q) ∨ (rv = [fI (if 0 ≤ v ∧ v ≤ 2 then -1000000003 else -1000000001)] ∧ cE h_q 14 (.inr (1, [.ref 7, .ref 15, .ref 16, fI mi, fJ dr])) ∧ cE h_q 15 (.inl (.int, fA [ka, pa, fa, kb, pb, fb])) ∧ cE h_q 16 (.inl (.int, fA [xa, xb])) ∧ (¬ ((0 ≤ v ∧ v ≤ 2) ∧ 1 < pl)) ∧ hfr [14, 15, 16] h h_q)) := by
  refine ik_Wk 1 (pc_q := 1) (loc_q := [some (.ref 0), some (fI 0), some (fI 0), some (fI v), none]) (st_q := [fI 0]) (h_q := h) (cl_q := 0) (sl_q := 0) rfl ?_
  refine ik_Wc 121 1 3 [fI 0] [] rfl rfl rfl (by decide +kernel) rfl rfl (fw_sta hl rfl (by decide +kernel)) ?_
  refine ik_Wk 0 (pc_q := 0) (loc_q := [some (fI 0)]) (st_q := []) (h_q := h) (cl_q := 0) (sl_q := 0) rfl ?_
  refine ik_Wk 1 (pc_q := 1) (loc_q := [some (fI 0)]) (st_q := [fI 0]) (h_q := h) (cl_q := 0) (sl_q := 0) rfl ?_
  refine fw_if_eq rfl rfl (by decide +kernel) (by decide +kernel) (fun hc1 => ?_) (fun hc1 => absurd hc1 (by decide +kernel))
  refine ik_Wk 2 (pc_q := 14) (loc_q := [some (fI 0)]) (st_q := [fI 1]) (h_q := h) (cl_q := 0) (sl_q := 0) rfl ?_
  refine ik_Wret rfl rfl ⟨_, _, rfl, rfl, ?_⟩
  refine ik_Wk 0 (pc_q := 4) (loc_q := [some (.ref 0), some (fI 0), some (fI 0), some (fI v), none]) (st_q := [fI 1]) (h_q := h) (cl_q := 0) (sl_q := 0) rfl ?_
  refine fw_if_eq rfl rfl (by decide +kernel) (by decide +kernel) (fun hc2 => absurd hc2 (by decide +kernel)) (fun hc2 => ?_)
  refine ik_Wk 1 (pc_q := 8) (loc_q := [some (.ref 0), some (fI 0), some (fI 0), some (fI v), none]) (st_q := [fI 0]) (h_q := h) (cl_q := 0) (sl_q := 0) rfl ?_
  refine fw_if_ne rfl rfl (by decide +kernel) (by decide +kernel) (fun hc3 => ?_) (fun hc3 => absurd hc3 (by decide +kernel))
  refine ik_Wk 1 (pc_q := 12) (loc_q := [some (.ref 0), some (fI 0), some (fI 0), some (fI v), none]) (st_q := [fI v]) (h_q := h) (cl_q := 0) (sl_q := 0) rfl ?_
  refine ik_Wc 122 1 3 [fI v] [] rfl rfl rfl (by decide +kernel) rfl rfl (fw_sta hl rfl (by decide +kernel)) ?_
  refine ik_Wk 0 (pc_q := 0) (loc_q := [some (fI v)]) (st_q := []) (h_q := h) (cl_q := 0) (sl_q := 0) rfl ?_
  refine ik_Wk 1 (pc_q := 1) (loc_q := [some (fI v)]) (st_q := [fI v]) (h_q := h) (cl_q := 0) (sl_q := 0) rfl ?_
  refine fw_if_lt rfl rfl (by omega) (by omega) (fun hc4 => ?_) (fun hc4 => ?_)
  · refine ik_Wk 1 (pc_q := 14) (loc_q := [some (fI v)]) (st_q := [fI 0]) (h_q := h) (cl_q := 0) (sl_q := 0) rfl ?_
    refine ik_Wret rfl rfl ⟨_, _, rfl, rfl, ?_⟩
    refine ik_Wk 0 (pc_q := 15) (loc_q := [some (.ref 0), some (fI 0), some (fI 0), some (fI v), none]) (st_q := [fI 0]) (h_q := h) (cl_q := 0) (sl_q := 0) rfl ?_
    refine fw_if_eq rfl rfl (by decide +kernel) (by decide +kernel) (fun hc5 => ?_) (fun hc5 => absurd hc5 (by decide +kernel))
    refine fw_ld (-1000000001) rfl rfl (by decide +kernel) ?_
    exact ik_Wret rfl rfl ⟨_, _, rfl, rfl, rfl, rfl, Or.inr ⟨(congrArg (fun z => [fI z]) (by (repeat' split) <;> first | rfl | omega)), h14, h15, h16, (by omega), (hfr_refl [14, 15, 16] h)⟩⟩
  · refine ik_Wk 2 (pc_q := 6) (loc_q := [some (fI v)]) (st_q := [fI 2, fI v]) (h_q := h) (cl_q := 0) (sl_q := 0) rfl ?_
    refine fw_ic_gt rfl rfl (by omega) (by omega) (by omega) (by omega) (fun hc6 => ?_) (fun hc6 => ?_)
    · refine ik_Wk 1 (pc_q := 14) (loc_q := [some (fI v)]) (st_q := [fI 0]) (h_q := h) (cl_q := 0) (sl_q := 0) rfl ?_
      refine ik_Wret rfl rfl ⟨_, _, rfl, rfl, ?_⟩
      refine ik_Wk 0 (pc_q := 15) (loc_q := [some (.ref 0), some (fI 0), some (fI 0), some (fI v), none]) (st_q := [fI 0]) (h_q := h) (cl_q := 0) (sl_q := 0) rfl ?_
      refine fw_if_eq rfl rfl (by decide +kernel) (by decide +kernel) (fun hc7 => ?_) (fun hc7 => absurd hc7 (by decide +kernel))
      refine fw_ld (-1000000001) rfl rfl (by decide +kernel) ?_
      exact ik_Wret rfl rfl ⟨_, _, rfl, rfl, rfl, rfl, Or.inr ⟨(congrArg (fun z => [fI z]) (by (repeat' split) <;> first | rfl | omega)), h14, h15, h16, (by omega), (hfr_refl [14, 15, 16] h)⟩⟩
    · refine ik_Wk 2 (pc_q := 14) (loc_q := [some (fI v)]) (st_q := [fI 1]) (h_q := h) (cl_q := 0) (sl_q := 0) rfl ?_
      refine ik_Wret rfl rfl ⟨_, _, rfl, rfl, ?_⟩
      refine ik_Wk 0 (pc_q := 15) (loc_q := [some (.ref 0), some (fI 0), some (fI 0), some (fI v), none]) (st_q := [fI 1]) (h_q := h) (cl_q := 0) (sl_q := 0) rfl ?_
      refine fw_if_eq rfl rfl (by decide +kernel) (by decide +kernel) (fun hc8 => absurd hc8 (by decide +kernel)) (fun hc8 => ?_)
      refine ik_Wk 2 (pc_q := 20) (loc_q := [some (.ref 0), some (fI 0), some (fI 0), some (fI v), none]) (st_q := [fI 1, fI 0]) (h_q := h) (cl_q := 0) (sl_q := 0) rfl ?_
      refine fw_ic_ne rfl rfl (by decide +kernel) (by decide +kernel) (by decide +kernel) (by decide +kernel) (fun hc9 => absurd hc9 (by decide +kernel)) (fun hc9 => ?_)
      refine ik_Wk 1 (pc_q := 38) (loc_q := [some (.ref 0), some (fI 0), some (fI 0), some (fI v), none]) (st_q := [fI 0]) (h_q := h) (cl_q := 0) (sl_q := 0) rfl ?_
      refine fw_if_lt rfl rfl (by decide +kernel) (by decide +kernel) (fun hc10 => absurd hc10 (by decide +kernel)) (fun hc10 => ?_)
      refine ik_Wk 2 (pc_q := 43) (loc_q := [some (.ref 0), some (fI 0), some (fI 0), some (fI v), none]) (st_q := [fI 2, fI 0]) (h_q := h) (cl_q := 0) (sl_q := 0) rfl ?_
      refine fw_ic_gt rfl rfl (by decide +kernel) (by decide +kernel) (by decide +kernel) (by decide +kernel) (fun hc11 => absurd hc11 (by decide +kernel)) (fun hc11 => ?_)
      refine ik_Wk 2 (pc_q := 48) (loc_q := [some (.ref 0), some (fI 0), some (fI 0), some (fI v), none]) (st_q := [fI 2, fI 0]) (h_q := h) (cl_q := 0) (sl_q := 0) rfl ?_
      refine fw_ic_ne rfl rfl (by decide +kernel) (by decide +kernel) (by decide +kernel) (by decide +kernel) (fun hc12 => absurd hc12 (by decide +kernel)) (fun hc12 => ?_)
      refine ik_Wk 1 (pc_q := 65) (loc_q := [some (.ref 0), some (fI 0), some (fI 0), some (fI v), none]) (st_q := [.ref 0]) (h_q := h) (cl_q := 0) (sl_q := 0) rfl ?_
      refine fw_gf rfl rfl h0 rfl ?_
      refine ik_Wc 7 1 0 [.ref 7] [] rfl rfl rfl (by decide +kernel) rfl rfl (fw_rec hl rfl h7 rfl (Nat.le_of_ble_eq_true rfl)) ?_
      refine ik_Wk 0 (pc_q := 0) (loc_q := [some (.ref 7)]) (st_q := []) (h_q := h) (cl_q := 0) (sl_q := 0) rfl ?_
      refine ik_Wk 1 (pc_q := 1) (loc_q := [some (.ref 7)]) (st_q := [.ref 7]) (h_q := h) (cl_q := 0) (sl_q := 0) rfl ?_
      refine fw_gf rfl rfl h7 rfl ?_
      refine ik_Wk 1 (pc_q := 5) (loc_q := [some (.ref 7)]) (st_q := [fI 1, fI pl]) (h_q := h) (cl_q := 0) (sl_q := 0) rfl ?_
      refine fw_ic_le rfl rfl (by omega) (by omega) (by omega) (by omega) (fun hc13 => ?_) (fun hc13 => ?_)
      · refine ik_Wk 1 (pc_q := 13) (loc_q := [some (.ref 7)]) (st_q := [fI 0]) (h_q := h) (cl_q := 0) (sl_q := 0) rfl ?_
        refine ik_Wret rfl rfl ⟨_, _, rfl, rfl, ?_⟩
        refine ik_Wk 0 (pc_q := 71) (loc_q := [some (.ref 0), some (fI 0), some (fI 0), some (fI v), none]) (st_q := [fI 0]) (h_q := h) (cl_q := 0) (sl_q := 0) rfl ?_
        refine fw_if_ne rfl rfl (by decide +kernel) (by decide +kernel) (fun hc14 => ?_) (fun hc14 => absurd hc14 (by decide +kernel))
        refine fw_ld (-1000000003) rfl rfl (by decide +kernel) ?_
        exact ik_Wret rfl rfl ⟨_, _, rfl, rfl, rfl, rfl, Or.inr ⟨(congrArg (fun z => [fI z]) (by (repeat' split) <;> first | rfl | omega)), h14, h15, h16, (by omega), (hfr_refl [14, 15, 16] h)⟩⟩
      · refine ik_Wk 2 (pc_q := 13) (loc_q := [some (.ref 7)]) (st_q := [fI 1]) (h_q := h) (cl_q := 0) (sl_q := 0) rfl ?_
        refine ik_Wret rfl rfl ⟨_, _, rfl, rfl, ?_⟩
        refine ik_Wk 0 (pc_q := 71) (loc_q := [some (.ref 0), some (fI 0), some (fI 0), some (fI v), none]) (st_q := [fI 1]) (h_q := h) (cl_q := 0) (sl_q := 0) rfl ?_
        refine fw_if_ne rfl rfl (by decide +kernel) (by decide +kernel) (fun hc15 => absurd hc15 (by decide +kernel)) (fun hc15 => ?_)
        refine ik_Wk 1 (pc_q := 78) (loc_q := [some (.ref 0), some (fI 0), some (fI 0), some (fI v), none]) (st_q := [.ref 0]) (h_q := h) (cl_q := 0) (sl_q := 0) rfl ?_
        refine fw_gf rfl rfl h0 rfl ?_
        refine fw_gf rfl rfl h14 rfl ?_
        refine ik_Wk 2 (pc_q := 86) (loc_q := [some (.ref 0), some (fI 0), some (fI 0), some (fI v), none]) (st_q := [fI 3, fI 0, .ref 15]) (h_q := h) (cl_q := 0) (sl_q := 0) rfl ?_
        refine fw_mul rfl ?_
        refine ik_Wk 1 (pc_q := 88) (loc_q := [some (.ref 0), some (fI 0), some (fI 0), some (fI v), none]) (st_q := [fI 0, fI 0, .ref 15]) (h_q := h) (cl_q := 0) (sl_q := 0) rfl ?_
        refine fw_add rfl ?_
        refine fw_ial (z := 0) rfl h15 (by decide +kernel) (Nat.le_of_ble_eq_true rfl) (by decide +kernel) ?_
        refine ik_Wk 0 (pc_q := 90) (loc_q := [some (.ref 0), some (fI 0), some (fI 0), some (fI v), none]) (st_q := [fI ka]) (h_q := h) (cl_q := 0) (sl_q := 0) rfl ?_
        refine ik_Wk 2 (pc_q := 93) (loc_q := [some (.ref 0), some (fI 0), some (fI 0), some (fI v), some (fI ka)]) (st_q := [.ref 0]) (h_q := h) (cl_q := 0) (sl_q := 0) rfl ?_
        refine fw_gf rfl rfl h0 rfl ?_
        refine fw_gf rfl rfl h14 rfl ?_
        refine ik_Wk 2 (pc_q := 101) (loc_q := [some (.ref 0), some (fI 0), some (fI 0), some (fI v), some (fI ka)]) (st_q := [fI 3, fI 0, .ref 15]) (h_q := h) (cl_q := 0) (sl_q := 0) rfl ?_
        refine fw_mul rfl ?_
        refine ik_Wk 1 (pc_q := 103) (loc_q := [some (.ref 0), some (fI 0), some (fI 0), some (fI v), some (fI ka)]) (st_q := [fI 0, fI 0, .ref 15]) (h_q := h) (cl_q := 0) (sl_q := 0) rfl ?_
        refine fw_add rfl ?_
        refine ik_Wk 1 (pc_q := 105) (loc_q := [some (.ref 0), some (fI 0), some (fI 0), some (fI v), some (fI ka)]) (st_q := [fI v, fI 0, .ref 15]) (h_q := h) (cl_q := 0) (sl_q := 0) rfl ?_
        refine fx_ias (z := 0) rfl h15 (by decide +kernel) (Nat.le_of_ble_eq_true rfl) (by decide +kernel) ?_
        intro h_395 e_395 f_395 l_395
        have k_395 : cL h_395 := l_395.trans hl
        have fr_395 := hfr_wb (hfr_refl [14, 15, 16] h) f_395 l_395 rfl
        clear l_395
        have g_395_0 := (f_395 0 (Nat.ne_of_beq_eq_false rfl)).trans h0
        have g_395_7 := (f_395 7 (Nat.ne_of_beq_eq_false rfl)).trans h7
        have g_395_14 := (f_395 14 (Nat.ne_of_beq_eq_false rfl)).trans h14
        have g_395_16 := (f_395 16 (Nat.ne_of_beq_eq_false rfl)).trans h16
        have g_395_15 : cE h_395 15 (.inl (.int, fA [v, pa, fa, kb, pb, fb])) := e_395
        refine ik_Wk 1 (pc_q := 107) (loc_q := [some (.ref 0), some (fI 0), some (fI 0), some (fI v), some (fI ka)]) (st_q := [.ref 0]) (h_q := h_395) (cl_q := 0) (sl_q := 0) rfl ?_
        refine fw_gf rfl rfl g_395_0 rfl ?_
        refine fw_call 23 1 0 [.ref 14] [] rfl rfl rfl (Nat.le_of_ble_eq_true rfl) rfl rfl (fw_rec k_395 rfl g_395_14 rfl (Nat.le_of_ble_eq_true rfl)) (cs_restart (mi := mi) (ka := v) (pa := pa) (fa := fa) (kb := kb) (pb := pb) (fb := fb) (xa := xa) (xb := xb) (sd := dr) (by omega) (by omega) g_395_14 g_395_15 g_395_16 k_395) ?_
        rintro _ h_396 ⟨rfl, e_396_14, e_396_16, F_396⟩
        have k_396 : cL h_396 := F_396.1.trans k_395
        have fr_396 := hfr_cb fr_395 F_396 rfl
        have g_396_0 := (hfr_g F_396 0 rfl).trans g_395_0
        have g_396_7 := (hfr_g F_396 7 rfl).trans g_395_7
        have g_396_15 := (hfr_g F_396 15 rfl).trans g_395_15
        have g_396_14 : cE h_396 14 (.inr (1, [.ref 7, .ref 15, .ref 16, fI 0, fJ dr])) := e_396_14
        have g_396_16 : cE h_396 16 (.inl (.int, fA [mx_sp pa fa, mx_sp pb fb])) := e_396_16
        refine ik_Wk 0 (pc_q := 113) (loc_q := [some (.ref 0), some (fI 0), some (fI 0), some (fI v), some (fI ka)]) (st_q := []) (h_q := h_396) (cl_q := 0) (sl_q := 0) rfl ?_
        refine ik_Wk 1 (pc_q := 115) (loc_q := [some (.ref 0), some (fI 0), some (fI 0), some (fI v), some (fI ka)]) (st_q := [fI ka]) (h_q := h_396) (cl_q := 0) (sl_q := 0) rfl ?_
        exact ik_Wret rfl rfl ⟨_, _, rfl, rfl, rfl, rfl, Or.inl ⟨rfl, g_396_14, g_396_15, g_396_16, (by omega), fr_396⟩⟩

theorem rp_cork00 {h : List ik_E} {ka : Int} {pa : Int} {fa : Int} {kb : Int} {pb : Int} {fb : Int} {xa : Int} {xb : Int} {mi : Int} {v : Int} {pl : Int} {f : Nat → Int} (q0 : 0 ≤ fa ∧ fa ≤ 30) (q1 : 0 ≤ fb ∧ fb ≤ 30) (q2 : 0 ≤ pl ∧ pl ≤ 12) (q3 : -2147483648 ≤ v ∧ v < 2147483648) (h66 : cE h 66 (.inr (10, (fI pl :: .ref 67 :: .ref 68 :: .ref 69 :: fI (f 4) :: .ref 70 :: .ref 71 :: fI mi :: fI (f 8) :: .ref 72 :: fI (f 10) :: fI (f 11) :: fI (f 12) :: fJ (f 13) :: fI (f 14) :: fI (f 15) :: fI (f 16) :: fI (f 17) :: .ref 73 :: .ref 74 :: .ref 75 :: .ref 76 :: .ref 77 :: .ref 78 :: fI (f 24) :: .ref 79 :: .ref 80 :: .ref 81 :: .ref 82 :: .ref 83 :: .ref 84 :: .ref 85 :: fJ (f 32) :: fJ (f 33) :: .ref 86 :: .ref 87 :: fI (f 36) :: .ref 88 :: .ref 89 :: .ref 90 :: .ref 91 :: .ref 92 :: .ref 93 :: [])))) (h70 : cE h 70 (.inl (.int, fA [ka, pa, fa, kb, pb, fb]))) (h71 : cE h 71 (.inl (.int, fA [xa, xb]))) (hl : h.length = 94) : ik_F 158 [.ref 66, fI 0, fI 0, fI v] h (fun rv h_q => (rv = [fI ka] ∧ cE h_q 66 (.inr (10, (fI pl :: .ref 67 :: .ref 68 :: .ref 69 :: fI (f 4) :: .ref 70 :: .ref 71 :: fI 0 :: fI (f 8) :: .ref 72 :: fI (f 10) :: fI (f 11) :: fI (f 12) :: fJ (f 13) :: fI (f 14) :: fI (f 15) :: fI (f 16) :: fI (f 17) :: .ref 73 :: .ref 74 :: .ref 75 :: .ref 76 :: .ref 77 :: .ref 78 :: fI (f 24) :: .ref 79 :: .ref 80 :: .ref 81 :: .ref 82 :: .ref 83 :: .ref 84 :: .ref 85 :: fJ (f 32) :: fJ (f 33) :: .ref 86 :: .ref 87 :: fI (f 36) :: .ref 88 :: .ref 89 :: .ref 90 :: .ref 91 :: .ref 92 :: .ref 93 :: []))) ∧ cE h_q 70 (.inl (.int, fA [v, pa, fa, kb, pb, fb])) ∧ cE h_q 71 (.inl (.int, fA [mx_sp pa fa, mx_sp pb fb])) ∧ ((0 ≤ v ∧ v ≤ 2) ∧ 1 < pl) ∧ hfr [66, 70, 71] h h_q) ∨ (rv = [fI (if 0 ≤ v ∧ v ≤ 2 then -1000000003 else -1000000001)] ∧ cE h_q 66 (.inr (10, (fI pl :: .ref 67 :: .ref 68 :: .ref 69 :: fI (f 4) :: .ref 70 :: .ref 71 :: fI mi :: fI (f 8) :: .ref 72 :: fI (f 10) :: fI (f 11) :: fI (f 12) :: fJ (f 13) :: fI (f 14) :: fI (f 15) :: fI (f 16) :: fI (f 17) :: .ref 73 :: .ref 74 :: .ref 75 :: .ref 76 :: .ref 77 :: .ref 78 :: fI (f 24) :: .ref 79 :: .ref 80 :: .ref 81 :: .ref 82 :: .ref 83 :: .ref 84 :: .ref 85 :: fJ (f 32) :: fJ (f 33) :: .ref 86 :: .ref 87 :: fI (f 36) :: .ref 88 :: .ref 89 :: .ref 90 :: .ref 91 :: .ref 92 :: .ref 93 :: []))) ∧ cE h_q 70 (.inl (.int, fA [ka, pa, fa, kb, pb, fb])) ∧ cE h_q 71 (.inl (.int, fA [xa, xb])) ∧ (¬ ((0 ≤ v ∧ v ≤ 2) ∧ 1 < pl)) ∧ hfr [66, 70, 71] h h_q)) := by
  refine ik_Wk 1 (pc_q := 1) (loc_q := [some (.ref 66), some (fI 0), some (fI 0), some (fI v), none]) (st_q := [fI 0]) (h_q := h) (cl_q := 0) (sl_q := 0) rfl ?_
  refine ik_Wc 132 1 3 [fI 0] [] rfl rfl rfl (by decide +kernel) rfl rfl (fw_sta hl rfl (by decide +kernel)) ?_
  refine ik_Wk 0 (pc_q := 0) (loc_q := [some (fI 0)]) (st_q := []) (h_q := h) (cl_q := 0) (sl_q := 0) rfl ?_
  refine ik_Wk 1 (pc_q := 1) (loc_q := [some (fI 0)]) (st_q := [fI 0]) (h_q := h) (cl_q := 0) (sl_q := 0) rfl ?_
  refine fw_i2l rfl (by omega) (by omega) ?_
  refine fw_lc (z := 0) rfl (by decide +kernel) ?_
  refine fw_lc (z := 1) rfl (by decide +kernel) ?_
  refine fw_call 127 3 3 [fJ 0, fJ 0, fJ 1] [] rfl rfl rfl (Nat.le_of_ble_eq_true rfl) rfl rfl (fw_sta hl rfl (by decide +kernel)) (cr_in (v := 0) (a := 0) (b := 1) (by omega) (by omega) (by omega)  hl) ?_
  rintro _ h_397 (⟨rfl, p_397_0, F_397⟩ | ⟨rfl, p_397_0, F_397⟩)
  · have k_397 : cL h_397 := F_397.1.trans hl
    have fr_397 := hfr_cb (hfr_refl [66, 70, 71] h) F_397 rfl
    have g_397_66 := (hfr_g F_397 66 rfl).trans h66
    have g_397_70 := (hfr_g F_397 70 rfl).trans h70
    have g_397_71 := (hfr_g F_397 71 rfl).trans h71
    refine ik_Wk 0 (pc_q := 7) (loc_q := [some (fI 0)]) (st_q := [fI 1]) (h_q := h_397) (cl_q := 0) (sl_q := 0) rfl ?_
    refine ik_Wret rfl rfl ⟨_, _, rfl, rfl, ?_⟩
    refine ik_Wk 0 (pc_q := 4) (loc_q := [some (.ref 66), some (fI 0), some (fI 0), some (fI v), none]) (st_q := [fI 1]) (h_q := h_397) (cl_q := 0) (sl_q := 0) rfl ?_
    refine fw_if_ne rfl rfl (by decide +kernel) (by decide +kernel) (fun hc1 => absurd hc1 (by decide +kernel)) (fun hc1 => ?_)
    refine ik_Wk 1 (pc_q := 11) (loc_q := [some (.ref 66), some (fI 0), some (fI 0), some (fI v), none]) (st_q := [fI 0]) (h_q := h_397) (cl_q := 0) (sl_q := 0) rfl ?_
    refine fw_if_ne rfl rfl (by decide +kernel) (by decide +kernel) (fun hc2 => ?_) (fun hc2 => absurd hc2 (by decide +kernel))
    refine ik_Wk 1 (pc_q := 15) (loc_q := [some (.ref 66), some (fI 0), some (fI 0), some (fI v), none]) (st_q := [fI v]) (h_q := h_397) (cl_q := 0) (sl_q := 0) rfl ?_
    refine ik_Wc 133 1 3 [fI v] [] rfl rfl rfl (by decide +kernel) rfl rfl (fw_sta k_397 rfl (by decide +kernel)) ?_
    refine ik_Wk 0 (pc_q := 0) (loc_q := [some (fI v)]) (st_q := []) (h_q := h_397) (cl_q := 0) (sl_q := 0) rfl ?_
    refine ik_Wk 1 (pc_q := 1) (loc_q := [some (fI v)]) (st_q := [fI v]) (h_q := h_397) (cl_q := 0) (sl_q := 0) rfl ?_
    refine fw_i2l rfl (by omega) (by omega) ?_
    refine fw_lc (z := 0) rfl (by decide +kernel) ?_
    refine fw_l2 2 rfl rfl (by decide +kernel) ?_
    refine fw_call 127 3 3 [fJ v, fJ 0, fJ 2] [] rfl rfl rfl (Nat.le_of_ble_eq_true rfl) rfl rfl (fw_sta k_397 rfl (by decide +kernel)) (cr_in (v := v) (a := 0) (b := 2) (by omega) (by omega) (by omega)  k_397) ?_
    rintro _ h_398 (⟨rfl, p_398_0, F_398⟩ | ⟨rfl, p_398_0, F_398⟩)
    · have k_398 : cL h_398 := F_398.1.trans k_397
      have fr_398 := hfr_cb fr_397 F_398 rfl
      have g_398_66 := (hfr_g F_398 66 rfl).trans g_397_66
      have g_398_70 := (hfr_g F_398 70 rfl).trans g_397_70
      have g_398_71 := (hfr_g F_398 71 rfl).trans g_397_71
      refine ik_Wk 0 (pc_q := 9) (loc_q := [some (fI v)]) (st_q := [fI 1]) (h_q := h_398) (cl_q := 0) (sl_q := 0) rfl ?_
      refine ik_Wret rfl rfl ⟨_, _, rfl, rfl, ?_⟩
      refine ik_Wk 0 (pc_q := 18) (loc_q := [some (.ref 66), some (fI 0), some (fI 0), some (fI v), none]) (st_q := [fI 1]) (h_q := h_398) (cl_q := 0) (sl_q := 0) rfl ?_
      refine fw_if_eq rfl rfl (by decide +kernel) (by decide +kernel) (fun hc3 => absurd hc3 (by decide +kernel)) (fun hc3 => ?_)
      refine ik_Wk 2 (pc_q := 23) (loc_q := [some (.ref 66), some (fI 0), some (fI 0), some (fI v), none]) (st_q := [fI 1, fI 0]) (h_q := h_398) (cl_q := 0) (sl_q := 0) rfl ?_
      refine fw_ic_ne rfl rfl (by decide +kernel) (by decide +kernel) (by decide +kernel) (by decide +kernel) (fun hc4 => absurd hc4 (by decide +kernel)) (fun hc4 => ?_)
      refine ik_Wk 1 (pc_q := 38) (loc_q := [some (.ref 66), some (fI 0), some (fI 0), some (fI v), none]) (st_q := [fI 0]) (h_q := h_398) (cl_q := 0) (sl_q := 0) rfl ?_
      refine fw_i2l rfl (by omega) (by omega) ?_
      refine fw_lc (z := 0) rfl (by decide +kernel) ?_
      refine fw_l2 2 rfl rfl (by decide +kernel) ?_
      refine fw_call 127 3 3 [fJ 0, fJ 0, fJ 2] [] rfl rfl rfl (Nat.le_of_ble_eq_true rfl) rfl rfl (fw_sta k_398 rfl (by decide +kernel)) (cr_in (v := 0) (a := 0) (b := 2) (by omega) (by omega) (by omega)  k_398) ?_
      rintro _ h_399 (⟨rfl, p_399_0, F_399⟩ | ⟨rfl, p_399_0, F_399⟩)
      · have k_399 : cL h_399 := F_399.1.trans k_398
        have fr_399 := hfr_cb fr_398 F_399 rfl
        have g_399_66 := (hfr_g F_399 66 rfl).trans g_398_66
        have g_399_70 := (hfr_g F_399 70 rfl).trans g_398_70
        have g_399_71 := (hfr_g F_399 71 rfl).trans g_398_71
        refine ik_Wk 0 (pc_q := 46) (loc_q := [some (.ref 66), some (fI 0), some (fI 0), some (fI v), none]) (st_q := [fI 1]) (h_q := h_399) (cl_q := 0) (sl_q := 0) rfl ?_
        refine fw_if_eq rfl rfl (by decide +kernel) (by decide +kernel) (fun hc5 => absurd hc5 (by decide +kernel)) (fun hc5 => ?_)
        refine ik_Wk 2 (pc_q := 51) (loc_q := [some (.ref 66), some (fI 0), some (fI 0), some (fI v), none]) (st_q := [fI 2, fI 0]) (h_q := h_399) (cl_q := 0) (sl_q := 0) rfl ?_
        refine fw_ic_ne rfl rfl (by decide +kernel) (by decide +kernel) (by decide +kernel) (by decide +kernel) (fun hc6 => absurd hc6 (by decide +kernel)) (fun hc6 => ?_)
        refine ik_Wk 1 (pc_q := 70) (loc_q := [some (.ref 66), some (fI 0), some (fI 0), some (fI v), none]) (st_q := [.ref 66]) (h_q := h_399) (cl_q := 0) (sl_q := 0) rfl ?_
        refine ik_Wc 134 1 0 [.ref 66] [] rfl rfl rfl (by decide +kernel) rfl rfl (fw_rec k_399 rfl g_399_66 rfl (Nat.le_of_ble_eq_true rfl)) ?_
        refine ik_Wk 0 (pc_q := 0) (loc_q := [some (.ref 66)]) (st_q := []) (h_q := h_399) (cl_q := 0) (sl_q := 0) rfl ?_
        refine ik_Wk 1 (pc_q := 1) (loc_q := [some (.ref 66)]) (st_q := [.ref 66]) (h_q := h_399) (cl_q := 0) (sl_q := 0) rfl ?_
        refine fw_gf rfl rfl g_399_66 rfl ?_
        refine ik_Wk 1 (pc_q := 5) (loc_q := [some (.ref 66)]) (st_q := [fI 1, fI pl]) (h_q := h_399) (cl_q := 0) (sl_q := 0) rfl ?_
        refine fw_ic_le rfl rfl (by omega) (by omega) (by omega) (by omega) (fun hc7 => ?_) (fun hc7 => ?_)
        · refine ik_Wk 1 (pc_q := 13) (loc_q := [some (.ref 66)]) (st_q := [fI 0]) (h_q := h_399) (cl_q := 0) (sl_q := 0) rfl ?_
          refine ik_Wret rfl rfl ⟨_, _, rfl, rfl, ?_⟩
          refine ik_Wk 0 (pc_q := 73) (loc_q := [some (.ref 66), some (fI 0), some (fI 0), some (fI v), none]) (st_q := [fI 0]) (h_q := h_399) (cl_q := 0) (sl_q := 0) rfl ?_
          refine fw_if_ne rfl rfl (by decide +kernel) (by decide +kernel) (fun hc8 => ?_) (fun hc8 => absurd hc8 (by decide +kernel))
          refine fw_ld (-1000000003) rfl rfl (by decide +kernel) ?_
          exact ik_Wret rfl rfl ⟨_, _, rfl, rfl, rfl, rfl, Or.inr ⟨(congrArg (fun z => [fI z]) (by (repeat' split) <;> first | rfl | omega)), g_399_66, g_399_70, g_399_71, (by omega), fr_399⟩⟩
        · refine ik_Wk 2 (pc_q := 13) (loc_q := [some (.ref 66)]) (st_q := [fI 1]) (h_q := h_399) (cl_q := 0) (sl_q := 0) rfl ?_
          refine ik_Wret rfl rfl ⟨_, _, rfl, rfl, ?_⟩
          refine ik_Wk 0 (pc_q := 73) (loc_q := [some (.ref 66), some (fI 0), some (fI 0), some (fI v), none]) (st_q := [fI 1]) (h_q := h_399) (cl_q := 0) (sl_q := 0) rfl ?_
          refine fw_if_ne rfl rfl (by decide +kernel) (by decide +kernel) (fun hc9 => absurd hc9 (by decide +kernel)) (fun hc9 => ?_)
          refine ik_Wk 1 (pc_q := 80) (loc_q := [some (.ref 66), some (fI 0), some (fI 0), some (fI v), none]) (st_q := [.ref 66]) (h_q := h_399) (cl_q := 0) (sl_q := 0) rfl ?_
          refine fw_gf rfl rfl g_399_66 rfl ?_
          refine ik_Wk 2 (pc_q := 85) (loc_q := [some (.ref 66), some (fI 0), some (fI 0), some (fI v), none]) (st_q := [fI 0, fI 3, .ref 70]) (h_q := h_399) (cl_q := 0) (sl_q := 0) rfl ?_
          refine fw_mul rfl ?_
          refine ik_Wk 1 (pc_q := 87) (loc_q := [some (.ref 66), some (fI 0), some (fI 0), some (fI v), none]) (st_q := [fI 0, fI 0, .ref 70]) (h_q := h_399) (cl_q := 0) (sl_q := 0) rfl ?_
          refine fw_add rfl ?_
          refine fw_ial (z := 0) rfl g_399_70 (by decide +kernel) (Nat.le_of_ble_eq_true rfl) (by decide +kernel) ?_
          refine ik_Wk 0 (pc_q := 89) (loc_q := [some (.ref 66), some (fI 0), some (fI 0), some (fI v), none]) (st_q := [fI ka]) (h_q := h_399) (cl_q := 0) (sl_q := 0) rfl ?_
          refine ik_Wk 2 (pc_q := 92) (loc_q := [some (.ref 66), some (fI 0), some (fI 0), some (fI v), some (fI ka)]) (st_q := [.ref 66]) (h_q := h_399) (cl_q := 0) (sl_q := 0) rfl ?_
          refine fw_gf rfl rfl g_399_66 rfl ?_
          refine ik_Wk 2 (pc_q := 97) (loc_q := [some (.ref 66), some (fI 0), some (fI 0), some (fI v), some (fI ka)]) (st_q := [fI 0, fI 3, .ref 70]) (h_q := h_399) (cl_q := 0) (sl_q := 0) rfl ?_
          refine fw_mul rfl ?_
          refine ik_Wk 1 (pc_q := 99) (loc_q := [some (.ref 66), some (fI 0), some (fI 0), some (fI v), some (fI ka)]) (st_q := [fI 0, fI 0, .ref 70]) (h_q := h_399) (cl_q := 0) (sl_q := 0) rfl ?_
          refine fw_add rfl ?_
          refine ik_Wk 1 (pc_q := 101) (loc_q := [some (.ref 66), some (fI 0), some (fI 0), some (fI v), some (fI ka)]) (st_q := [fI v, fI 0, .ref 70]) (h_q := h_399) (cl_q := 0) (sl_q := 0) rfl ?_
          refine fx_ias (z := 0) rfl g_399_70 (by decide +kernel) (Nat.le_of_ble_eq_true rfl) (by decide +kernel) ?_
          intro h_400 e_400 f_400 l_400
          have k_400 : cL h_400 := l_400.trans k_399
          have fr_400 := hfr_wb fr_399 f_400 l_400 rfl
          clear l_400
          have g_400_66 := (f_400 66 (Nat.ne_of_beq_eq_false rfl)).trans g_399_66
          have g_400_71 := (f_400 71 (Nat.ne_of_beq_eq_false rfl)).trans g_399_71
          have g_400_70 : cE h_400 70 (.inl (.int, fA [v, pa, fa, kb, pb, fb])) := e_400
          refine ik_Wk 1 (pc_q := 103) (loc_q := [some (.ref 66), some (fI 0), some (fI 0), some (fI v), some (fI ka)]) (st_q := [.ref 66]) (h_q := h_400) (cl_q := 0) (sl_q := 0) rfl ?_
          refine fw_call 194 1 0 [.ref 66] [] rfl rfl rfl (Nat.le_of_ble_eq_true rfl) rfl rfl (fw_rec k_400 rfl g_400_66 rfl (Nat.le_of_ble_eq_true rfl)) (cr_begin (mi := mi) (ka := v) (pa := pa) (fa := fa) (kb := kb) (pb := pb) (fb := fb) (xa := xa) (xb := xb) (f := fun j => ((pl :: 0 :: 0 :: 0 :: f 4 :: 0 :: 0 :: 0 :: f 8 :: 0 :: f 10 :: f 11 :: f 12 :: f 13 :: f 14 :: f 15 :: f 16 :: f 17 :: 0 :: 0 :: 0 :: 0 :: 0 :: 0 :: f 24 :: 0 :: 0 :: 0 :: 0 :: 0 :: 0 :: 0 :: f 32 :: f 33 :: 0 :: 0 :: f 36 :: 0 :: 0 :: 0 :: 0 :: 0 :: 0 :: []) : List Int).getD j 0) (by omega) (by omega) g_400_66 g_400_70 g_400_71 k_400) ?_
          rintro _ h_401 ⟨rfl, e_401_66, e_401_71, F_401⟩
          have k_401 : cL h_401 := F_401.1.trans k_400
          have fr_401 := hfr_cb fr_400 F_401 rfl
          have g_401_70 := (hfr_g F_401 70 rfl).trans g_400_70
          have g_401_66 : cE h_401 66 (.inr (10, (fI pl :: .ref 67 :: .ref 68 :: .ref 69 :: fI (f 4) :: .ref 70 :: .ref 71 :: fI 0 :: fI (f 8) :: .ref 72 :: fI (f 10) :: fI (f 11) :: fI (f 12) :: fJ (f 13) :: fI (f 14) :: fI (f 15) :: fI (f 16) :: fI (f 17) :: .ref 73 :: .ref 74 :: .ref 75 :: .ref 76 :: .ref 77 :: .ref 78 :: fI (f 24) :: .ref 79 :: .ref 80 :: .ref 81 :: .ref 82 :: .ref 83 :: .ref 84 :: .ref 85 :: fJ (f 32) :: fJ (f 33) :: .ref 86 :: .ref 87 :: fI (f 36) :: .ref 88 :: .ref 89 :: .ref 90 :: .ref 91 :: .ref 92 :: .ref 93 :: []))) := e_401_66
          have g_401_71 : cE h_401 71 (.inl (.int, fA [mx_sp pa fa, mx_sp pb fb])) := e_401_71
          refine ik_Wk 0 (pc_q := 106) (loc_q := [some (.ref 66), some (fI 0), some (fI 0), some (fI v), some (fI ka)]) (st_q := []) (h_q := h_401) (cl_q := 0) (sl_q := 0) rfl ?_
          refine ik_Wk 1 (pc_q := 108) (loc_q := [some (.ref 66), some (fI 0), some (fI 0), some (fI v), some (fI ka)]) (st_q := [fI ka]) (h_q := h_401) (cl_q := 0) (sl_q := 0) rfl ?_
          exact ik_Wret rfl rfl ⟨_, _, rfl, rfl, rfl, rfl, Or.inl ⟨rfl, g_401_66, g_401_70, g_401_71, (by omega), fr_401⟩⟩
      · have k_399 : cL h_399 := F_399.1.trans k_398
        have fr_399 := hfr_cb fr_398 F_399 rfl
        have g_399_66 := (hfr_g F_399 66 rfl).trans g_398_66
        have g_399_70 := (hfr_g F_399 70 rfl).trans g_398_70
        have g_399_71 := (hfr_g F_399 71 rfl).trans g_398_71
        refine ik_Wk 0 (pc_q := 46) (loc_q := [some (.ref 66), some (fI 0), some (fI 0), some (fI v), none]) (st_q := [fI 0]) (h_q := h_399) (cl_q := 0) (sl_q := 0) rfl ?_
        refine fw_if_eq rfl rfl (by decide +kernel) (by decide +kernel) (fun hc10 => ?_) (fun hc10 => absurd hc10 (by decide +kernel))
        refine fw_ld (-1000000002) rfl rfl (by decide +kernel) ?_
        exact ik_Wret rfl rfl ⟨_, _, rfl, rfl, rfl, rfl, Or.inr ⟨(congrArg (fun z => [fI z]) (by (repeat' split) <;> first | rfl | omega)), g_399_66, g_399_70, g_399_71, (by omega), fr_399⟩⟩
    · have k_398 : cL h_398 := F_398.1.trans k_397
      have fr_398 := hfr_cb fr_397 F_398 rfl
      have g_398_66 := (hfr_g F_398 66 rfl).trans g_397_66
      have g_398_70 := (hfr_g F_398 70 rfl).trans g_397_70
      have g_398_71 := (hfr_g F_398 71 rfl).trans g_397_71
      refine ik_Wk 0 (pc_q := 9) (loc_q := [some (fI v)]) (st_q := [fI 0]) (h_q := h_398) (cl_q := 0) (sl_q := 0) rfl ?_
      refine ik_Wret rfl rfl ⟨_, _, rfl, rfl, ?_⟩
      refine ik_Wk 0 (pc_q := 18) (loc_q := [some (.ref 66), some (fI 0), some (fI 0), some (fI v), none]) (st_q := [fI 0]) (h_q := h_398) (cl_q := 0) (sl_q := 0) rfl ?_
      refine fw_if_eq rfl rfl (by decide +kernel) (by decide +kernel) (fun hc11 => ?_) (fun hc11 => absurd hc11 (by decide +kernel))
      refine fw_ld (-1000000001) rfl rfl (by decide +kernel) ?_
      exact ik_Wret rfl rfl ⟨_, _, rfl, rfl, rfl, rfl, Or.inr ⟨(congrArg (fun z => [fI z]) (by (repeat' split) <;> first | rfl | omega)), g_398_66, g_398_70, g_398_71, (by omega), fr_398⟩⟩
  · have k_397 : cL h_397 := F_397.1.trans hl
    have fr_397 := hfr_cb (hfr_refl [66, 70, 71] h) F_397 rfl
    have g_397_66 := (hfr_g F_397 66 rfl).trans h66
    have g_397_70 := (hfr_g F_397 70 rfl).trans h70
    have g_397_71 := (hfr_g F_397 71 rfl).trans h71
    refine ik_Wk 0 (pc_q := 7) (loc_q := [some (fI 0)]) (st_q := [fI 0]) (h_q := h_397) (cl_q := 0) (sl_q := 0) rfl ?_
    refine ik_Wret rfl rfl ⟨_, _, rfl, rfl, ?_⟩
    refine ik_Wk 0 (pc_q := 4) (loc_q := [some (.ref 66), some (fI 0), some (fI 0), some (fI v), none]) (st_q := [fI 0]) (h_q := h_397) (cl_q := 0) (sl_q := 0) rfl ?_
    refine fw_if_ne rfl rfl (by decide +kernel) (by decide +kernel) (fun hc12 => ?_) (fun hc12 => absurd hc12 (by decide +kernel))
    refine fw_ld (-1000000001) rfl rfl (by decide +kernel) ?_
    exact ik_Wret rfl rfl ⟨_, _, rfl, rfl, rfl, rfl, Or.inr ⟨(congrArg (fun z => [fI z]) (by (repeat' split) <;> first | rfl | omega)), g_397_66, g_397_70, g_397_71, (by omega), fr_397⟩⟩

theorem cp_cork01 {h : List ik_E} {ka : Int} {pa : Int} {fa : Int} {kb : Int} {pb : Int} {fb : Int} {xa : Int} {xb : Int} {mi : Int} {dr : Int} {v : Int} {pl : Int} {st : Int} {lo : Int} (q0 : 0 ≤ fa ∧ fa ≤ 30) (q1 : 0 ≤ fb ∧ fb ≤ 30) (q2 : 0 ≤ pl ∧ pl ≤ 12) (q3 : -2147483648 ≤ v ∧ v < 2147483648) (h0 : cE h 0 (.inr (9, [.ref 1, .ref 7, .ref 14, .ref 17, .ref 45, .ref 51, .ref 54, .ref 57]))) (h7 : cE h 7 (.inr (0, [fI pl, fI st, fI lo, .ref 8, .ref 9, .ref 10, .ref 11, .ref 12, .ref 13]))) (h14 : cE h 14 (.inr (1, [.ref 7, .ref 15, .ref 16, fI mi, fJ dr]))) (h15 : cE h 15 (.inl (.int, fA [ka, pa, fa, kb, pb, fb]))) (h16 : cE h 16 (.inl (.int, fA [xa, xb]))) (hl : h.length = 94) : ik_F 95 [.ref 0, fI 0, fI 1, fI v] h (fun rv h_q => (rv = [fI pa] ∧ cE h_q 14 (.inr (1, [.ref 7, .ref 15, .ref 16, fI 0, fJ dr])) ∧ cE h_q 15 (.inl (.int, fA [ka, v, fa, kb, pb, fb])) ∧ cE h_q 16 (.inl (.int, fA [mx_sp v fa, mx_sp pb fb])) ∧ (0 ≤ v ∧ v < pl - 1) ∧ hfr [14, 15, 16] h h_q) ∨ (rv = [fI (-1000000001)] ∧ cE h_q 14 (.inr (1, [.ref 7, .ref 15, .ref 16, fI mi, fJ dr])) ∧ cE h_q 15 (.inl (.int, fA [ka, pa, fa, kb, pb, fb])) ∧ cE h_q 16 (.inl (.int, fA [xa, xb])) ∧ (¬ (0 ≤ v ∧ v < pl - 1)) ∧ hfr [14, 15, 16] h h_q)) := by
  refine ik_Wk 1 (pc_q := 1) (loc_q := [some (.ref 0), some (fI 0), some (fI 1), some (fI v), none]) (st_q := [fI 0]) (h_q := h) (cl_q := 0) (sl_q := 0) rfl ?_
  refine ik_Wc 121 1 3 [fI 0] [] rfl rfl rfl (by decide +kernel) rfl rfl (fw_sta hl rfl (by decide +kernel)) ?_
  refine ik_Wk 0 (pc_q := 0) (loc_q := [some (fI 0)]) (st_q := []) (h_q := h) (cl_q := 0) (sl_q := 0) rfl ?_
  refine ik_Wk 1 (pc_q := 1) (loc_q := [some (fI 0)]) (st_q := [fI 0]) (h_q := h) (cl_q := 0) (sl_q := 0) rfl ?_
  refine fw_if_eq rfl rfl (by decide +kernel) (by decide +kernel) (fun hc1 => ?_) (fun hc1 => absurd hc1 (by decide +kernel))
  refine ik_Wk 2 (pc_q := 14) (loc_q := [some (fI 0)]) (st_q := [fI 1]) (h_q := h) (cl_q := 0) (sl_q := 0) rfl ?_
  refine ik_Wret rfl rfl ⟨_, _, rfl, rfl, ?_⟩
  refine ik_Wk 0 (pc_q := 4) (loc_q := [some (.ref 0), some (fI 0), some (fI 1), some (fI v), none]) (st_q := [fI 1]) (h_q := h) (cl_q := 0) (sl_q := 0) rfl ?_
  refine fw_if_eq rfl rfl (by decide +kernel) (by decide +kernel) (fun hc2 => absurd hc2 (by decide +kernel)) (fun hc2 => ?_)
  refine ik_Wk 1 (pc_q := 8) (loc_q := [some (.ref 0), some (fI 0), some (fI 1), some (fI v), none]) (st_q := [fI 1]) (h_q := h) (cl_q := 0) (sl_q := 0) rfl ?_
  refine fw_if_ne rfl rfl (by decide +kernel) (by decide +kernel) (fun hc3 => absurd hc3 (by decide +kernel)) (fun hc3 => ?_)
  refine ik_Wk 2 (pc_q := 20) (loc_q := [some (.ref 0), some (fI 0), some (fI 1), some (fI v), none]) (st_q := [fI 1, fI 1]) (h_q := h) (cl_q := 0) (sl_q := 0) rfl ?_
  refine fw_ic_ne rfl rfl (by decide +kernel) (by decide +kernel) (by decide +kernel) (by decide +kernel) (fun hc4 => ?_) (fun hc4 => absurd hc4 (by decide +kernel))
  refine ik_Wk 1 (pc_q := 24) (loc_q := [some (.ref 0), some (fI 0), some (fI 1), some (fI v), none]) (st_q := [.ref 0]) (h_q := h) (cl_q := 0) (sl_q := 0) rfl ?_
  refine fw_gf rfl rfl h0 rfl ?_
  refine ik_Wk 1 (pc_q := 28) (loc_q := [some (.ref 0), some (fI 0), some (fI 1), some (fI v), none]) (st_q := [fI v, .ref 7]) (h_q := h) (cl_q := 0) (sl_q := 0) rfl ?_
  refine ik_Wc 4 2 0 [.ref 7, fI v] [] rfl rfl rfl (by decide +kernel) rfl rfl (fw_rec hl rfl h7 rfl (Nat.le_of_ble_eq_true rfl)) ?_
  refine ik_Wk 0 (pc_q := 0) (loc_q := [some (.ref 7), some (fI v)]) (st_q := []) (h_q := h) (cl_q := 0) (sl_q := 0) rfl ?_
  refine ik_Wk 1 (pc_q := 1) (loc_q := [some (.ref 7), some (fI v)]) (st_q := [fI v]) (h_q := h) (cl_q := 0) (sl_q := 0) rfl ?_
  refine fw_if_lt rfl rfl (by omega) (by omega) (fun hc5 => ?_) (fun hc5 => ?_)
  · refine ik_Wk 1 (pc_q := 19) (loc_q := [some (.ref 7), some (fI v)]) (st_q := [fI 0]) (h_q := h) (cl_q := 0) (sl_q := 0) rfl ?_
    refine ik_Wret rfl rfl ⟨_, _, rfl, rfl, ?_⟩
    refine ik_Wk 0 (pc_q := 31) (loc_q := [some (.ref 0), some (fI 0), some (fI 1), some (fI v), none]) (st_q := [fI 0]) (h_q := h) (cl_q := 0) (sl_q := 0) rfl ?_
    refine fw_if_ne rfl rfl (by decide +kernel) (by decide +kernel) (fun hc6 => ?_) (fun hc6 => absurd hc6 (by decide +kernel))
    refine fw_ld (-1000000001) rfl rfl (by decide +kernel) ?_
    exact ik_Wret rfl rfl ⟨_, _, rfl, rfl, rfl, rfl, Or.inr ⟨(congrArg (fun z => [fI z]) (by (repeat' split) <;> first | rfl | omega)), h14, h15, h16, (by omega), (hfr_refl [14, 15, 16] h)⟩⟩
  · refine ik_Wk 2 (pc_q := 6) (loc_q := [some (.ref 7), some (fI v)]) (st_q := [.ref 7, fI v]) (h_q := h) (cl_q := 0) (sl_q := 0) rfl ?_
    refine fw_gf rfl rfl h7 rfl ?_
    refine ik_Wk 1 (pc_q := 10) (loc_q := [some (.ref 7), some (fI v)]) (st_q := [fI 1, fI pl, fI v]) (h_q := h) (cl_q := 0) (sl_q := 0) rfl ?_
    refine fw_sub rfl ?_
    refine fw_ic_ge rfl rfl (by omega) (by omega) (by omega) (by omega) (fun hc7 => ?_) (fun hc7 => ?_)
    · refine ik_Wk 1 (pc_q := 19) (loc_q := [some (.ref 7), some (fI v)]) (st_q := [fI 0]) (h_q := h) (cl_q := 0) (sl_q := 0) rfl ?_
      refine ik_Wret rfl rfl ⟨_, _, rfl, rfl, ?_⟩
      refine ik_Wk 0 (pc_q := 31) (loc_q := [some (.ref 0), some (fI 0), some (fI 1), some (fI v), none]) (st_q := [fI 0]) (h_q := h) (cl_q := 0) (sl_q := 0) rfl ?_
      refine fw_if_ne rfl rfl (by decide +kernel) (by decide +kernel) (fun hc8 => ?_) (fun hc8 => absurd hc8 (by decide +kernel))
      refine fw_ld (-1000000001) rfl rfl (by decide +kernel) ?_
      exact ik_Wret rfl rfl ⟨_, _, rfl, rfl, rfl, rfl, Or.inr ⟨(congrArg (fun z => [fI z]) (by (repeat' split) <;> first | rfl | omega)), h14, h15, h16, (by omega), (hfr_refl [14, 15, 16] h)⟩⟩
    · refine ik_Wk 2 (pc_q := 19) (loc_q := [some (.ref 7), some (fI v)]) (st_q := [fI 1]) (h_q := h) (cl_q := 0) (sl_q := 0) rfl ?_
      refine ik_Wret rfl rfl ⟨_, _, rfl, rfl, ?_⟩
      refine ik_Wk 0 (pc_q := 31) (loc_q := [some (.ref 0), some (fI 0), some (fI 1), some (fI v), none]) (st_q := [fI 1]) (h_q := h) (cl_q := 0) (sl_q := 0) rfl ?_
      refine fw_if_ne rfl rfl (by decide +kernel) (by decide +kernel) (fun hc9 => absurd hc9 (by decide +kernel)) (fun hc9 => ?_)
      refine ik_Wk 1 (pc_q := 38) (loc_q := [some (.ref 0), some (fI 0), some (fI 1), some (fI v), none]) (st_q := [fI 1]) (h_q := h) (cl_q := 0) (sl_q := 0) rfl ?_
      refine fw_if_lt rfl rfl (by decide +kernel) (by decide +kernel) (fun hc10 => absurd hc10 (by decide +kernel)) (fun hc10 => ?_)
      refine ik_Wk 2 (pc_q := 43) (loc_q := [some (.ref 0), some (fI 0), some (fI 1), some (fI v), none]) (st_q := [fI 2, fI 1]) (h_q := h) (cl_q := 0) (sl_q := 0) rfl ?_
      refine fw_ic_gt rfl rfl (by decide +kernel) (by decide +kernel) (by decide +kernel) (by decide +kernel) (fun hc11 => absurd hc11 (by decide +kernel)) (fun hc11 => ?_)
      refine ik_Wk 2 (pc_q := 48) (loc_q := [some (.ref 0), some (fI 0), some (fI 1), some (fI v), none]) (st_q := [fI 2, fI 1]) (h_q := h) (cl_q := 0) (sl_q := 0) rfl ?_
      refine fw_ic_ne rfl rfl (by decide +kernel) (by decide +kernel) (by decide +kernel) (by decide +kernel) (fun hc12 => absurd hc12 (by decide +kernel)) (fun hc12 => ?_)
      refine ik_Wk 1 (pc_q := 65) (loc_q := [some (.ref 0), some (fI 0), some (fI 1), some (fI v), none]) (st_q := [.ref 0]) (h_q := h) (cl_q := 0) (sl_q := 0) rfl ?_
      refine fw_gf rfl rfl h0 rfl ?_
      refine ik_Wc 7 1 0 [.ref 7] [] rfl rfl rfl (by decide +kernel) rfl rfl (fw_rec hl rfl h7 rfl (Nat.le_of_ble_eq_true rfl)) ?_
      refine ik_Wk 0 (pc_q := 0) (loc_q := [some (.ref 7)]) (st_q := []) (h_q := h) (cl_q := 0) (sl_q := 0) rfl ?_
      refine ik_Wk 1 (pc_q := 1) (loc_q := [some (.ref 7)]) (st_q := [.ref 7]) (h_q := h) (cl_q := 0) (sl_q := 0) rfl ?_
      refine fw_gf rfl rfl h7 rfl ?_
      refine ik_Wk 1 (pc_q := 5) (loc_q := [some (.ref 7)]) (st_q := [fI 1, fI pl]) (h_q := h) (cl_q := 0) (sl_q := 0) rfl ?_
      refine fw_ic_le rfl rfl (by omega) (by omega) (by omega) (by omega) (fun hc13 => ?_) (fun hc13 => ?_)
      · refine ik_Wk 1 (pc_q := 13) (loc_q := [some (.ref 7)]) (st_q := [fI 0]) (h_q := h) (cl_q := 0) (sl_q := 0) rfl ?_
        refine ik_Wret rfl rfl ⟨_, _, rfl, rfl, ?_⟩
        refine ik_Wk 0 (pc_q := 71) (loc_q := [some (.ref 0), some (fI 0), some (fI 1), some (fI v), none]) (st_q := [fI 0]) (h_q := h) (cl_q := 0) (sl_q := 0) rfl ?_
        refine fw_if_ne rfl rfl (by decide +kernel) (by decide +kernel) (fun hc14 => ?_) (fun hc14 => absurd hc14 (by decide +kernel))
        refine fw_ld (-1000000003) rfl rfl (by decide +kernel) ?_
        exact ik_Wret rfl rfl ⟨_, _, rfl, rfl, rfl, rfl, Or.inr ⟨(congrArg (fun z => [fI z]) (by (repeat' split) <;> first | rfl | omega)), h14, h15, h16, (by omega), (hfr_refl [14, 15, 16] h)⟩⟩
      · refine ik_Wk 2 (pc_q := 13) (loc_q := [some (.ref 7)]) (st_q := [fI 1]) (h_q := h) (cl_q := 0) (sl_q := 0) rfl ?_
        refine ik_Wret rfl rfl ⟨_, _, rfl, rfl, ?_⟩
        refine ik_Wk 0 (pc_q := 71) (loc_q := [some (.ref 0), some (fI 0), some (fI 1), some (fI v), none]) (st_q := [fI 1]) (h_q := h) (cl_q := 0) (sl_q := 0) rfl ?_
        refine fw_if_ne rfl rfl (by decide +kernel) (by decide +kernel) (fun hc15 => absurd hc15 (by decide +kernel)) (fun hc15 => ?_)
        refine ik_Wk 1 (pc_q := 78) (loc_q := [some (.ref 0), some (fI 0), some (fI 1), some (fI v), none]) (st_q := [.ref 0]) (h_q := h) (cl_q := 0) (sl_q := 0) rfl ?_
        refine fw_gf rfl rfl h0 rfl ?_
        refine fw_gf rfl rfl h14 rfl ?_
        refine ik_Wk 2 (pc_q := 86) (loc_q := [some (.ref 0), some (fI 0), some (fI 1), some (fI v), none]) (st_q := [fI 3, fI 0, .ref 15]) (h_q := h) (cl_q := 0) (sl_q := 0) rfl ?_
        refine fw_mul rfl ?_
        refine ik_Wk 1 (pc_q := 88) (loc_q := [some (.ref 0), some (fI 0), some (fI 1), some (fI v), none]) (st_q := [fI 1, fI 0, .ref 15]) (h_q := h) (cl_q := 0) (sl_q := 0) rfl ?_
        refine fw_add rfl ?_
        refine fw_ial (z := 1) rfl h15 (by decide +kernel) (Nat.le_of_ble_eq_true rfl) (by decide +kernel) ?_
        refine ik_Wk 0 (pc_q := 90) (loc_q := [some (.ref 0), some (fI 0), some (fI 1), some (fI v), none]) (st_q := [fI pa]) (h_q := h) (cl_q := 0) (sl_q := 0) rfl ?_
        refine ik_Wk 2 (pc_q := 93) (loc_q := [some (.ref 0), some (fI 0), some (fI 1), some (fI v), some (fI pa)]) (st_q := [.ref 0]) (h_q := h) (cl_q := 0) (sl_q := 0) rfl ?_
        refine fw_gf rfl rfl h0 rfl ?_
        refine fw_gf rfl rfl h14 rfl ?_
        refine ik_Wk 2 (pc_q := 101) (loc_q := [some (.ref 0), some (fI 0), some (fI 1), some (fI v), some (fI pa)]) (st_q := [fI 3, fI 0, .ref 15]) (h_q := h) (cl_q := 0) (sl_q := 0) rfl ?_
        refine fw_mul rfl ?_
        refine ik_Wk 1 (pc_q := 103) (loc_q := [some (.ref 0), some (fI 0), some (fI 1), some (fI v), some (fI pa)]) (st_q := [fI 1, fI 0, .ref 15]) (h_q := h) (cl_q := 0) (sl_q := 0) rfl ?_
        refine fw_add rfl ?_
        refine ik_Wk 1 (pc_q := 105) (loc_q := [some (.ref 0), some (fI 0), some (fI 1), some (fI v), some (fI pa)]) (st_q := [fI v, fI 1, .ref 15]) (h_q := h) (cl_q := 0) (sl_q := 0) rfl ?_
        refine fx_ias (z := 1) rfl h15 (by decide +kernel) (Nat.le_of_ble_eq_true rfl) (by decide +kernel) ?_
        intro h_402 e_402 f_402 l_402
        have k_402 : cL h_402 := l_402.trans hl
        have fr_402 := hfr_wb (hfr_refl [14, 15, 16] h) f_402 l_402 rfl
        clear l_402
        have g_402_0 := (f_402 0 (Nat.ne_of_beq_eq_false rfl)).trans h0
        have g_402_7 := (f_402 7 (Nat.ne_of_beq_eq_false rfl)).trans h7
        have g_402_14 := (f_402 14 (Nat.ne_of_beq_eq_false rfl)).trans h14
        have g_402_16 := (f_402 16 (Nat.ne_of_beq_eq_false rfl)).trans h16
        have g_402_15 : cE h_402 15 (.inl (.int, fA [ka, v, fa, kb, pb, fb])) := e_402
        refine ik_Wk 1 (pc_q := 107) (loc_q := [some (.ref 0), some (fI 0), some (fI 1), some (fI v), some (fI pa)]) (st_q := [.ref 0]) (h_q := h_402) (cl_q := 0) (sl_q := 0) rfl ?_
        refine fw_gf rfl rfl g_402_0 rfl ?_
        refine fw_call 23 1 0 [.ref 14] [] rfl rfl rfl (Nat.le_of_ble_eq_true rfl) rfl rfl (fw_rec k_402 rfl g_402_14 rfl (Nat.le_of_ble_eq_true rfl)) (cs_restart (mi := mi) (ka := ka) (pa := v) (fa := fa) (kb := kb) (pb := pb) (fb := fb) (xa := xa) (xb := xb) (sd := dr) (by omega) (by omega) g_402_14 g_402_15 g_402_16 k_402) ?_
        rintro _ h_403 ⟨rfl, e_403_14, e_403_16, F_403⟩
        have k_403 : cL h_403 := F_403.1.trans k_402
        have fr_403 := hfr_cb fr_402 F_403 rfl
        have g_403_0 := (hfr_g F_403 0 rfl).trans g_402_0
        have g_403_7 := (hfr_g F_403 7 rfl).trans g_402_7
        have g_403_15 := (hfr_g F_403 15 rfl).trans g_402_15
        have g_403_14 : cE h_403 14 (.inr (1, [.ref 7, .ref 15, .ref 16, fI 0, fJ dr])) := e_403_14
        have g_403_16 : cE h_403 16 (.inl (.int, fA [mx_sp v fa, mx_sp pb fb])) := e_403_16
        refine ik_Wk 0 (pc_q := 113) (loc_q := [some (.ref 0), some (fI 0), some (fI 1), some (fI v), some (fI pa)]) (st_q := []) (h_q := h_403) (cl_q := 0) (sl_q := 0) rfl ?_
        refine ik_Wk 1 (pc_q := 115) (loc_q := [some (.ref 0), some (fI 0), some (fI 1), some (fI v), some (fI pa)]) (st_q := [fI pa]) (h_q := h_403) (cl_q := 0) (sl_q := 0) rfl ?_
        exact ik_Wret rfl rfl ⟨_, _, rfl, rfl, rfl, rfl, Or.inl ⟨rfl, g_403_14, g_403_15, g_403_16, (by omega), fr_403⟩⟩

theorem rp_cork01 {h : List ik_E} {ka : Int} {pa : Int} {fa : Int} {kb : Int} {pb : Int} {fb : Int} {xa : Int} {xb : Int} {mi : Int} {v : Int} {pl : Int} {f : Nat → Int} (q0 : 0 ≤ fa ∧ fa ≤ 30) (q1 : 0 ≤ fb ∧ fb ≤ 30) (q2 : 0 ≤ pl ∧ pl ≤ 12) (q3 : -2147483648 ≤ v ∧ v < 2147483648) (h66 : cE h 66 (.inr (10, (fI pl :: .ref 67 :: .ref 68 :: .ref 69 :: fI (f 4) :: .ref 70 :: .ref 71 :: fI mi :: fI (f 8) :: .ref 72 :: fI (f 10) :: fI (f 11) :: fI (f 12) :: fJ (f 13) :: fI (f 14) :: fI (f 15) :: fI (f 16) :: fI (f 17) :: .ref 73 :: .ref 74 :: .ref 75 :: .ref 76 :: .ref 77 :: .ref 78 :: fI (f 24) :: .ref 79 :: .ref 80 :: .ref 81 :: .ref 82 :: .ref 83 :: .ref 84 :: .ref 85 :: fJ (f 32) :: fJ (f 33) :: .ref 86 :: .ref 87 :: fI (f 36) :: .ref 88 :: .ref 89 :: .ref 90 :: .ref 91 :: .ref 92 :: .ref 93 :: [])))) (h70 : cE h 70 (.inl (.int, fA [ka, pa, fa, kb, pb, fb]))) (h71 : cE h 71 (.inl (.int, fA [xa, xb]))) (hl : h.length = 94) : ik_F 158 [.ref 66, fI 0, fI 1, fI v] h (fun rv h_q => (rv = [fI pa] ∧ cE h_q 66 (.inr (10, (fI pl :: .ref 67 :: .ref 68 :: .ref 69 :: fI (f 4) :: .ref 70 :: .ref 71 :: fI 0 :: fI (f 8) :: .ref 72 :: fI (f 10) :: fI (f 11) :: fI (f 12) :: fJ (f 13) :: fI (f 14) :: fI (f 15) :: fI (f 16) :: fI (f 17) :: .ref 73 :: .ref 74 :: .ref 75 :: .ref 76 :: .ref 77 :: .ref 78 :: fI (f 24) :: .ref 79 :: .ref 80 :: .ref 81 :: .ref 82 :: .ref 83 :: .ref 84 :: .ref 85 :: fJ (f 32) :: fJ (f 33) :: .ref 86 :: .ref 87 :: fI (f 36) :: .ref 88 :: .ref 89 :: .ref 90 :: .ref 91 :: .ref 92 :: .ref 93 :: []))) ∧ cE h_q 70 (.inl (.int, fA [ka, v, fa, kb, pb, fb])) ∧ cE h_q 71 (.inl (.int, fA [mx_sp v fa, mx_sp pb fb])) ∧ (0 ≤ v ∧ v < pl - 1) ∧ hfr [66, 70, 71] h h_q) ∨ (rv = [fI (-1000000001)] ∧ cE h_q 66 (.inr (10, (fI pl :: .ref 67 :: .ref 68 :: .ref 69 :: fI (f 4) :: .ref 70 :: .ref 71 :: fI mi :: fI (f 8) :: .ref 72 :: fI (f 10) :: fI (f 11) :: fI (f 12) :: fJ (f 13) :: fI (f 14) :: fI (f 15) :: fI (f 16) :: fI (f 17) :: .ref 73 :: .ref 74 :: .ref 75 :: .ref 76 :: .ref 77 :: .ref 78 :: fI (f 24) :: .ref 79 :: .ref 80 :: .ref 81 :: .ref 82 :: .ref 83 :: .ref 84 :: .ref 85 :: fJ (f 32) :: fJ (f 33) :: .ref 86 :: .ref 87 :: fI (f 36) :: .ref 88 :: .ref 89 :: .ref 90 :: .ref 91 :: .ref 92 :: .ref 93 :: []))) ∧ cE h_q 70 (.inl (.int, fA [ka, pa, fa, kb, pb, fb])) ∧ cE h_q 71 (.inl (.int, fA [xa, xb])) ∧ (¬ (0 ≤ v ∧ v < pl - 1)) ∧ hfr [66, 70, 71] h h_q)) := by
  refine ik_Wk 1 (pc_q := 1) (loc_q := [some (.ref 66), some (fI 0), some (fI 1), some (fI v), none]) (st_q := [fI 0]) (h_q := h) (cl_q := 0) (sl_q := 0) rfl ?_
  refine ik_Wc 132 1 3 [fI 0] [] rfl rfl rfl (by decide +kernel) rfl rfl (fw_sta hl rfl (by decide +kernel)) ?_
  refine ik_Wk 0 (pc_q := 0) (loc_q := [some (fI 0)]) (st_q := []) (h_q := h) (cl_q := 0) (sl_q := 0) rfl ?_
  refine ik_Wk 1 (pc_q := 1) (loc_q := [some (fI 0)]) (st_q := [fI 0]) (h_q := h) (cl_q := 0) (sl_q := 0) rfl ?_
  refine fw_i2l rfl (by omega) (by omega) ?_
  refine fw_lc (z := 0) rfl (by decide +kernel) ?_
  refine fw_lc (z := 1) rfl (by decide +kernel) ?_
  refine fw_call 127 3 3 [fJ 0, fJ 0, fJ 1] [] rfl rfl rfl (Nat.le_of_ble_eq_true rfl) rfl rfl (fw_sta hl rfl (by decide +kernel)) (cr_in (v := 0) (a := 0) (b := 1) (by omega) (by omega) (by omega)  hl) ?_
  rintro _ h_404 (⟨rfl, p_404_0, F_404⟩ | ⟨rfl, p_404_0, F_404⟩)
  · have k_404 : cL h_404 := F_404.1.trans hl
    have fr_404 := hfr_cb (hfr_refl [66, 70, 71] h) F_404 rfl
    have g_404_66 := (hfr_g F_404 66 rfl).trans h66
    have g_404_70 := (hfr_g F_404 70 rfl).trans h70
    have g_404_71 := (hfr_g F_404 71 rfl).trans h71
    refine ik_Wk 0 (pc_q := 7) (loc_q := [some (fI 0)]) (st_q := [fI 1]) (h_q := h_404) (cl_q := 0) (sl_q := 0) rfl ?_
    refine ik_Wret rfl rfl ⟨_, _, rfl, rfl, ?_⟩
    refine ik_Wk 0 (pc_q := 4) (loc_q := [some (.ref 66), some (fI 0), some (fI 1), some (fI v), none]) (st_q := [fI 1]) (h_q := h_404) (cl_q := 0) (sl_q := 0) rfl ?_
    refine fw_if_ne rfl rfl (by decide +kernel) (by decide +kernel) (fun hc1 => absurd hc1 (by decide +kernel)) (fun hc1 => ?_)
    refine ik_Wk 1 (pc_q := 11) (loc_q := [some (.ref 66), some (fI 0), some (fI 1), some (fI v), none]) (st_q := [fI 1]) (h_q := h_404) (cl_q := 0) (sl_q := 0) rfl ?_
    refine fw_if_ne rfl rfl (by decide +kernel) (by decide +kernel) (fun hc2 => absurd hc2 (by decide +kernel)) (fun hc2 => ?_)
    refine ik_Wk 2 (pc_q := 23) (loc_q := [some (.ref 66), some (fI 0), some (fI 1), some (fI v), none]) (st_q := [fI 1, fI 1]) (h_q := h_404) (cl_q := 0) (sl_q := 0) rfl ?_
    refine fw_ic_ne rfl rfl (by decide +kernel) (by decide +kernel) (by decide +kernel) (by decide +kernel) (fun hc3 => ?_) (fun hc3 => absurd hc3 (by decide +kernel))
    refine ik_Wk 2 (pc_q := 28) (loc_q := [some (.ref 66), some (fI 0), some (fI 1), some (fI v), none]) (st_q := [fI v, .ref 66]) (h_q := h_404) (cl_q := 0) (sl_q := 0) rfl ?_
    refine ik_Wc 131 2 0 [.ref 66, fI v] [] rfl rfl rfl (by decide +kernel) rfl rfl (fw_rec k_404 rfl g_404_66 rfl (Nat.le_of_ble_eq_true rfl)) ?_
    refine ik_Wk 0 (pc_q := 0) (loc_q := [some (.ref 66), some (fI v)]) (st_q := []) (h_q := h_404) (cl_q := 0) (sl_q := 0) rfl ?_
    refine ik_Wk 1 (pc_q := 1) (loc_q := [some (.ref 66), some (fI v)]) (st_q := [fI v]) (h_q := h_404) (cl_q := 0) (sl_q := 0) rfl ?_
    refine fw_i2l rfl (by omega) (by omega) ?_
    refine fw_lc (z := 0) rfl (by decide +kernel) ?_
    refine ik_Wk 1 (pc_q := 4) (loc_q := [some (.ref 66), some (fI v)]) (st_q := [.ref 66, fJ 0, fJ v]) (h_q := h_404) (cl_q := 0) (sl_q := 0) rfl ?_
    refine fw_gf rfl rfl g_404_66 rfl ?_
    refine ik_Wk 1 (pc_q := 8) (loc_q := [some (.ref 66), some (fI v)]) (st_q := [fI 2, fI pl, fJ 0, fJ v]) (h_q := h_404) (cl_q := 0) (sl_q := 0) rfl ?_
    refine fw_sub rfl ?_
    refine fw_i2l rfl (by omega) (by omega) ?_
    refine fw_call 127 3 3 [fJ v, fJ 0, fJ (pl - 2)] [] rfl rfl rfl (Nat.le_of_ble_eq_true rfl) rfl rfl (fw_sta k_404 rfl (by decide +kernel)) (cr_in (v := v) (a := 0) (b := pl - 2) (by omega) (by omega) (by omega)  k_404) ?_
    rintro _ h_405 (⟨rfl, p_405_0, F_405⟩ | ⟨rfl, p_405_0, F_405⟩)
    · have k_405 : cL h_405 := F_405.1.trans k_404
      have fr_405 := hfr_cb fr_404 F_405 rfl
      have g_405_66 := (hfr_g F_405 66 rfl).trans g_404_66
      have g_405_70 := (hfr_g F_405 70 rfl).trans g_404_70
      have g_405_71 := (hfr_g F_405 71 rfl).trans g_404_71
      refine ik_Wk 0 (pc_q := 13) (loc_q := [some (.ref 66), some (fI v)]) (st_q := [fI 1]) (h_q := h_405) (cl_q := 0) (sl_q := 0) rfl ?_
      refine ik_Wret rfl rfl ⟨_, _, rfl, rfl, ?_⟩
      refine ik_Wk 0 (pc_q := 31) (loc_q := [some (.ref 66), some (fI 0), some (fI 1), some (fI v), none]) (st_q := [fI 1]) (h_q := h_405) (cl_q := 0) (sl_q := 0) rfl ?_
      refine fw_if_ne rfl rfl (by decide +kernel) (by decide +kernel) (fun hc4 => absurd hc4 (by decide +kernel)) (fun hc4 => ?_)
      refine ik_Wk 1 (pc_q := 38) (loc_q := [some (.ref 66), some (fI 0), some (fI 1), some (fI v), none]) (st_q := [fI 1]) (h_q := h_405) (cl_q := 0) (sl_q := 0) rfl ?_
      refine fw_i2l rfl (by omega) (by omega) ?_
      refine fw_lc (z := 0) rfl (by decide +kernel) ?_
      refine fw_l2 2 rfl rfl (by decide +kernel) ?_
      refine fw_call 127 3 3 [fJ 1, fJ 0, fJ 2] [] rfl rfl rfl (Nat.le_of_ble_eq_true rfl) rfl rfl (fw_sta k_405 rfl (by decide +kernel)) (cr_in (v := 1) (a := 0) (b := 2) (by omega) (by omega) (by omega)  k_405) ?_
      rintro _ h_406 (⟨rfl, p_406_0, F_406⟩ | ⟨rfl, p_406_0, F_406⟩)
      · have k_406 : cL h_406 := F_406.1.trans k_405
        have fr_406 := hfr_cb fr_405 F_406 rfl
        have g_406_66 := (hfr_g F_406 66 rfl).trans g_405_66
        have g_406_70 := (hfr_g F_406 70 rfl).trans g_405_70
        have g_406_71 := (hfr_g F_406 71 rfl).trans g_405_71
        refine ik_Wk 0 (pc_q := 46) (loc_q := [some (.ref 66), some (fI 0), some (fI 1), some (fI v), none]) (st_q := [fI 1]) (h_q := h_406) (cl_q := 0) (sl_q := 0) rfl ?_
        refine fw_if_eq rfl rfl (by decide +kernel) (by decide +kernel) (fun hc5 => absurd hc5 (by decide +kernel)) (fun hc5 => ?_)
        refine ik_Wk 2 (pc_q := 51) (loc_q := [some (.ref 66), some (fI 0), some (fI 1), some (fI v), none]) (st_q := [fI 2, fI 1]) (h_q := h_406) (cl_q := 0) (sl_q := 0) rfl ?_
        refine fw_ic_ne rfl rfl (by decide +kernel) (by decide +kernel) (by decide +kernel) (by decide +kernel) (fun hc6 => absurd hc6 (by decide +kernel)) (fun hc6 => ?_)
        refine ik_Wk 1 (pc_q := 70) (loc_q := [some (.ref 66), some (fI 0), some (fI 1), some (fI v), none]) (st_q := [.ref 66]) (h_q := h_406) (cl_q := 0) (sl_q := 0) rfl ?_
        refine ik_Wc 134 1 0 [.ref 66] [] rfl rfl rfl (by decide +kernel) rfl rfl (fw_rec k_406 rfl g_406_66 rfl (Nat.le_of_ble_eq_true rfl)) ?_
        refine ik_Wk 0 (pc_q := 0) (loc_q := [some (.ref 66)]) (st_q := []) (h_q := h_406) (cl_q := 0) (sl_q := 0) rfl ?_
        refine ik_Wk 1 (pc_q := 1) (loc_q := [some (.ref 66)]) (st_q := [.ref 66]) (h_q := h_406) (cl_q := 0) (sl_q := 0) rfl ?_
        refine fw_gf rfl rfl g_406_66 rfl ?_
        refine ik_Wk 1 (pc_q := 5) (loc_q := [some (.ref 66)]) (st_q := [fI 1, fI pl]) (h_q := h_406) (cl_q := 0) (sl_q := 0) rfl ?_
        refine fw_ic_le rfl rfl (by omega) (by omega) (by omega) (by omega) (fun hc7 => ?_) (fun hc7 => ?_)
        · refine ik_Wk 1 (pc_q := 13) (loc_q := [some (.ref 66)]) (st_q := [fI 0]) (h_q := h_406) (cl_q := 0) (sl_q := 0) rfl ?_
          refine ik_Wret rfl rfl ⟨_, _, rfl, rfl, ?_⟩
          refine ik_Wk 0 (pc_q := 73) (loc_q := [some (.ref 66), some (fI 0), some (fI 1), some (fI v), none]) (st_q := [fI 0]) (h_q := h_406) (cl_q := 0) (sl_q := 0) rfl ?_
          refine fw_if_ne rfl rfl (by decide +kernel) (by decide +kernel) (fun hc8 => ?_) (fun hc8 => absurd hc8 (by decide +kernel))
          refine fw_ld (-1000000003) rfl rfl (by decide +kernel) ?_
          exact ik_Wret rfl rfl ⟨_, _, rfl, rfl, rfl, rfl, Or.inr ⟨(congrArg (fun z => [fI z]) (by (repeat' split) <;> first | rfl | omega)), g_406_66, g_406_70, g_406_71, (by omega), fr_406⟩⟩
        · refine ik_Wk 2 (pc_q := 13) (loc_q := [some (.ref 66)]) (st_q := [fI 1]) (h_q := h_406) (cl_q := 0) (sl_q := 0) rfl ?_
          refine ik_Wret rfl rfl ⟨_, _, rfl, rfl, ?_⟩
          refine ik_Wk 0 (pc_q := 73) (loc_q := [some (.ref 66), some (fI 0), some (fI 1), some (fI v), none]) (st_q := [fI 1]) (h_q := h_406) (cl_q := 0) (sl_q := 0) rfl ?_
          refine fw_if_ne rfl rfl (by decide +kernel) (by decide +kernel) (fun hc9 => absurd hc9 (by decide +kernel)) (fun hc9 => ?_)
          refine ik_Wk 1 (pc_q := 80) (loc_q := [some (.ref 66), some (fI 0), some (fI 1), some (fI v), none]) (st_q := [.ref 66]) (h_q := h_406) (cl_q := 0) (sl_q := 0) rfl ?_
          refine fw_gf rfl rfl g_406_66 rfl ?_
          refine ik_Wk 2 (pc_q := 85) (loc_q := [some (.ref 66), some (fI 0), some (fI 1), some (fI v), none]) (st_q := [fI 0, fI 3, .ref 70]) (h_q := h_406) (cl_q := 0) (sl_q := 0) rfl ?_
          refine fw_mul rfl ?_
          refine ik_Wk 1 (pc_q := 87) (loc_q := [some (.ref 66), some (fI 0), some (fI 1), some (fI v), none]) (st_q := [fI 1, fI 0, .ref 70]) (h_q := h_406) (cl_q := 0) (sl_q := 0) rfl ?_
          refine fw_add rfl ?_
          refine fw_ial (z := 1) rfl g_406_70 (by decide +kernel) (Nat.le_of_ble_eq_true rfl) (by decide +kernel) ?_
          refine ik_Wk 0 (pc_q := 89) (loc_q := [some (.ref 66), some (fI 0), some (fI 1), some (fI v), none]) (st_q := [fI pa]) (h_q := h_406) (cl_q := 0) (sl_q := 0) rfl ?_
          refine ik_Wk 2 (pc_q := 92) (loc_q := [some (.ref 66), some (fI 0), some (fI 1), some (fI v), some (fI pa)]) (st_q := [.ref 66]) (h_q := h_406) (cl_q := 0) (sl_q := 0) rfl ?_
          refine fw_gf rfl rfl g_406_66 rfl ?_
          refine ik_Wk 2 (pc_q := 97) (loc_q := [some (.ref 66), some (fI 0), some (fI 1), some (fI v), some (fI pa)]) (st_q := [fI 0, fI 3, .ref 70]) (h_q := h_406) (cl_q := 0) (sl_q := 0) rfl ?_
          refine fw_mul rfl ?_
          refine ik_Wk 1 (pc_q := 99) (loc_q := [some (.ref 66), some (fI 0), some (fI 1), some (fI v), some (fI pa)]) (st_q := [fI 1, fI 0, .ref 70]) (h_q := h_406) (cl_q := 0) (sl_q := 0) rfl ?_
          refine fw_add rfl ?_
          refine ik_Wk 1 (pc_q := 101) (loc_q := [some (.ref 66), some (fI 0), some (fI 1), some (fI v), some (fI pa)]) (st_q := [fI v, fI 1, .ref 70]) (h_q := h_406) (cl_q := 0) (sl_q := 0) rfl ?_
          refine fx_ias (z := 1) rfl g_406_70 (by decide +kernel) (Nat.le_of_ble_eq_true rfl) (by decide +kernel) ?_
          intro h_407 e_407 f_407 l_407
          have k_407 : cL h_407 := l_407.trans k_406
          have fr_407 := hfr_wb fr_406 f_407 l_407 rfl
          clear l_407
          have g_407_66 := (f_407 66 (Nat.ne_of_beq_eq_false rfl)).trans g_406_66
          have g_407_71 := (f_407 71 (Nat.ne_of_beq_eq_false rfl)).trans g_406_71
          have g_407_70 : cE h_407 70 (.inl (.int, fA [ka, v, fa, kb, pb, fb])) := e_407
          refine ik_Wk 1 (pc_q := 103) (loc_q := [some (.ref 66), some (fI 0), some (fI 1), some (fI v), some (fI pa)]) (st_q := [.ref 66]) (h_q := h_407) (cl_q := 0) (sl_q := 0) rfl ?_
          refine fw_call 194 1 0 [.ref 66] [] rfl rfl rfl (Nat.le_of_ble_eq_true rfl) rfl rfl (fw_rec k_407 rfl g_407_66 rfl (Nat.le_of_ble_eq_true rfl)) (cr_begin (mi := mi) (ka := ka) (pa := v) (fa := fa) (kb := kb) (pb := pb) (fb := fb) (xa := xa) (xb := xb) (f := fun j => ((pl :: 0 :: 0 :: 0 :: f 4 :: 0 :: 0 :: 0 :: f 8 :: 0 :: f 10 :: f 11 :: f 12 :: f 13 :: f 14 :: f 15 :: f 16 :: f 17 :: 0 :: 0 :: 0 :: 0 :: 0 :: 0 :: f 24 :: 0 :: 0 :: 0 :: 0 :: 0 :: 0 :: 0 :: f 32 :: f 33 :: 0 :: 0 :: f 36 :: 0 :: 0 :: 0 :: 0 :: 0 :: 0 :: []) : List Int).getD j 0) (by omega) (by omega) g_407_66 g_407_70 g_407_71 k_407) ?_
          rintro _ h_408 ⟨rfl, e_408_66, e_408_71, F_408⟩
          have k_408 : cL h_408 := F_408.1.trans k_407
          have fr_408 := hfr_cb fr_407 F_408 rfl
          have g_408_70 := (hfr_g F_408 70 rfl).trans g_407_70
          have g_408_66 : cE h_408 66 (.inr (10, (fI pl :: .ref 67 :: .ref 68 :: .ref 69 :: fI (f 4) :: .ref 70 :: .ref 71 :: fI 0 :: fI (f 8) :: .ref 72 :: fI (f 10) :: fI (f 11) :: fI (f 12) :: fJ (f 13) :: fI (f 14) :: fI (f 15) :: fI (f 16) :: fI (f 17) :: .ref 73 :: .ref 74 :: .ref 75 :: .ref 76 :: .ref 77 :: .ref 78 :: fI (f 24) :: .ref 79 :: .ref 80 :: .ref 81 :: .ref 82 :: .ref 83 :: .ref 84 :: .ref 85 :: fJ (f 32) :: fJ (f 33) :: .ref 86 :: .ref 87 :: fI (f 36) :: .ref 88 :: .ref 89 :: .ref 90 :: .ref 91 :: .ref 92 :: .ref 93 :: []))) := e_408_66
          have g_408_71 : cE h_408 71 (.inl (.int, fA [mx_sp v fa, mx_sp pb fb])) := e_408_71
          refine ik_Wk 0 (pc_q := 106) (loc_q := [some (.ref 66), some (fI 0), some (fI 1), some (fI v), some (fI pa)]) (st_q := []) (h_q := h_408) (cl_q := 0) (sl_q := 0) rfl ?_
          refine ik_Wk 1 (pc_q := 108) (loc_q := [some (.ref 66), some (fI 0), some (fI 1), some (fI v), some (fI pa)]) (st_q := [fI pa]) (h_q := h_408) (cl_q := 0) (sl_q := 0) rfl ?_
          exact ik_Wret rfl rfl ⟨_, _, rfl, rfl, rfl, rfl, Or.inl ⟨rfl, g_408_66, g_408_70, g_408_71, (by omega), fr_408⟩⟩
      · have k_406 : cL h_406 := F_406.1.trans k_405
        have fr_406 := hfr_cb fr_405 F_406 rfl
        have g_406_66 := (hfr_g F_406 66 rfl).trans g_405_66
        have g_406_70 := (hfr_g F_406 70 rfl).trans g_405_70
        have g_406_71 := (hfr_g F_406 71 rfl).trans g_405_71
        refine ik_Wk 0 (pc_q := 46) (loc_q := [some (.ref 66), some (fI 0), some (fI 1), some (fI v), none]) (st_q := [fI 0]) (h_q := h_406) (cl_q := 0) (sl_q := 0) rfl ?_
        refine fw_if_eq rfl rfl (by decide +kernel) (by decide +kernel) (fun hc10 => ?_) (fun hc10 => absurd hc10 (by decide +kernel))
        refine fw_ld (-1000000002) rfl rfl (by decide +kernel) ?_
        exact ik_Wret rfl rfl ⟨_, _, rfl, rfl, rfl, rfl, Or.inr ⟨(congrArg (fun z => [fI z]) (by (repeat' split) <;> first | rfl | omega)), g_406_66, g_406_70, g_406_71, (by omega), fr_406⟩⟩
    · have k_405 : cL h_405 := F_405.1.trans k_404
      have fr_405 := hfr_cb fr_404 F_405 rfl
      have g_405_66 := (hfr_g F_405 66 rfl).trans g_404_66
      have g_405_70 := (hfr_g F_405 70 rfl).trans g_404_70
      have g_405_71 := (hfr_g F_405 71 rfl).trans g_404_71
      refine ik_Wk 0 (pc_q := 13) (loc_q := [some (.ref 66), some (fI v)]) (st_q := [fI 0]) (h_q := h_405) (cl_q := 0) (sl_q := 0) rfl ?_
      refine ik_Wret rfl rfl ⟨_, _, rfl, rfl, ?_⟩
      refine ik_Wk 0 (pc_q := 31) (loc_q := [some (.ref 66), some (fI 0), some (fI 1), some (fI v), none]) (st_q := [fI 0]) (h_q := h_405) (cl_q := 0) (sl_q := 0) rfl ?_
      refine fw_if_ne rfl rfl (by decide +kernel) (by decide +kernel) (fun hc11 => ?_) (fun hc11 => absurd hc11 (by decide +kernel))
      refine fw_ld (-1000000001) rfl rfl (by decide +kernel) ?_
      exact ik_Wret rfl rfl ⟨_, _, rfl, rfl, rfl, rfl, Or.inr ⟨(congrArg (fun z => [fI z]) (by (repeat' split) <;> first | rfl | omega)), g_405_66, g_405_70, g_405_71, (by omega), fr_405⟩⟩
  · have k_404 : cL h_404 := F_404.1.trans hl
    have fr_404 := hfr_cb (hfr_refl [66, 70, 71] h) F_404 rfl
    have g_404_66 := (hfr_g F_404 66 rfl).trans h66
    have g_404_70 := (hfr_g F_404 70 rfl).trans h70
    have g_404_71 := (hfr_g F_404 71 rfl).trans h71
    refine ik_Wk 0 (pc_q := 7) (loc_q := [some (fI 0)]) (st_q := [fI 0]) (h_q := h_404) (cl_q := 0) (sl_q := 0) rfl ?_
    refine ik_Wret rfl rfl ⟨_, _, rfl, rfl, ?_⟩
    refine ik_Wk 0 (pc_q := 4) (loc_q := [some (.ref 66), some (fI 0), some (fI 1), some (fI v), none]) (st_q := [fI 0]) (h_q := h_404) (cl_q := 0) (sl_q := 0) rfl ?_
    refine fw_if_ne rfl rfl (by decide +kernel) (by decide +kernel) (fun hc12 => ?_) (fun hc12 => absurd hc12 (by decide +kernel))
    refine fw_ld (-1000000001) rfl rfl (by decide +kernel) ?_
    exact ik_Wret rfl rfl ⟨_, _, rfl, rfl, rfl, rfl, Or.inr ⟨(congrArg (fun z => [fI z]) (by (repeat' split) <;> first | rfl | omega)), g_404_66, g_404_70, g_404_71, (by omega), fr_404⟩⟩

theorem cp_cork02 {h : List ik_E} {ka : Int} {pa : Int} {fa : Int} {kb : Int} {pb : Int} {fb : Int} {xa : Int} {xb : Int} {mi : Int} {dr : Int} {v : Int} {pl : Int} {st : Int} {lo : Int} (q0 : 0 ≤ fa ∧ fa ≤ 30) (q1 : 0 ≤ fb ∧ fb ≤ 30) (q2 : 0 ≤ pl ∧ pl ≤ 12) (q3 : -2147483648 ≤ v ∧ v < 2147483648) (h0 : cE h 0 (.inr (9, [.ref 1, .ref 7, .ref 14, .ref 17, .ref 45, .ref 51, .ref 54, .ref 57]))) (h7 : cE h 7 (.inr (0, [fI pl, fI st, fI lo, .ref 8, .ref 9, .ref 10, .ref 11, .ref 12, .ref 13]))) (h14 : cE h 14 (.inr (1, [.ref 7, .ref 15, .ref 16, fI mi, fJ dr]))) (h15 : cE h 15 (.inl (.int, fA [ka, pa, fa, kb, pb, fb]))) (h16 : cE h 16 (.inl (.int, fA [xa, xb]))) (hl : h.length = 94) : ik_F 95 [.ref 0, fI 0, fI 2, fI v] h (fun rv h_q => (rv = [fI fa] ∧ cE h_q 14 (.inr (1, [.ref 7, .ref 15, .ref 16, fI 0, fJ dr])) ∧ cE h_q 15 (.inl (.int, fA [ka, pa, v, kb, pb, fb])) ∧ cE h_q 16 (.inl (.int, fA [mx_sp pa v, mx_sp pb fb])) ∧ ((0 ≤ v ∧ v ≤ 30) ∧ 1 < pl) ∧ hfr [14, 15, 16] h h_q) ∨ (rv = [fI (if 0 ≤ v ∧ v ≤ 30 then -1000000003 else -1000000002)] ∧ cE h_q 14 (.inr (1, [.ref 7, .ref 15, .ref 16, fI mi, fJ dr])) ∧ cE h_q 15 (.inl (.int, fA [ka, pa, fa, kb, pb, fb])) ∧ cE h_q 16 (.inl (.int, fA [xa, xb])) ∧ (¬ ((0 ≤ v ∧ v ≤ 30) ∧ 1 < pl)) ∧ hfr [14, 15, 16] h h_q)) := by
  refine ik_Wk 1 (pc_q := 1) (loc_q := [some (.ref 0), some (fI 0), some (fI 2), some (fI v), none]) (st_q := [fI 0]) (h_q := h) (cl_q := 0) (sl_q := 0) rfl ?_
  refine ik_Wc 121 1 3 [fI 0] [] rfl rfl rfl (by decide +kernel) rfl rfl (fw_sta hl rfl (by decide +kernel)) ?_
  refine ik_Wk 0 (pc_q := 0) (loc_q := [some (fI 0)]) (st_q := []) (h_q := h) (cl_q := 0) (sl_q := 0) rfl ?_
  refine ik_Wk 1 (pc_q := 1) (loc_q := [some (fI 0)]) (st_q := [fI 0]) (h_q := h) (cl_q := 0) (sl_q := 0) rfl ?_
  refine fw_if_eq rfl rfl (by decide +kernel) (by decide +kernel) (fun hc1 => ?_) (fun hc1 => absurd hc1 (by decide +kernel))
  refine ik_Wk 2 (pc_q := 14) (loc_q := [some (fI 0)]) (st_q := [fI 1]) (h_q := h) (cl_q := 0) (sl_q := 0) rfl ?_
  refine ik_Wret rfl rfl ⟨_, _, rfl, rfl, ?_⟩
  refine ik_Wk 0 (pc_q := 4) (loc_q := [some (.ref 0), some (fI 0), some (fI 2), some (fI v), none]) (st_q := [fI 1]) (h_q := h) (cl_q := 0) (sl_q := 0) rfl ?_
  refine fw_if_eq rfl rfl (by decide +kernel) (by decide +kernel) (fun hc2 => absurd hc2 (by decide +kernel)) (fun hc2 => ?_)
  refine ik_Wk 1 (pc_q := 8) (loc_q := [some (.ref 0), some (fI 0), some (fI 2), some (fI v), none]) (st_q := [fI 2]) (h_q := h) (cl_q := 0) (sl_q := 0) rfl ?_
  refine fw_if_ne rfl rfl (by decide +kernel) (by decide +kernel) (fun hc3 => absurd hc3 (by decide +kernel)) (fun hc3 => ?_)
  refine ik_Wk 2 (pc_q := 20) (loc_q := [some (.ref 0), some (fI 0), some (fI 2), some (fI v), none]) (st_q := [fI 1, fI 2]) (h_q := h) (cl_q := 0) (sl_q := 0) rfl ?_
  refine fw_ic_ne rfl rfl (by decide +kernel) (by decide +kernel) (by decide +kernel) (by decide +kernel) (fun hc4 => absurd hc4 (by decide +kernel)) (fun hc4 => ?_)
  refine ik_Wk 1 (pc_q := 38) (loc_q := [some (.ref 0), some (fI 0), some (fI 2), some (fI v), none]) (st_q := [fI 2]) (h_q := h) (cl_q := 0) (sl_q := 0) rfl ?_
  refine fw_if_lt rfl rfl (by decide +kernel) (by decide +kernel) (fun hc5 => absurd hc5 (by decide +kernel)) (fun hc5 => ?_)
  refine ik_Wk 2 (pc_q := 43) (loc_q := [some (.ref 0), some (fI 0), some (fI 2), some (fI v), none]) (st_q := [fI 2, fI 2]) (h_q := h) (cl_q := 0) (sl_q := 0) rfl ?_
  refine fw_ic_gt rfl rfl (by decide +kernel) (by decide +kernel) (by decide +kernel) (by decide +kernel) (fun hc6 => absurd hc6 (by decide +kernel)) (fun hc6 => ?_)
  refine ik_Wk 2 (pc_q := 48) (loc_q := [some (.ref 0), some (fI 0), some (fI 2), some (fI v), none]) (st_q := [fI 2, fI 2]) (h_q := h) (cl_q := 0) (sl_q := 0) rfl ?_
  refine fw_ic_ne rfl rfl (by decide +kernel) (by decide +kernel) (by decide +kernel) (by decide +kernel) (fun hc7 => ?_) (fun hc7 => absurd hc7 (by decide +kernel))
  refine ik_Wk 1 (pc_q := 52) (loc_q := [some (.ref 0), some (fI 0), some (fI 2), some (fI v), none]) (st_q := [fI v]) (h_q := h) (cl_q := 0) (sl_q := 0) rfl ?_
  refine fw_if_lt rfl rfl (by omega) (by omega) (fun hc8 => ?_) (fun hc8 => ?_)
  · refine fw_ld (-1000000002) rfl rfl (by decide +kernel) ?_
    exact ik_Wret rfl rfl ⟨_, _, rfl, rfl, rfl, rfl, Or.inr ⟨(congrArg (fun z => [fI z]) (by (repeat' split) <;> first | rfl | omega)), h14, h15, h16, (by omega), (hfr_refl [14, 15, 16] h)⟩⟩
  · refine ik_Wk 1 (pc_q := 56) (loc_q := [some (.ref 0), some (fI 0), some (fI 2), some (fI v), none]) (st_q := [fI v]) (h_q := h) (cl_q := 0) (sl_q := 0) rfl ?_
    refine fw_bi rfl (by decide +kernel) ?_
    refine fw_ic_le rfl rfl (by omega) (by omega) (by omega) (by omega) (fun hc9 => ?_) (fun hc9 => ?_)
    · refine ik_Wk 1 (pc_q := 65) (loc_q := [some (.ref 0), some (fI 0), some (fI 2), some (fI v), none]) (st_q := [.ref 0]) (h_q := h) (cl_q := 0) (sl_q := 0) rfl ?_
      refine fw_gf rfl rfl h0 rfl ?_
      refine ik_Wc 7 1 0 [.ref 7] [] rfl rfl rfl (by decide +kernel) rfl rfl (fw_rec hl rfl h7 rfl (Nat.le_of_ble_eq_true rfl)) ?_
      refine ik_Wk 0 (pc_q := 0) (loc_q := [some (.ref 7)]) (st_q := []) (h_q := h) (cl_q := 0) (sl_q := 0) rfl ?_
      refine ik_Wk 1 (pc_q := 1) (loc_q := [some (.ref 7)]) (st_q := [.ref 7]) (h_q := h) (cl_q := 0) (sl_q := 0) rfl ?_
      refine fw_gf rfl rfl h7 rfl ?_
      refine ik_Wk 1 (pc_q := 5) (loc_q := [some (.ref 7)]) (st_q := [fI 1, fI pl]) (h_q := h) (cl_q := 0) (sl_q := 0) rfl ?_
      refine fw_ic_le rfl rfl (by omega) (by omega) (by omega) (by omega) (fun hc10 => ?_) (fun hc10 => ?_)
      · refine ik_Wk 1 (pc_q := 13) (loc_q := [some (.ref 7)]) (st_q := [fI 0]) (h_q := h) (cl_q := 0) (sl_q := 0) rfl ?_
        refine ik_Wret rfl rfl ⟨_, _, rfl, rfl, ?_⟩
        refine ik_Wk 0 (pc_q := 71) (loc_q := [some (.ref 0), some (fI 0), some (fI 2), some (fI v), none]) (st_q := [fI 0]) (h_q := h) (cl_q := 0) (sl_q := 0) rfl ?_
        refine fw_if_ne rfl rfl (by decide +kernel) (by decide +kernel) (fun hc11 => ?_) (fun hc11 => absurd hc11 (by decide +kernel))
        refine fw_ld (-1000000003) rfl rfl (by decide +kernel) ?_
        exact ik_Wret rfl rfl ⟨_, _, rfl, rfl, rfl, rfl, Or.inr ⟨(congrArg (fun z => [fI z]) (by (repeat' split) <;> first | rfl | omega)), h14, h15, h16, (by omega), (hfr_refl [14, 15, 16] h)⟩⟩
      · refine ik_Wk 2 (pc_q := 13) (loc_q := [some (.ref 7)]) (st_q := [fI 1]) (h_q := h) (cl_q := 0) (sl_q := 0) rfl ?_
        refine ik_Wret rfl rfl ⟨_, _, rfl, rfl, ?_⟩
        refine ik_Wk 0 (pc_q := 71) (loc_q := [some (.ref 0), some (fI 0), some (fI 2), some (fI v), none]) (st_q := [fI 1]) (h_q := h) (cl_q := 0) (sl_q := 0) rfl ?_
        refine fw_if_ne rfl rfl (by decide +kernel) (by decide +kernel) (fun hc12 => absurd hc12 (by decide +kernel)) (fun hc12 => ?_)
        refine ik_Wk 1 (pc_q := 78) (loc_q := [some (.ref 0), some (fI 0), some (fI 2), some (fI v), none]) (st_q := [.ref 0]) (h_q := h) (cl_q := 0) (sl_q := 0) rfl ?_
        refine fw_gf rfl rfl h0 rfl ?_
        refine fw_gf rfl rfl h14 rfl ?_
        refine ik_Wk 2 (pc_q := 86) (loc_q := [some (.ref 0), some (fI 0), some (fI 2), some (fI v), none]) (st_q := [fI 3, fI 0, .ref 15]) (h_q := h) (cl_q := 0) (sl_q := 0) rfl ?_
        refine fw_mul rfl ?_
        refine ik_Wk 1 (pc_q := 88) (loc_q := [some (.ref 0), some (fI 0), some (fI 2), some (fI v), none]) (st_q := [fI 2, fI 0, .ref 15]) (h_q := h) (cl_q := 0) (sl_q := 0) rfl ?_
        refine fw_add rfl ?_
        refine fw_ial (z := 2) rfl h15 (by decide +kernel) (Nat.le_of_ble_eq_true rfl) (by decide +kernel) ?_
        refine ik_Wk 0 (pc_q := 90) (loc_q := [some (.ref 0), some (fI 0), some (fI 2), some (fI v), none]) (st_q := [fI fa]) (h_q := h) (cl_q := 0) (sl_q := 0) rfl ?_
        refine ik_Wk 2 (pc_q := 93) (loc_q := [some (.ref 0), some (fI 0), some (fI 2), some (fI v), some (fI fa)]) (st_q := [.ref 0]) (h_q := h) (cl_q := 0) (sl_q := 0) rfl ?_
        refine fw_gf rfl rfl h0 rfl ?_
        refine fw_gf rfl rfl h14 rfl ?_
        refine ik_Wk 2 (pc_q := 101) (loc_q := [some (.ref 0), some (fI 0), some (fI 2), some (fI v), some (fI fa)]) (st_q := [fI 3, fI 0, .ref 15]) (h_q := h) (cl_q := 0) (sl_q := 0) rfl ?_
        refine fw_mul rfl ?_
        refine ik_Wk 1 (pc_q := 103) (loc_q := [some (.ref 0), some (fI 0), some (fI 2), some (fI v), some (fI fa)]) (st_q := [fI 2, fI 0, .ref 15]) (h_q := h) (cl_q := 0) (sl_q := 0) rfl ?_
        refine fw_add rfl ?_
        refine ik_Wk 1 (pc_q := 105) (loc_q := [some (.ref 0), some (fI 0), some (fI 2), some (fI v), some (fI fa)]) (st_q := [fI v, fI 2, .ref 15]) (h_q := h) (cl_q := 0) (sl_q := 0) rfl ?_
        refine fx_ias (z := 2) rfl h15 (by decide +kernel) (Nat.le_of_ble_eq_true rfl) (by decide +kernel) ?_
        intro h_409 e_409 f_409 l_409
        have k_409 : cL h_409 := l_409.trans hl
        have fr_409 := hfr_wb (hfr_refl [14, 15, 16] h) f_409 l_409 rfl
        clear l_409
        have g_409_0 := (f_409 0 (Nat.ne_of_beq_eq_false rfl)).trans h0
        have g_409_7 := (f_409 7 (Nat.ne_of_beq_eq_false rfl)).trans h7
        have g_409_14 := (f_409 14 (Nat.ne_of_beq_eq_false rfl)).trans h14
        have g_409_16 := (f_409 16 (Nat.ne_of_beq_eq_false rfl)).trans h16
        have g_409_15 : cE h_409 15 (.inl (.int, fA [ka, pa, v, kb, pb, fb])) := e_409
        refine ik_Wk 1 (pc_q := 107) (loc_q := [some (.ref 0), some (fI 0), some (fI 2), some (fI v), some (fI fa)]) (st_q := [.ref 0]) (h_q := h_409) (cl_q := 0) (sl_q := 0) rfl ?_
        refine fw_gf rfl rfl g_409_0 rfl ?_
        refine fw_call 23 1 0 [.ref 14] [] rfl rfl rfl (Nat.le_of_ble_eq_true rfl) rfl rfl (fw_rec k_409 rfl g_409_14 rfl (Nat.le_of_ble_eq_true rfl)) (cs_restart (mi := mi) (ka := ka) (pa := pa) (fa := v) (kb := kb) (pb := pb) (fb := fb) (xa := xa) (xb := xb) (sd := dr) (by omega) (by omega) g_409_14 g_409_15 g_409_16 k_409) ?_
        rintro _ h_410 ⟨rfl, e_410_14, e_410_16, F_410⟩
        have k_410 : cL h_410 := F_410.1.trans k_409
        have fr_410 := hfr_cb fr_409 F_410 rfl
        have g_410_0 := (hfr_g F_410 0 rfl).trans g_409_0
        have g_410_7 := (hfr_g F_410 7 rfl).trans g_409_7
        have g_410_15 := (hfr_g F_410 15 rfl).trans g_409_15
        have g_410_14 : cE h_410 14 (.inr (1, [.ref 7, .ref 15, .ref 16, fI 0, fJ dr])) := e_410_14
        have g_410_16 : cE h_410 16 (.inl (.int, fA [mx_sp pa v, mx_sp pb fb])) := e_410_16
        refine ik_Wk 0 (pc_q := 113) (loc_q := [some (.ref 0), some (fI 0), some (fI 2), some (fI v), some (fI fa)]) (st_q := []) (h_q := h_410) (cl_q := 0) (sl_q := 0) rfl ?_
        refine ik_Wk 1 (pc_q := 115) (loc_q := [some (.ref 0), some (fI 0), some (fI 2), some (fI v), some (fI fa)]) (st_q := [fI fa]) (h_q := h_410) (cl_q := 0) (sl_q := 0) rfl ?_
        exact ik_Wret rfl rfl ⟨_, _, rfl, rfl, rfl, rfl, Or.inl ⟨rfl, g_410_14, g_410_15, g_410_16, (by omega), fr_410⟩⟩
    · refine fw_ld (-1000000002) rfl rfl (by decide +kernel) ?_
      exact ik_Wret rfl rfl ⟨_, _, rfl, rfl, rfl, rfl, Or.inr ⟨(congrArg (fun z => [fI z]) (by (repeat' split) <;> first | rfl | omega)), h14, h15, h16, (by omega), (hfr_refl [14, 15, 16] h)⟩⟩

theorem rp_cork02 {h : List ik_E} {ka : Int} {pa : Int} {fa : Int} {kb : Int} {pb : Int} {fb : Int} {xa : Int} {xb : Int} {mi : Int} {v : Int} {pl : Int} {f : Nat → Int} (q0 : 0 ≤ fa ∧ fa ≤ 30) (q1 : 0 ≤ fb ∧ fb ≤ 30) (q2 : 0 ≤ pl ∧ pl ≤ 12) (q3 : -2147483648 ≤ v ∧ v < 2147483648) (h66 : cE h 66 (.inr (10, (fI pl :: .ref 67 :: .ref 68 :: .ref 69 :: fI (f 4) :: .ref 70 :: .ref 71 :: fI mi :: fI (f 8) :: .ref 72 :: fI (f 10) :: fI (f 11) :: fI (f 12) :: fJ (f 13) :: fI (f 14) :: fI (f 15) :: fI (f 16) :: fI (f 17) :: .ref 73 :: .ref 74 :: .ref 75 :: .ref 76 :: .ref 77 :: .ref 78 :: fI (f 24) :: .ref 79 :: .ref 80 :: .ref 81 :: .ref 82 :: .ref 83 :: .ref 84 :: .ref 85 :: fJ (f 32) :: fJ (f 33) :: .ref 86 :: .ref 87 :: fI (f 36) :: .ref 88 :: .ref 89 :: .ref 90 :: .ref 91 :: .ref 92 :: .ref 93 :: [])))) (h70 : cE h 70 (.inl (.int, fA [ka, pa, fa, kb, pb, fb]))) (h71 : cE h 71 (.inl (.int, fA [xa, xb]))) (hl : h.length = 94) : ik_F 158 [.ref 66, fI 0, fI 2, fI v] h (fun rv h_q => (rv = [fI fa] ∧ cE h_q 66 (.inr (10, (fI pl :: .ref 67 :: .ref 68 :: .ref 69 :: fI (f 4) :: .ref 70 :: .ref 71 :: fI 0 :: fI (f 8) :: .ref 72 :: fI (f 10) :: fI (f 11) :: fI (f 12) :: fJ (f 13) :: fI (f 14) :: fI (f 15) :: fI (f 16) :: fI (f 17) :: .ref 73 :: .ref 74 :: .ref 75 :: .ref 76 :: .ref 77 :: .ref 78 :: fI (f 24) :: .ref 79 :: .ref 80 :: .ref 81 :: .ref 82 :: .ref 83 :: .ref 84 :: .ref 85 :: fJ (f 32) :: fJ (f 33) :: .ref 86 :: .ref 87 :: fI (f 36) :: .ref 88 :: .ref 89 :: .ref 90 :: .ref 91 :: .ref 92 :: .ref 93 :: []))) ∧ cE h_q 70 (.inl (.int, fA [ka, pa, v, kb, pb, fb])) ∧ cE h_q 71 (.inl (.int, fA [mx_sp pa v, mx_sp pb fb])) ∧ ((0 ≤ v ∧ v ≤ 30) ∧ 1 < pl) ∧ hfr [66, 70, 71] h h_q) ∨ (rv = [fI (if 0 ≤ v ∧ v ≤ 30 then -1000000003 else -1000000002)] ∧ cE h_q 66 (.inr (10, (fI pl :: .ref 67 :: .ref 68 :: .ref 69 :: fI (f 4) :: .ref 70 :: .ref 71 :: fI mi :: fI (f 8) :: .ref 72 :: fI (f 10) :: fI (f 11) :: fI (f 12) :: fJ (f 13) :: fI (f 14) :: fI (f 15) :: fI (f 16) :: fI (f 17) :: .ref 73 :: .ref 74 :: .ref 75 :: .ref 76 :: .ref 77 :: .ref 78 :: fI (f 24) :: .ref 79 :: .ref 80 :: .ref 81 :: .ref 82 :: .ref 83 :: .ref 84 :: .ref 85 :: fJ (f 32) :: fJ (f 33) :: .ref 86 :: .ref 87 :: fI (f 36) :: .ref 88 :: .ref 89 :: .ref 90 :: .ref 91 :: .ref 92 :: .ref 93 :: []))) ∧ cE h_q 70 (.inl (.int, fA [ka, pa, fa, kb, pb, fb])) ∧ cE h_q 71 (.inl (.int, fA [xa, xb])) ∧ (¬ ((0 ≤ v ∧ v ≤ 30) ∧ 1 < pl)) ∧ hfr [66, 70, 71] h h_q)) := by
  refine ik_Wk 1 (pc_q := 1) (loc_q := [some (.ref 66), some (fI 0), some (fI 2), some (fI v), none]) (st_q := [fI 0]) (h_q := h) (cl_q := 0) (sl_q := 0) rfl ?_
  refine ik_Wc 132 1 3 [fI 0] [] rfl rfl rfl (by decide +kernel) rfl rfl (fw_sta hl rfl (by decide +kernel)) ?_
  refine ik_Wk 0 (pc_q := 0) (loc_q := [some (fI 0)]) (st_q := []) (h_q := h) (cl_q := 0) (sl_q := 0) rfl ?_
  refine ik_Wk 1 (pc_q := 1) (loc_q := [some (fI 0)]) (st_q := [fI 0]) (h_q := h) (cl_q := 0) (sl_q := 0) rfl ?_
  refine fw_i2l rfl (by omega) (by omega) ?_
  refine fw_lc (z := 0) rfl (by decide +kernel) ?_
  refine fw_lc (z := 1) rfl (by decide +kernel) ?_
  refine fw_call 127 3 3 [fJ 0, fJ 0, fJ 1] [] rfl rfl rfl (Nat.le_of_ble_eq_true rfl) rfl rfl (fw_sta hl rfl (by decide +kernel)) (cr_in (v := 0) (a := 0) (b := 1) (by omega) (by omega) (by omega)  hl) ?_
  rintro _ h_411 (⟨rfl, p_411_0, F_411⟩ | ⟨rfl, p_411_0, F_411⟩)
  · have k_411 : cL h_411 := F_411.1.trans hl
    have fr_411 := hfr_cb (hfr_refl [66, 70, 71] h) F_411 rfl
    have g_411_66 := (hfr_g F_411 66 rfl).trans h66
    have g_411_70 := (hfr_g F_411 70 rfl).trans h70
    have g_411_71 := (hfr_g F_411 71 rfl).trans h71
    refine ik_Wk 0 (pc_q := 7) (loc_q := [some (fI 0)]) (st_q := [fI 1]) (h_q := h_411) (cl_q := 0) (sl_q := 0) rfl ?_
    refine ik_Wret rfl rfl ⟨_, _, rfl, rfl, ?_⟩
    refine ik_Wk 0 (pc_q := 4) (loc_q := [some (.ref 66), some (fI 0), some (fI 2), some (fI v), none]) (st_q := [fI 1]) (h_q := h_411) (cl_q := 0) (sl_q := 0) rfl ?_
    refine fw_if_ne rfl rfl (by decide +kernel) (by decide +kernel) (fun hc1 => absurd hc1 (by decide +kernel)) (fun hc1 => ?_)
    refine ik_Wk 1 (pc_q := 11) (loc_q := [some (.ref 66), some (fI 0), some (fI 2), some (fI v), none]) (st_q := [fI 2]) (h_q := h_411) (cl_q := 0) (sl_q := 0) rfl ?_
    refine fw_if_ne rfl rfl (by decide +kernel) (by decide +kernel) (fun hc2 => absurd hc2 (by decide +kernel)) (fun hc2 => ?_)
    refine ik_Wk 2 (pc_q := 23) (loc_q := [some (.ref 66), some (fI 0), some (fI 2), some (fI v), none]) (st_q := [fI 1, fI 2]) (h_q := h_411) (cl_q := 0) (sl_q := 0) rfl ?_
    refine fw_ic_ne rfl rfl (by decide +kernel) (by decide +kernel) (by decide +kernel) (by decide +kernel) (fun hc3 => absurd hc3 (by decide +kernel)) (fun hc3 => ?_)
    refine ik_Wk 1 (pc_q := 38) (loc_q := [some (.ref 66), some (fI 0), some (fI 2), some (fI v), none]) (st_q := [fI 2]) (h_q := h_411) (cl_q := 0) (sl_q := 0) rfl ?_
    refine fw_i2l rfl (by omega) (by omega) ?_
    refine fw_lc (z := 0) rfl (by decide +kernel) ?_
    refine fw_l2 2 rfl rfl (by decide +kernel) ?_
    refine fw_call 127 3 3 [fJ 2, fJ 0, fJ 2] [] rfl rfl rfl (Nat.le_of_ble_eq_true rfl) rfl rfl (fw_sta k_411 rfl (by decide +kernel)) (cr_in (v := 2) (a := 0) (b := 2) (by omega) (by omega) (by omega)  k_411) ?_
    rintro _ h_412 (⟨rfl, p_412_0, F_412⟩ | ⟨rfl, p_412_0, F_412⟩)
    · have k_412 : cL h_412 := F_412.1.trans k_411
      have fr_412 := hfr_cb fr_411 F_412 rfl
      have g_412_66 := (hfr_g F_412 66 rfl).trans g_411_66
      have g_412_70 := (hfr_g F_412 70 rfl).trans g_411_70
      have g_412_71 := (hfr_g F_412 71 rfl).trans g_411_71
      refine ik_Wk 0 (pc_q := 46) (loc_q := [some (.ref 66), some (fI 0), some (fI 2), some (fI v), none]) (st_q := [fI 1]) (h_q := h_412) (cl_q := 0) (sl_q := 0) rfl ?_
      refine fw_if_eq rfl rfl (by decide +kernel) (by decide +kernel) (fun hc4 => absurd hc4 (by decide +kernel)) (fun hc4 => ?_)
      refine ik_Wk 2 (pc_q := 51) (loc_q := [some (.ref 66), some (fI 0), some (fI 2), some (fI v), none]) (st_q := [fI 2, fI 2]) (h_q := h_412) (cl_q := 0) (sl_q := 0) rfl ?_
      refine fw_ic_ne rfl rfl (by decide +kernel) (by decide +kernel) (by decide +kernel) (by decide +kernel) (fun hc5 => ?_) (fun hc5 => absurd hc5 (by decide +kernel))
      refine ik_Wk 1 (pc_q := 55) (loc_q := [some (.ref 66), some (fI 0), some (fI 2), some (fI v), none]) (st_q := [fI v]) (h_q := h_412) (cl_q := 0) (sl_q := 0) rfl ?_
      refine fw_i2l rfl (by omega) (by omega) ?_
      refine fw_lc (z := 0) rfl (by decide +kernel) ?_
      refine fw_l2 30 rfl rfl (by decide +kernel) ?_
      refine fw_call 127 3 3 [fJ v, fJ 0, fJ 30] [] rfl rfl rfl (Nat.le_of_ble_eq_true rfl) rfl rfl (fw_sta k_412 rfl (by decide +kernel)) (cr_in (v := v) (a := 0) (b := 30) (by omega) (by omega) (by omega)  k_412) ?_
      rintro _ h_413 (⟨rfl, p_413_0, F_413⟩ | ⟨rfl, p_413_0, F_413⟩)
      · have k_413 : cL h_413 := F_413.1.trans k_412
        have fr_413 := hfr_cb fr_412 F_413 rfl
        have g_413_66 := (hfr_g F_413 66 rfl).trans g_412_66
        have g_413_70 := (hfr_g F_413 70 rfl).trans g_412_70
        have g_413_71 := (hfr_g F_413 71 rfl).trans g_412_71
        refine ik_Wk 0 (pc_q := 63) (loc_q := [some (.ref 66), some (fI 0), some (fI 2), some (fI v), none]) (st_q := [fI 1]) (h_q := h_413) (cl_q := 0) (sl_q := 0) rfl ?_
        refine fw_if_ne rfl rfl (by decide +kernel) (by decide +kernel) (fun hc6 => absurd hc6 (by decide +kernel)) (fun hc6 => ?_)
        refine ik_Wk 1 (pc_q := 70) (loc_q := [some (.ref 66), some (fI 0), some (fI 2), some (fI v), none]) (st_q := [.ref 66]) (h_q := h_413) (cl_q := 0) (sl_q := 0) rfl ?_
        refine ik_Wc 134 1 0 [.ref 66] [] rfl rfl rfl (by decide +kernel) rfl rfl (fw_rec k_413 rfl g_413_66 rfl (Nat.le_of_ble_eq_true rfl)) ?_
        refine ik_Wk 0 (pc_q := 0) (loc_q := [some (.ref 66)]) (st_q := []) (h_q := h_413) (cl_q := 0) (sl_q := 0) rfl ?_
        refine ik_Wk 1 (pc_q := 1) (loc_q := [some (.ref 66)]) (st_q := [.ref 66]) (h_q := h_413) (cl_q := 0) (sl_q := 0) rfl ?_
        refine fw_gf rfl rfl g_413_66 rfl ?_
        refine ik_Wk 1 (pc_q := 5) (loc_q := [some (.ref 66)]) (st_q := [fI 1, fI pl]) (h_q := h_413) (cl_q := 0) (sl_q := 0) rfl ?_
        refine fw_ic_le rfl rfl (by omega) (by omega) (by omega) (by omega) (fun hc7 => ?_) (fun hc7 => ?_)
        · refine ik_Wk 1 (pc_q := 13) (loc_q := [some (.ref 66)]) (st_q := [fI 0]) (h_q := h_413) (cl_q := 0) (sl_q := 0) rfl ?_
          refine ik_Wret rfl rfl ⟨_, _, rfl, rfl, ?_⟩
          refine ik_Wk 0 (pc_q := 73) (loc_q := [some (.ref 66), some (fI 0), some (fI 2), some (fI v), none]) (st_q := [fI 0]) (h_q := h_413) (cl_q := 0) (sl_q := 0) rfl ?_
          refine fw_if_ne rfl rfl (by decide +kernel) (by decide +kernel) (fun hc8 => ?_) (fun hc8 => absurd hc8 (by decide +kernel))
          refine fw_ld (-1000000003) rfl rfl (by decide +kernel) ?_
          exact ik_Wret rfl rfl ⟨_, _, rfl, rfl, rfl, rfl, Or.inr ⟨(congrArg (fun z => [fI z]) (by (repeat' split) <;> first | rfl | omega)), g_413_66, g_413_70, g_413_71, (by omega), fr_413⟩⟩
        · refine ik_Wk 2 (pc_q := 13) (loc_q := [some (.ref 66)]) (st_q := [fI 1]) (h_q := h_413) (cl_q := 0) (sl_q := 0) rfl ?_
          refine ik_Wret rfl rfl ⟨_, _, rfl, rfl, ?_⟩
          refine ik_Wk 0 (pc_q := 73) (loc_q := [some (.ref 66), some (fI 0), some (fI 2), some (fI v), none]) (st_q := [fI 1]) (h_q := h_413) (cl_q := 0) (sl_q := 0) rfl ?_
          refine fw_if_ne rfl rfl (by decide +kernel) (by decide +kernel) (fun hc9 => absurd hc9 (by decide +kernel)) (fun hc9 => ?_)
          refine ik_Wk 1 (pc_q := 80) (loc_q := [some (.ref 66), some (fI 0), some (fI 2), some (fI v), none]) (st_q := [.ref 66]) (h_q := h_413) (cl_q := 0) (sl_q := 0) rfl ?_
          refine fw_gf rfl rfl g_413_66 rfl ?_
          refine ik_Wk 2 (pc_q := 85) (loc_q := [some (.ref 66), some (fI 0), some (fI 2), some (fI v), none]) (st_q := [fI 0, fI 3, .ref 70]) (h_q := h_413) (cl_q := 0) (sl_q := 0) rfl ?_
          refine fw_mul rfl ?_
          refine ik_Wk 1 (pc_q := 87) (loc_q := [some (.ref 66), some (fI 0), some (fI 2), some (fI v), none]) (st_q := [fI 2, fI 0, .ref 70]) (h_q := h_413) (cl_q := 0) (sl_q := 0) rfl ?_
          refine fw_add rfl ?_
          refine fw_ial (z := 2) rfl g_413_70 (by decide +kernel) (Nat.le_of_ble_eq_true rfl) (by decide +kernel) ?_
          refine ik_Wk 0 (pc_q := 89) (loc_q := [some (.ref 66), some (fI 0), some (fI 2), some (fI v), none]) (st_q := [fI fa]) (h_q := h_413) (cl_q := 0) (sl_q := 0) rfl ?_
          refine ik_Wk 2 (pc_q := 92) (loc_q := [some (.ref 66), some (fI 0), some (fI 2), some (fI v), some (fI fa)]) (st_q := [.ref 66]) (h_q := h_413) (cl_q := 0) (sl_q := 0) rfl ?_
          refine fw_gf rfl rfl g_413_66 rfl ?_
          refine ik_Wk 2 (pc_q := 97) (loc_q := [some (.ref 66), some (fI 0), some (fI 2), some (fI v), some (fI fa)]) (st_q := [fI 0, fI 3, .ref 70]) (h_q := h_413) (cl_q := 0) (sl_q := 0) rfl ?_
          refine fw_mul rfl ?_
          refine ik_Wk 1 (pc_q := 99) (loc_q := [some (.ref 66), some (fI 0), some (fI 2), some (fI v), some (fI fa)]) (st_q := [fI 2, fI 0, .ref 70]) (h_q := h_413) (cl_q := 0) (sl_q := 0) rfl ?_
          refine fw_add rfl ?_
          refine ik_Wk 1 (pc_q := 101) (loc_q := [some (.ref 66), some (fI 0), some (fI 2), some (fI v), some (fI fa)]) (st_q := [fI v, fI 2, .ref 70]) (h_q := h_413) (cl_q := 0) (sl_q := 0) rfl ?_
          refine fx_ias (z := 2) rfl g_413_70 (by decide +kernel) (Nat.le_of_ble_eq_true rfl) (by decide +kernel) ?_
          intro h_414 e_414 f_414 l_414
          have k_414 : cL h_414 := l_414.trans k_413
          have fr_414 := hfr_wb fr_413 f_414 l_414 rfl
          clear l_414
          have g_414_66 := (f_414 66 (Nat.ne_of_beq_eq_false rfl)).trans g_413_66
          have g_414_71 := (f_414 71 (Nat.ne_of_beq_eq_false rfl)).trans g_413_71
          have g_414_70 : cE h_414 70 (.inl (.int, fA [ka, pa, v, kb, pb, fb])) := e_414
          refine ik_Wk 1 (pc_q := 103) (loc_q := [some (.ref 66), some (fI 0), some (fI 2), some (fI v), some (fI fa)]) (st_q := [.ref 66]) (h_q := h_414) (cl_q := 0) (sl_q := 0) rfl ?_
          refine fw_call 194 1 0 [.ref 66] [] rfl rfl rfl (Nat.le_of_ble_eq_true rfl) rfl rfl (fw_rec k_414 rfl g_414_66 rfl (Nat.le_of_ble_eq_true rfl)) (cr_begin (mi := mi) (ka := ka) (pa := pa) (fa := v) (kb := kb) (pb := pb) (fb := fb) (xa := xa) (xb := xb) (f := fun j => ((pl :: 0 :: 0 :: 0 :: f 4 :: 0 :: 0 :: 0 :: f 8 :: 0 :: f 10 :: f 11 :: f 12 :: f 13 :: f 14 :: f 15 :: f 16 :: f 17 :: 0 :: 0 :: 0 :: 0 :: 0 :: 0 :: f 24 :: 0 :: 0 :: 0 :: 0 :: 0 :: 0 :: 0 :: f 32 :: f 33 :: 0 :: 0 :: f 36 :: 0 :: 0 :: 0 :: 0 :: 0 :: 0 :: []) : List Int).getD j 0) (by omega) (by omega) g_414_66 g_414_70 g_414_71 k_414) ?_
          rintro _ h_415 ⟨rfl, e_415_66, e_415_71, F_415⟩
          have k_415 : cL h_415 := F_415.1.trans k_414
          have fr_415 := hfr_cb fr_414 F_415 rfl
          have g_415_70 := (hfr_g F_415 70 rfl).trans g_414_70
          have g_415_66 : cE h_415 66 (.inr (10, (fI pl :: .ref 67 :: .ref 68 :: .ref 69 :: fI (f 4) :: .ref 70 :: .ref 71 :: fI 0 :: fI (f 8) :: .ref 72 :: fI (f 10) :: fI (f 11) :: fI (f 12) :: fJ (f 13) :: fI (f 14) :: fI (f 15) :: fI (f 16) :: fI (f 17) :: .ref 73 :: .ref 74 :: .ref 75 :: .ref 76 :: .ref 77 :: .ref 78 :: fI (f 24) :: .ref 79 :: .ref 80 :: .ref 81 :: .ref 82 :: .ref 83 :: .ref 84 :: .ref 85 :: fJ (f 32) :: fJ (f 33) :: .ref 86 :: .ref 87 :: fI (f 36) :: .ref 88 :: .ref 89 :: .ref 90 :: .ref 91 :: .ref 92 :: .ref 93 :: []))) := e_415_66
          have g_415_71 : cE h_415 71 (.inl (.int, fA [mx_sp pa v, mx_sp pb fb])) := e_415_71
          refine ik_Wk 0 (pc_q := 106) (loc_q := [some (.ref 66), some (fI 0), some (fI 2), some (fI v), some (fI fa)]) (st_q := []) (h_q := h_415) (cl_q := 0) (sl_q := 0) rfl ?_
          refine ik_Wk 1 (pc_q := 108) (loc_q := [some (.ref 66), some (fI 0), some (fI 2), some (fI v), some (fI fa)]) (st_q := [fI fa]) (h_q := h_415) (cl_q := 0) (sl_q := 0) rfl ?_
          exact ik_Wret rfl rfl ⟨_, _, rfl, rfl, rfl, rfl, Or.inl ⟨rfl, g_415_66, g_415_70, g_415_71, (by omega), fr_415⟩⟩
      · have k_413 : cL h_413 := F_413.1.trans k_412
        have fr_413 := hfr_cb fr_412 F_413 rfl
        have g_413_66 := (hfr_g F_413 66 rfl).trans g_412_66
        have g_413_70 := (hfr_g F_413 70 rfl).trans g_412_70
        have g_413_71 := (hfr_g F_413 71 rfl).trans g_412_71
        refine ik_Wk 0 (pc_q := 63) (loc_q := [some (.ref 66), some (fI 0), some (fI 2), some (fI v), none]) (st_q := [fI 0]) (h_q := h_413) (cl_q := 0) (sl_q := 0) rfl ?_
        refine fw_if_ne rfl rfl (by decide +kernel) (by decide +kernel) (fun hc10 => ?_) (fun hc10 => absurd hc10 (by decide +kernel))
        refine fw_ld (-1000000002) rfl rfl (by decide +kernel) ?_
        exact ik_Wret rfl rfl ⟨_, _, rfl, rfl, rfl, rfl, Or.inr ⟨(congrArg (fun z => [fI z]) (by (repeat' split) <;> first | rfl | omega)), g_413_66, g_413_70, g_413_71, (by omega), fr_413⟩⟩
    · have k_412 : cL h_412 := F_412.1.trans k_411
      have fr_412 := hfr_cb fr_411 F_412 rfl
      have g_412_66 := (hfr_g F_412 66 rfl).trans g_411_66
      have g_412_70 := (hfr_g F_412 70 rfl).trans g_411_70
      have g_412_71 := (hfr_g F_412 71 rfl).trans g_411_71
      refine ik_Wk 0 (pc_q := 46) (loc_q := [some (.ref 66), some (fI 0), some (fI 2), some (fI v), none]) (st_q := [fI 0]) (h_q := h_412) (cl_q := 0) (sl_q := 0) rfl ?_
      refine fw_if_eq rfl rfl (by decide +kernel) (by decide +kernel) (fun hc11 => ?_) (fun hc11 => absurd hc11 (by decide +kernel))
      refine fw_ld (-1000000002) rfl rfl (by decide +kernel) ?_
      exact ik_Wret rfl rfl ⟨_, _, rfl, rfl, rfl, rfl, Or.inr ⟨(congrArg (fun z => [fI z]) (by (repeat' split) <;> first | rfl | omega)), g_412_66, g_412_70, g_412_71, (by omega), fr_412⟩⟩
  · have k_411 : cL h_411 := F_411.1.trans hl
    have fr_411 := hfr_cb (hfr_refl [66, 70, 71] h) F_411 rfl
    have g_411_66 := (hfr_g F_411 66 rfl).trans h66
    have g_411_70 := (hfr_g F_411 70 rfl).trans h70
    have g_411_71 := (hfr_g F_411 71 rfl).trans h71
    refine ik_Wk 0 (pc_q := 7) (loc_q := [some (fI 0)]) (st_q := [fI 0]) (h_q := h_411) (cl_q := 0) (sl_q := 0) rfl ?_
    refine ik_Wret rfl rfl ⟨_, _, rfl, rfl, ?_⟩
    refine ik_Wk 0 (pc_q := 4) (loc_q := [some (.ref 66), some (fI 0), some (fI 2), some (fI v), none]) (st_q := [fI 0]) (h_q := h_411) (cl_q := 0) (sl_q := 0) rfl ?_
    refine fw_if_ne rfl rfl (by decide +kernel) (by decide +kernel) (fun hc12 => ?_) (fun hc12 => absurd hc12 (by decide +kernel))
    refine fw_ld (-1000000001) rfl rfl (by decide +kernel) ?_
    exact ik_Wret rfl rfl ⟨_, _, rfl, rfl, rfl, rfl, Or.inr ⟨(congrArg (fun z => [fI z]) (by (repeat' split) <;> first | rfl | omega)), g_411_66, g_411_70, g_411_71, (by omega), fr_411⟩⟩

theorem cp_cork0E {h : List ik_E} {what : Int} {v : Int} (q0 : -2147483648 ≤ what ∧ what < 2147483648) (q1 : -2147483648 ≤ v ∧ v < 2147483648) (q2 : what < 0 ∨ 2 < what) (h0 : cE h 0 (.inr (9, [.ref 1, .ref 7, .ref 14, .ref 17, .ref 45, .ref 51, .ref 54, .ref 57]))) (hl : h.length = 94) : ik_F 95 [.ref 0, fI 0, fI what, fI v] h (fun rv h_q => rv = [fI (-1000000002)] ∧ hfr [] h h_q) := by
  refine ik_Wk 1 (pc_q := 1) (loc_q := [some (.ref 0), some (fI 0), some (fI what), some (fI v), none]) (st_q := [fI 0]) (h_q := h) (cl_q := 0) (sl_q := 0) rfl ?_
  refine ik_Wc 121 1 3 [fI 0] [] rfl rfl rfl (by decide +kernel) rfl rfl (fw_sta hl rfl (by decide +kernel)) ?_
  refine ik_Wk 0 (pc_q := 0) (loc_q := [some (fI 0)]) (st_q := []) (h_q := h) (cl_q := 0) (sl_q := 0) rfl ?_
  refine ik_Wk 1 (pc_q := 1) (loc_q := [some (fI 0)]) (st_q := [fI 0]) (h_q := h) (cl_q := 0) (sl_q := 0) rfl ?_
  refine fw_if_eq rfl rfl (by decide +kernel) (by decide +kernel) (fun hc1 => ?_) (fun hc1 => absurd hc1 (by decide +kernel))
  refine ik_Wk 2 (pc_q := 14) (loc_q := [some (fI 0)]) (st_q := [fI 1]) (h_q := h) (cl_q := 0) (sl_q := 0) rfl ?_
  refine ik_Wret rfl rfl ⟨_, _, rfl, rfl, ?_⟩
  refine ik_Wk 0 (pc_q := 4) (loc_q := [some (.ref 0), some (fI 0), some (fI what), some (fI v), none]) (st_q := [fI 1]) (h_q := h) (cl_q := 0) (sl_q := 0) rfl ?_
  refine fw_if_eq rfl rfl (by decide +kernel) (by decide +kernel) (fun hc2 => absurd hc2 (by decide +kernel)) (fun hc2 => ?_)
  refine ik_Wk 1 (pc_q := 8) (loc_q := [some (.ref 0), some (fI 0), some (fI what), some (fI v), none]) (st_q := [fI what]) (h_q := h) (cl_q := 0) (sl_q := 0) rfl ?_
  refine fw_if_ne rfl rfl (by omega) (by omega) (fun hc3 => absurd hc3 (by omega)) (fun hc3 => ?_)
  refine ik_Wk 2 (pc_q := 20) (loc_q := [some (.ref 0), some (fI 0), some (fI what), some (fI v), none]) (st_q := [fI 1, fI what]) (h_q := h) (cl_q := 0) (sl_q := 0) rfl ?_
  refine fw_ic_ne rfl rfl (by omega) (by omega) (by omega) (by omega) (fun hc4 => absurd hc4 (by omega)) (fun hc4 => ?_)
  refine ik_Wk 1 (pc_q := 38) (loc_q := [some (.ref 0), some (fI 0), some (fI what), some (fI v), none]) (st_q := [fI what]) (h_q := h) (cl_q := 0) (sl_q := 0) rfl ?_
  refine fw_if_lt rfl rfl (by omega) (by omega) (fun hc5 => ?_) (fun hc5 => ?_)
  · refine fw_ld (-1000000002) rfl rfl (by decide +kernel) ?_
    exact ik_Wret rfl rfl ⟨_, _, rfl, rfl, rfl, rfl, ⟨rfl, (hfr_refl [] h)⟩⟩
  · refine ik_Wk 2 (pc_q := 43) (loc_q := [some (.ref 0), some (fI 0), some (fI what), some (fI v), none]) (st_q := [fI 2, fI what]) (h_q := h) (cl_q := 0) (sl_q := 0) rfl ?_
    refine fw_ic_gt rfl rfl (by omega) (by omega) (by omega) (by omega) (fun hc6 => ?_) (fun hc6 => absurd hc6 (by omega))
    refine fw_ld (-1000000002) rfl rfl (by decide +kernel) ?_
    exact ik_Wret rfl rfl ⟨_, _, rfl, rfl, rfl, rfl, ⟨rfl, (hfr_refl [] h)⟩⟩

theorem rp_cork0E {h : List ik_E} {f : Nat → Int} {what : Int} {v : Int} (q0 : -2147483648 ≤ what ∧ what < 2147483648) (q1 : -2147483648 ≤ v ∧ v < 2147483648) (q2 : what < 0 ∨ 2 < what) (h66 : cE h 66 (.inr (10, (fI (f 0) :: .ref 67 :: .ref 68 :: .ref 69 :: fI (f 4) :: .ref 70 :: .ref 71 :: fI (f 7) :: fI (f 8) :: .ref 72 :: fI (f 10) :: fI (f 11) :: fI (f 12) :: fJ (f 13) :: fI (f 14) :: fI (f 15) :: fI (f 16) :: fI (f 17) :: .ref 73 :: .ref 74 :: .ref 75 :: .ref 76 :: .ref 77 :: .ref 78 :: fI (f 24) :: .ref 79 :: .ref 80 :: .ref 81 :: .ref 82 :: .ref 83 :: .ref 84 :: .ref 85 :: fJ (f 32) :: fJ (f 33) :: .ref 86 :: .ref 87 :: fI (f 36) :: .ref 88 :: .ref 89 :: .ref 90 :: .ref 91 :: .ref 92 :: .ref 93 :: [])))) (hl : h.length = 94) : ik_F 158 [.ref 66, fI 0, fI what, fI v] h (fun rv h_q => rv = [fI (-1000000002)] ∧ hfr [] h h_q) := by
  refine ik_Wk 1 (pc_q := 1) (loc_q := [some (.ref 66), some (fI 0), some (fI what), some (fI v), none]) (st_q := [fI 0]) (h_q := h) (cl_q := 0) (sl_q := 0) rfl ?_
  refine ik_Wc 132 1 3 [fI 0] [] rfl rfl rfl (by decide +kernel) rfl rfl (fw_sta hl rfl (by decide +kernel)) ?_
  refine ik_Wk 0 (pc_q := 0) (loc_q := [some (fI 0)]) (st_q := []) (h_q := h) (cl_q := 0) (sl_q := 0) rfl ?_
  refine ik_Wk 1 (pc_q := 1) (loc_q := [some (fI 0)]) (st_q := [fI 0]) (h_q := h) (cl_q := 0) (sl_q := 0) rfl ?_
  refine fw_i2l rfl (by omega) (by omega) ?_
  refine fw_lc (z := 0) rfl (by decide +kernel) ?_
  refine fw_lc (z := 1) rfl (by decide +kernel) ?_
  refine fw_call 127 3 3 [fJ 0, fJ 0, fJ 1] [] rfl rfl rfl (Nat.le_of_ble_eq_true rfl) rfl rfl (fw_sta hl rfl (by decide +kernel)) (cr_in (v := 0) (a := 0) (b := 1) (by omega) (by omega) (by omega)  hl) ?_
  rintro _ h_416 (⟨rfl, p_416_0, F_416⟩ | ⟨rfl, p_416_0, F_416⟩)
  · have k_416 : cL h_416 := F_416.1.trans hl
    have fr_416 := hfr_cb (hfr_refl [] h) F_416 rfl
    have g_416_66 := (hfr_g F_416 66 rfl).trans h66
    refine ik_Wk 0 (pc_q := 7) (loc_q := [some (fI 0)]) (st_q := [fI 1]) (h_q := h_416) (cl_q := 0) (sl_q := 0) rfl ?_
    refine ik_Wret rfl rfl ⟨_, _, rfl, rfl, ?_⟩
    refine ik_Wk 0 (pc_q := 4) (loc_q := [some (.ref 66), some (fI 0), some (fI what), some (fI v), none]) (st_q := [fI 1]) (h_q := h_416) (cl_q := 0) (sl_q := 0) rfl ?_
    refine fw_if_ne rfl rfl (by decide +kernel) (by decide +kernel) (fun hc1 => absurd hc1 (by decide +kernel)) (fun hc1 => ?_)
    refine ik_Wk 1 (pc_q := 11) (loc_q := [some (.ref 66), some (fI 0), some (fI what), some (fI v), none]) (st_q := [fI what]) (h_q := h_416) (cl_q := 0) (sl_q := 0) rfl ?_
    refine fw_if_ne rfl rfl (by omega) (by omega) (fun hc2 => absurd hc2 (by omega)) (fun hc2 => ?_)
    refine ik_Wk 2 (pc_q := 23) (loc_q := [some (.ref 66), some (fI 0), some (fI what), some (fI v), none]) (st_q := [fI 1, fI what]) (h_q := h_416) (cl_q := 0) (sl_q := 0) rfl ?_
    refine fw_ic_ne rfl rfl (by omega) (by omega) (by omega) (by omega) (fun hc3 => absurd hc3 (by omega)) (fun hc3 => ?_)
    refine ik_Wk 1 (pc_q := 38) (loc_q := [some (.ref 66), some (fI 0), some (fI what), some (fI v), none]) (st_q := [fI what]) (h_q := h_416) (cl_q := 0) (sl_q := 0) rfl ?_
    refine fw_i2l rfl (by omega) (by omega) ?_
    refine fw_lc (z := 0) rfl (by decide +kernel) ?_
    refine fw_l2 2 rfl rfl (by decide +kernel) ?_
    refine fw_call 127 3 3 [fJ what, fJ 0, fJ 2] [] rfl rfl rfl (Nat.le_of_ble_eq_true rfl) rfl rfl (fw_sta k_416 rfl (by decide +kernel)) (cr_in (v := what) (a := 0) (b := 2) (by omega) (by omega) (by omega)  k_416) ?_
    rintro _ h_417 (⟨rfl, p_417_0, F_417⟩ | ⟨rfl, p_417_0, F_417⟩)
    · have k_417 : cL h_417 := F_417.1.trans k_416
      have fr_417 := hfr_cb fr_416 F_417 rfl
      have g_417_66 := (hfr_g F_417 66 rfl).trans g_416_66
      omega
    · have k_417 : cL h_417 := F_417.1.trans k_416
      have fr_417 := hfr_cb fr_416 F_417 rfl
      have g_417_66 := (hfr_g F_417 66 rfl).trans g_416_66
      refine ik_Wk 0 (pc_q := 46) (loc_q := [some (.ref 66), some (fI 0), some (fI what), some (fI v), none]) (st_q := [fI 0]) (h_q := h_417) (cl_q := 0) (sl_q := 0) rfl ?_
      refine fw_if_eq rfl rfl (by decide +kernel) (by decide +kernel) (fun hc4 => ?_) (fun hc4 => absurd hc4 (by decide +kernel))
      refine fw_ld (-1000000002) rfl rfl (by decide +kernel) ?_
      exact ik_Wret rfl rfl ⟨_, _, rfl, rfl, rfl, rfl, ⟨rfl, fr_417⟩⟩
  · have k_416 : cL h_416 := F_416.1.trans hl
    have fr_416 := hfr_cb (hfr_refl [] h) F_416 rfl
    have g_416_66 := (hfr_g F_416 66 rfl).trans h66
    omega

theorem cp_cork10 {h : List ik_E} {ka : Int} {pa : Int} {fa : Int} {kb : Int} {pb : Int} {fb : Int} {xa : Int} {xb : Int} {mi : Int} {dr : Int} {v : Int} {pl : Int} {st : Int} {lo : Int} (q0 : 0 ≤ fa ∧ fa ≤ 30) (q1 : 0 ≤ fb ∧ fb ≤ 30) (q2 : 0 ≤ pl ∧ pl ≤ 12) (q3 : -2147483648 ≤ v ∧ v < 2147483648) (h0 : cE h 0 (.inr (9, [.ref 1, .ref 7, .ref 14, .ref 17, .ref 45, .ref 51, .ref 54, .ref 57]))) (h7 : cE h 7 (.inr (0, [fI pl, fI st, fI lo, .ref 8, .ref 9, .ref 10, .ref 11, .ref 12, .ref 13]))) (h14 : cE h 14 (.inr (1, [.ref 7, .ref 15, .ref 16, fI mi, fJ dr]))) (h15 : cE h 15 (.inl (.int, fA [ka, pa, fa, kb, pb, fb]))) (h16 : cE h 16 (.inl (.int, fA [xa, xb]))) (hl : h.length = 94) : ik_F 95 [.ref 0, fI 1, fI 0, fI v] h (fun rv h_q => (rv = [fI kb] ∧ cE h_q 14 (.inr (1, [.ref 7, .ref 15, .ref 16, fI 0, fJ dr])) ∧ cE h_q 15 (.inl (.int, fA [ka, pa, fa, v, pb, fb])) ∧ cE h_q 16 (.inl (.int, fA [mx_sp pa fa, mx_sp pb fb])) ∧ ((0 ≤ v ∧ v ≤ 2) ∧ 1 < pl) ∧ hfr [14, 15, 16] h h_q) ∨ (rv = [fI (if 0 ≤ v ∧ v ≤ 2 then -1000000003 else -1000000001)] ∧ cE h_q 14 (.inr (1, [.ref 7, .ref 15, .ref 16, fI mi, fJ dr])) ∧ cE h_q 15 (.inl (.int, fA [ka, pa, fa, kb, pb, fb])) ∧ cE h_q 16 (.inl (.int, fA [xa, xb])) ∧ (¬ ((0 ≤ v ∧ v ≤ 2) ∧ 1 < pl)) ∧ hfr [14, 15, 16] h h_q)) := by
  refine ik_Wk 1 (pc_q := 1) (loc_q := [some (.ref 0), some (fI 1), some (fI 0), some (fI v), none]) (st_q := [fI 1]) (h_q := h) (cl_q := 0) (sl_q := 0) rfl ?_
  refine ik_Wc 121 1 3 [fI 1] [] rfl rfl rfl (by decide +kernel) rfl rfl (fw_sta hl rfl (by decide +kernel)) ?_
  refine ik_Wk 0 (pc_q := 0) (loc_q := [some (fI 1)]) (st_q := []) (h_q := h) (cl_q := 0) (sl_q := 0) rfl ?_
  refine ik_Wk 1 (pc_q := 1) (loc_q := [some (fI 1)]) (st_q := [fI 1]) (h_q := h) (cl_q := 0) (sl_q := 0) rfl ?_
  refine fw_if_eq rfl rfl (by decide +kernel) (by decide +kernel) (fun hc1 => absurd hc1 (by decide +kernel)) (fun hc1 => ?_)
  refine ik_Wk 2 (pc_q := 6) (loc_q := [some (fI 1)]) (st_q := [fI 1, fI 1]) (h_q := h) (cl_q := 0) (sl_q := 0) rfl ?_
  refine fw_ic_ne rfl rfl (by decide +kernel) (by decide +kernel) (by decide +kernel) (by decide +kernel) (fun hc2 => ?_) (fun hc2 => absurd hc2 (by decide +kernel))
  refine ik_Wk 2 (pc_q := 14) (loc_q := [some (fI 1)]) (st_q := [fI 1]) (h_q := h) (cl_q := 0) (sl_q := 0) rfl ?_
  refine ik_Wret rfl rfl ⟨_, _, rfl, rfl, ?_⟩
  refine ik_Wk 0 (pc_q := 4) (loc_q := [some (.ref 0), some (fI 1), some (fI 0), some (fI v), none]) (st_q := [fI 1]) (h_q := h) (cl_q := 0) (sl_q := 0) rfl ?_
  refine fw_if_eq rfl rfl (by decide +kernel) (by decide +kernel) (fun hc3 => absurd hc3 (by decide +kernel)) (fun hc3 => ?_)
  refine ik_Wk 1 (pc_q := 8) (loc_q := [some (.ref 0), some (fI 1), some (fI 0), some (fI v), none]) (st_q := [fI 0]) (h_q := h) (cl_q := 0) (sl_q := 0) rfl ?_
  refine fw_if_ne rfl rfl (by decide +kernel) (by decide +kernel) (fun hc4 => ?_) (fun hc4 => absurd hc4 (by decide +kernel))
  refine ik_Wk 1 (pc_q := 12) (loc_q := [some (.ref 0), some (fI 1), some (fI 0), some (fI v), none]) (st_q := [fI v]) (h_q := h) (cl_q := 0) (sl_q := 0) rfl ?_
  refine ik_Wc 122 1 3 [fI v] [] rfl rfl rfl (by decide +kernel) rfl rfl (fw_sta hl rfl (by decide +kernel)) ?_
  refine ik_Wk 0 (pc_q := 0) (loc_q := [some (fI v)]) (st_q := []) (h_q := h) (cl_q := 0) (sl_q := 0) rfl ?_
  refine ik_Wk 1 (pc_q := 1) (loc_q := [some (fI v)]) (st_q := [fI v]) (h_q := h) (cl_q := 0) (sl_q := 0) rfl ?_
  refine fw_if_lt rfl rfl (by omega) (by omega) (fun hc5 => ?_) (fun hc5 => ?_)
  · refine ik_Wk 1 (pc_q := 14) (loc_q := [some (fI v)]) (st_q := [fI 0]) (h_q := h) (cl_q := 0) (sl_q := 0) rfl ?_
    refine ik_Wret rfl rfl ⟨_, _, rfl, rfl, ?_⟩
    refine ik_Wk 0 (pc_q := 15) (loc_q := [some (.ref 0), some (fI 1), some (fI 0), some (fI v), none]) (st_q := [fI 0]) (h_q := h) (cl_q := 0) (sl_q := 0) rfl ?_
    refine fw_if_eq rfl rfl (by decide +kernel) (by decide +kernel) (fun hc6 => ?_) (fun hc6 => absurd hc6 (by decide +kernel))
    refine fw_ld (-1000000001) rfl rfl (by decide +kernel) ?_
    exact ik_Wret rfl rfl ⟨_, _, rfl, rfl, rfl, rfl, Or.inr ⟨(congrArg (fun z => [fI z]) (by (repeat' split) <;> first | rfl | omega)), h14, h15, h16, (by omega), (hfr_refl [14, 15, 16] h)⟩⟩
  · refine ik_Wk 2 (pc_q := 6) (loc_q := [some (fI v)]) (st_q := [fI 2, fI v]) (h_q := h) (cl_q := 0) (sl_q := 0) rfl ?_
    refine fw_ic_gt rfl rfl (by omega) (by omega) (by omega) (by omega) (fun hc7 => ?_) (fun hc7 => ?_)
    · refine ik_Wk 1 (pc_q := 14) (loc_q := [some (fI v)]) (st_q := [fI 0]) (h_q := h) (cl_q := 0) (sl_q := 0) rfl ?_
      refine ik_Wret rfl rfl ⟨_, _, rfl, rfl, ?_⟩
      refine ik_Wk 0 (pc_q := 15) (loc_q := [some (.ref 0), some (fI 1), some (fI 0), some (fI v), none]) (st_q := [fI 0]) (h_q := h) (cl_q := 0) (sl_q := 0) rfl ?_
      refine fw_if_eq rfl rfl (by decide +kernel) (by decide +kernel) (fun hc8 => ?_) (fun hc8 => absurd hc8 (by decide +kernel))
      refine fw_ld (-1000000001) rfl rfl (by decide +kernel) ?_
      exact ik_Wret rfl rfl ⟨_, _, rfl, rfl, rfl, rfl, Or.inr ⟨(congrArg (fun z => [fI z]) (by (repeat' split) <;> first | rfl | omega)), h14, h15, h16, (by omega), (hfr_refl [14, 15, 16] h)⟩⟩
    · refine ik_Wk 2 (pc_q := 14) (loc_q := [some (fI v)]) (st_q := [fI 1]) (h_q := h) (cl_q := 0) (sl_q := 0) rfl ?_
      refine ik_Wret rfl rfl ⟨_, _, rfl, rfl, ?_⟩
      refine ik_Wk 0 (pc_q := 15) (loc_q := [some (.ref 0), some (fI 1), some (fI 0), some (fI v), none]) (st_q := [fI 1]) (h_q := h) (cl_q := 0) (sl_q := 0) rfl ?_
      refine fw_if_eq rfl rfl (by decide +kernel) (by decide +kernel) (fun hc9 => absurd hc9 (by decide +kernel)) (fun hc9 => ?_)
      refine ik_Wk 2 (pc_q := 20) (loc_q := [some (.ref 0), some (fI 1), some (fI 0), some (fI v), none]) (st_q := [fI 1, fI 0]) (h_q := h) (cl_q := 0) (sl_q := 0) rfl ?_
      refine fw_ic_ne rfl rfl (by decide +kernel) (by decide +kernel) (by decide +kernel) (by decide +kernel) (fun hc10 => absurd hc10 (by decide +kernel)) (fun hc10 => ?_)
      refine ik_Wk 1 (pc_q := 38) (loc_q := [some (.ref 0), some (fI 1), some (fI 0), some (fI v), none]) (st_q := [fI 0]) (h_q := h) (cl_q := 0) (sl_q := 0) rfl ?_
      refine fw_if_lt rfl rfl (by decide +kernel) (by decide +kernel) (fun hc11 => absurd hc11 (by decide +kernel)) (fun hc11 => ?_)
      refine ik_Wk 2 (pc_q := 43) (loc_q := [some (.ref 0), some (fI 1), some (fI 0), some (fI v), none]) (st_q := [fI 2, fI 0]) (h_q := h) (cl_q := 0) (sl_q := 0) rfl ?_
      refine fw_ic_gt rfl rfl (by decide +kernel) (by decide +kernel) (by decide +kernel) (by decide +kernel) (fun hc12 => absurd hc12 (by decide +kernel)) (fun hc12 => ?_)
      refine ik_Wk 2 (pc_q := 48) (loc_q := [some (.ref 0), some (fI 1), some (fI 0), some (fI v), none]) (st_q := [fI 2, fI 0]) (h_q := h) (cl_q := 0) (sl_q := 0) rfl ?_
      refine fw_ic_ne rfl rfl (by decide +kernel) (by decide +kernel) (by decide +kernel) (by decide +kernel) (fun hc13 => absurd hc13 (by decide +kernel)) (fun hc13 => ?_)
      refine ik_Wk 1 (pc_q := 65) (loc_q := [some (.ref 0), some (fI 1), some (fI 0), some (fI v), none]) (st_q := [.ref 0]) (h_q := h) (cl_q := 0) (sl_q := 0) rfl ?_
      refine fw_gf rfl rfl h0 rfl ?_
      refine ik_Wc 7 1 0 [.ref 7] [] rfl rfl rfl (by decide +kernel) rfl rfl (fw_rec hl rfl h7 rfl (Nat.le_of_ble_eq_true rfl)) ?_
      refine ik_Wk 0 (pc_q := 0) (loc_q := [some (.ref 7)]) (st_q := []) (h_q := h) (cl_q := 0) (sl_q := 0) rfl ?_
      refine ik_Wk 1 (pc_q := 1) (loc_q := [some (.ref 7)]) (st_q := [.ref 7]) (h_q := h) (cl_q := 0) (sl_q := 0) rfl ?_
      refine fw_gf rfl rfl h7 rfl ?_
      refine ik_Wk 1 (pc_q := 5) (loc_q := [some (.ref 7)]) (st_q := [fI 1, fI pl]) (h_q := h) (cl_q := 0) (sl_q := 0) rfl ?_
      refine fw_ic_le rfl rfl (by omega) (by omega) (by omega) (by omega) (fun hc14 => ?_) (fun hc14 => ?_)
      · refine ik_Wk 1 (pc_q := 13) (loc_q := [some (.ref 7)]) (st_q := [fI 0]) (h_q := h) (cl_q := 0) (sl_q := 0) rfl ?_
        refine ik_Wret rfl rfl ⟨_, _, rfl, rfl, ?_⟩
        refine ik_Wk 0 (pc_q := 71) (loc_q := [some (.ref 0), some (fI 1), some (fI 0), some (fI v), none]) (st_q := [fI 0]) (h_q := h) (cl_q := 0) (sl_q := 0) rfl ?_
        refine fw_if_ne rfl rfl (by decide +kernel) (by decide +kernel) (fun hc15 => ?_) (fun hc15 => absurd hc15 (by decide +kernel))
        refine fw_ld (-1000000003) rfl rfl (by decide +kernel) ?_
        exact ik_Wret rfl rfl ⟨_, _, rfl, rfl, rfl, rfl, Or.inr ⟨(congrArg (fun z => [fI z]) (by (repeat' split) <;> first | rfl | omega)), h14, h15, h16, (by omega), (hfr_refl [14, 15, 16] h)⟩⟩
      · refine ik_Wk 2 (pc_q := 13) (loc_q := [some (.ref 7)]) (st_q := [fI 1]) (h_q := h) (cl_q := 0) (sl_q := 0) rfl ?_
        refine ik_Wret rfl rfl ⟨_, _, rfl, rfl, ?_⟩
        refine ik_Wk 0 (pc_q := 71) (loc_q := [some (.ref 0), some (fI 1), some (fI 0), some (fI v), none]) (st_q := [fI 1]) (h_q := h) (cl_q := 0) (sl_q := 0) rfl ?_
        refine fw_if_ne rfl rfl (by decide +kernel) (by decide +kernel) (fun hc16 => absurd hc16 (by decide +kernel)) (fun hc16 => ?_)
        refine ik_Wk 1 (pc_q := 78) (loc_q := [some (.ref 0), some (fI 1), some (fI 0), some (fI v), none]) (st_q := [.ref 0]) (h_q := h) (cl_q := 0) (sl_q := 0) rfl ?_
        refine fw_gf rfl rfl h0 rfl ?_
        refine fw_gf rfl rfl h14 rfl ?_
        refine ik_Wk 2 (pc_q := 86) (loc_q := [some (.ref 0), some (fI 1), some (fI 0), some (fI v), none]) (st_q := [fI 3, fI 1, .ref 15]) (h_q := h) (cl_q := 0) (sl_q := 0) rfl ?_
        refine fw_mul rfl ?_
        refine ik_Wk 1 (pc_q := 88) (loc_q := [some (.ref 0), some (fI 1), some (fI 0), some (fI v), none]) (st_q := [fI 0, fI 3, .ref 15]) (h_q := h) (cl_q := 0) (sl_q := 0) rfl ?_
        refine fw_add rfl ?_
        refine fw_ial (z := 3) rfl h15 (by decide +kernel) (Nat.le_of_ble_eq_true rfl) (by decide +kernel) ?_
        refine ik_Wk 0 (pc_q := 90) (loc_q := [some (.ref 0), some (fI 1), some (fI 0), some (fI v), none]) (st_q := [fI kb]) (h_q := h) (cl_q := 0) (sl_q := 0) rfl ?_
        refine ik_Wk 2 (pc_q := 93) (loc_q := [some (.ref 0), some (fI 1), some (fI 0), some (fI v), some (fI kb)]) (st_q := [.ref 0]) (h_q := h) (cl_q := 0) (sl_q := 0) rfl ?_
        refine fw_gf rfl rfl h0 rfl ?_
        refine fw_gf rfl rfl h14 rfl ?_
        refine ik_Wk 2 (pc_q := 101) (loc_q := [some (.ref 0), some (fI 1), some (fI 0), some (fI v), some (fI kb)]) (st_q := [fI 3, fI 1, .ref 15]) (h_q := h) (cl_q := 0) (sl_q := 0) rfl ?_
        refine fw_mul rfl ?_
        refine ik_Wk 1 (pc_q := 103) (loc_q := [some (.ref 0), some (fI 1), some (fI 0), some (fI v), some (fI kb)]) (st_q := [fI 0, fI 3, .ref 15]) (h_q := h) (cl_q := 0) (sl_q := 0) rfl ?_
        refine fw_add rfl ?_
        refine ik_Wk 1 (pc_q := 105) (loc_q := [some (.ref 0), some (fI 1), some (fI 0), some (fI v), some (fI kb)]) (st_q := [fI v, fI 3, .ref 15]) (h_q := h) (cl_q := 0) (sl_q := 0) rfl ?_
        refine fx_ias (z := 3) rfl h15 (by decide +kernel) (Nat.le_of_ble_eq_true rfl) (by decide +kernel) ?_
        intro h_418 e_418 f_418 l_418
        have k_418 : cL h_418 := l_418.trans hl
        have fr_418 := hfr_wb (hfr_refl [14, 15, 16] h) f_418 l_418 rfl
        clear l_418
        have g_418_0 := (f_418 0 (Nat.ne_of_beq_eq_false rfl)).trans h0
        have g_418_7 := (f_418 7 (Nat.ne_of_beq_eq_false rfl)).trans h7
        have g_418_14 := (f_418 14 (Nat.ne_of_beq_eq_false rfl)).trans h14
        have g_418_16 := (f_418 16 (Nat.ne_of_beq_eq_false rfl)).trans h16
        have g_418_15 : cE h_418 15 (.inl (.int, fA [ka, pa, fa, v, pb, fb])) := e_418
        refine ik_Wk 1 (pc_q := 107) (loc_q := [some (.ref 0), some (fI 1), some (fI 0), some (fI v), some (fI kb)]) (st_q := [.ref 0]) (h_q := h_418) (cl_q := 0) (sl_q := 0) rfl ?_
        refine fw_gf rfl rfl g_418_0 rfl ?_
        refine fw_call 23 1 0 [.ref 14] [] rfl rfl rfl (Nat.le_of_ble_eq_true rfl) rfl rfl (fw_rec k_418 rfl g_418_14 rfl (Nat.le_of_ble_eq_true rfl)) (cs_restart (mi := mi) (ka := ka) (pa := pa) (fa := fa) (kb := v) (pb := pb) (fb := fb) (xa := xa) (xb := xb) (sd := dr) (by omega) (by omega) g_418_14 g_418_15 g_418_16 k_418) ?_
        rintro _ h_419 ⟨rfl, e_419_14, e_419_16, F_419⟩
        have k_419 : cL h_419 := F_419.1.trans k_418
        have fr_419 := hfr_cb fr_418 F_419 rfl
        have g_419_0 := (hfr_g F_419 0 rfl).trans g_418_0
        have g_419_7 := (hfr_g F_419 7 rfl).trans g_418_7
        have g_419_15 := (hfr_g F_419 15 rfl).trans g_418_15
        have g_419_14 : cE h_419 14 (.inr (1, [.ref 7, .ref 15, .ref 16, fI 0, fJ dr])) := e_419_14
        have g_419_16 : cE h_419 16 (.inl (.int, fA [mx_sp pa fa, mx_sp pb fb])) := e_419_16
        refine ik_Wk 0 (pc_q := 113) (loc_q := [some (.ref 0), some (fI 1), some (fI 0), some (fI v), some (fI kb)]) (st_q := []) (h_q := h_419) (cl_q := 0) (sl_q := 0) rfl ?_
        refine ik_Wk 1 (pc_q := 115) (loc_q := [some (.ref 0), some (fI 1), some (fI 0), some (fI v), some (fI kb)]) (st_q := [fI kb]) (h_q := h_419) (cl_q := 0) (sl_q := 0) rfl ?_
        exact ik_Wret rfl rfl ⟨_, _, rfl, rfl, rfl, rfl, Or.inl ⟨rfl, g_419_14, g_419_15, g_419_16, (by omega), fr_419⟩⟩

theorem rp_cork10 {h : List ik_E} {ka : Int} {pa : Int} {fa : Int} {kb : Int} {pb : Int} {fb : Int} {xa : Int} {xb : Int} {mi : Int} {v : Int} {pl : Int} {f : Nat → Int} (q0 : 0 ≤ fa ∧ fa ≤ 30) (q1 : 0 ≤ fb ∧ fb ≤ 30) (q2 : 0 ≤ pl ∧ pl ≤ 12) (q3 : -2147483648 ≤ v ∧ v < 2147483648) (h66 : cE h 66 (.inr (10, (fI pl :: .ref 67 :: .ref 68 :: .ref 69 :: fI (f 4) :: .ref 70 :: .ref 71 :: fI mi :: fI (f 8) :: .ref 72 :: fI (f 10) :: fI (f 11) :: fI (f 12) :: fJ (f 13) :: fI (f 14) :: fI (f 15) :: fI (f 16) :: fI (f 17) :: .ref 73 :: .ref 74 :: .ref 75 :: .ref 76 :: .ref 77 :: .ref 78 :: fI (f 24) :: .ref 79 :: .ref 80 :: .ref 81 :: .ref 82 :: .ref 83 :: .ref 84 :: .ref 85 :: fJ (f 32) :: fJ (f 33) :: .ref 86 :: .ref 87 :: fI (f 36) :: .ref 88 :: .ref 89 :: .ref 90 :: .ref 91 :: .ref 92 :: .ref 93 :: [])))) (h70 : cE h 70 (.inl (.int, fA [ka, pa, fa, kb, pb, fb]))) (h71 : cE h 71 (.inl (.int, fA [xa, xb]))) (hl : h.length = 94) : ik_F 158 [.ref 66, fI 1, fI 0, fI v] h (fun rv h_q => (rv = [fI kb] ∧ cE h_q 66 (.inr (10, (fI pl :: .ref 67 :: .ref 68 :: .ref 69 :: fI (f 4) :: .ref 70 :: .ref 71 :: fI 0 :: fI (f 8) :: .ref 72 :: fI (f 10) :: fI (f 11) :: fI (f 12) :: fJ (f 13) :: fI (f 14) :: fI (f 15) :: fI (f 16) :: fI (f 17) :: .ref 73 :: .ref 74 :: .ref 75 :: .ref 76 :: .ref 77 :: .ref 78 :: fI (f 24) :: .ref 79 :: .ref 80 :: .ref 81 :: .ref 82 :: .ref 83 :: .ref 84 :: .ref 85 :: fJ (f 32) :: fJ (f 33) :: .ref 86 :: .ref 87 :: fI (f 36) :: .ref 88 :: .ref 89 :: .ref 90 :: .ref 91 :: .ref 92 :: .ref 93 :: []))) ∧ cE h_q 70 (.inl (.int, fA [ka, pa, fa, v, pb, fb])) ∧ cE h_q 71 (.inl (.int, fA [mx_sp pa fa, mx_sp pb fb])) ∧ ((0 ≤ v ∧ v ≤ 2) ∧ 1 < pl) ∧ hfr [66, 70, 71] h h_q) ∨ (rv = [fI (if 0 ≤ v ∧ v ≤ 2 then -1000000003 else -1000000001)] ∧ cE h_q 66 (.inr (10, (fI pl :: .ref 67 :: .ref 68 :: .ref 69 :: fI (f 4) :: .ref 70 :: .ref 71 :: fI mi :: fI (f 8) :: .ref 72 :: fI (f 10) :: fI (f 11) :: fI (f 12) :: fJ (f 13) :: fI (f 14) :: fI (f 15) :: fI (f 16) :: fI (f 17) :: .ref 73 :: .ref 74 :: .ref 75 :: .ref 76 :: .ref 77 :: .ref 78 :: fI (f 24) :: .ref 79 :: .ref 80 :: .ref 81 :: .ref 82 :: .ref 83 :: .ref 84 :: .ref 85 :: fJ (f 32) :: fJ (f 33) :: .ref 86 :: .ref 87 :: fI (f 36) :: .ref 88 :: .ref 89 :: .ref 90 :: .ref 91 :: .ref 92 :: .ref 93 :: []))) ∧ cE h_q 70 (.inl (.int, fA [ka, pa, fa, kb, pb, fb])) ∧ cE h_q 71 (.inl (.int, fA [xa, xb])) ∧ (¬ ((0 ≤ v ∧ v ≤ 2) ∧ 1 < pl)) ∧ hfr [66, 70, 71] h h_q)) := by
  refine ik_Wk 1 (pc_q := 1) (loc_q := [some (.ref 66), some (fI 1), some (fI 0), some (fI v), none]) (st_q := [fI 1]) (h_q := h) (cl_q := 0) (sl_q := 0) rfl ?_
  refine ik_Wc 132 1 3 [fI 1] [] rfl rfl rfl (by decide +kernel) rfl rfl (fw_sta hl rfl (by decide +kernel)) ?_
  refine ik_Wk 0 (pc_q := 0) (loc_q := [some (fI 1)]) (st_q := []) (h_q := h) (cl_q := 0) (sl_q := 0) rfl ?_
  refine ik_Wk 1 (pc_q := 1) (loc_q := [some (fI 1)]) (st_q := [fI 1]) (h_q := h) (cl_q := 0) (sl_q := 0) rfl ?_
  refine fw_i2l rfl (by omega) (by omega) ?_
  refine fw_lc (z := 0) rfl (by decide +kernel) ?_
  refine fw_lc (z := 1) rfl (by decide +kernel) ?_
  refine fw_call 127 3 3 [fJ 1, fJ 0, fJ 1] [] rfl rfl rfl (Nat.le_of_ble_eq_true rfl) rfl rfl (fw_sta hl rfl (by decide +kernel)) (cr_in (v := 1) (a := 0) (b := 1) (by omega) (by omega) (by omega)  hl) ?_
  rintro _ h_420 (⟨rfl, p_420_0, F_420⟩ | ⟨rfl, p_420_0, F_420⟩)
  · have k_420 : cL h_420 := F_420.1.trans hl
    have fr_420 := hfr_cb (hfr_refl [66, 70, 71] h) F_420 rfl
    have g_420_66 := (hfr_g F_420 66 rfl).trans h66
    have g_420_70 := (hfr_g F_420 70 rfl).trans h70
    have g_420_71 := (hfr_g F_420 71 rfl).trans h71
    refine ik_Wk 0 (pc_q := 7) (loc_q := [some (fI 1)]) (st_q := [fI 1]) (h_q := h_420) (cl_q := 0) (sl_q := 0) rfl ?_
    refine ik_Wret rfl rfl ⟨_, _, rfl, rfl, ?_⟩
    refine ik_Wk 0 (pc_q := 4) (loc_q := [some (.ref 66), some (fI 1), some (fI 0), some (fI v), none]) (st_q := [fI 1]) (h_q := h_420) (cl_q := 0) (sl_q := 0) rfl ?_
    refine fw_if_ne rfl rfl (by decide +kernel) (by decide +kernel) (fun hc1 => absurd hc1 (by decide +kernel)) (fun hc1 => ?_)
    refine ik_Wk 1 (pc_q := 11) (loc_q := [some (.ref 66), some (fI 1), some (fI 0), some (fI v), none]) (st_q := [fI 0]) (h_q := h_420) (cl_q := 0) (sl_q := 0) rfl ?_
    refine fw_if_ne rfl rfl (by decide +kernel) (by decide +kernel) (fun hc2 => ?_) (fun hc2 => absurd hc2 (by decide +kernel))
    refine ik_Wk 1 (pc_q := 15) (loc_q := [some (.ref 66), some (fI 1), some (fI 0), some (fI v), none]) (st_q := [fI v]) (h_q := h_420) (cl_q := 0) (sl_q := 0) rfl ?_
    refine ik_Wc 133 1 3 [fI v] [] rfl rfl rfl (by decide +kernel) rfl rfl (fw_sta k_420 rfl (by decide +kernel)) ?_
    refine ik_Wk 0 (pc_q := 0) (loc_q := [some (fI v)]) (st_q := []) (h_q := h_420) (cl_q := 0) (sl_q := 0) rfl ?_
    refine ik_Wk 1 (pc_q := 1) (loc_q := [some (fI v)]) (st_q := [fI v]) (h_q := h_420) (cl_q := 0) (sl_q := 0) rfl ?_
    refine fw_i2l rfl (by omega) (by omega) ?_
    refine fw_lc (z := 0) rfl (by decide +kernel) ?_
    refine fw_l2 2 rfl rfl (by decide +kernel) ?_
    refine fw_call 127 3 3 [fJ v, fJ 0, fJ 2] [] rfl rfl rfl (Nat.le_of_ble_eq_true rfl) rfl rfl (fw_sta k_420 rfl (by decide +kernel)) (cr_in (v := v) (a := 0) (b := 2) (by omega) (by omega) (by omega)  k_420) ?_
    rintro _ h_421 (⟨rfl, p_421_0, F_421⟩ | ⟨rfl, p_421_0, F_421⟩)
    · have k_421 : cL h_421 := F_421.1.trans k_420
      have fr_421 := hfr_cb fr_420 F_421 rfl
      have g_421_66 := (hfr_g F_421 66 rfl).trans g_420_66
      have g_421_70 := (hfr_g F_421 70 rfl).trans g_420_70
      have g_421_71 := (hfr_g F_421 71 rfl).trans g_420_71
      refine ik_Wk 0 (pc_q := 9) (loc_q := [some (fI v)]) (st_q := [fI 1]) (h_q := h_421) (cl_q := 0) (sl_q := 0) rfl ?_
      refine ik_Wret rfl rfl ⟨_, _, rfl, rfl, ?_⟩
      refine ik_Wk 0 (pc_q := 18) (loc_q := [some (.ref 66), some (fI 1), some (fI 0), some (fI v), none]) (st_q := [fI 1]) (h_q := h_421) (cl_q := 0) (sl_q := 0) rfl ?_
      refine fw_if_eq rfl rfl (by decide +kernel) (by decide +kernel) (fun hc3 => absurd hc3 (by decide +kernel)) (fun hc3 => ?_)
      refine ik_Wk 2 (pc_q := 23) (loc_q := [some (.ref 66), some (fI 1), some (fI 0), some (fI v), none]) (st_q := [fI 1, fI 0]) (h_q := h_421) (cl_q := 0) (sl_q := 0) rfl ?_
      refine fw_ic_ne rfl rfl (by decide +kernel) (by decide +kernel) (by decide +kernel) (by decide +kernel) (fun hc4 => absurd hc4 (by decide +kernel)) (fun hc4 => ?_)
      refine ik_Wk 1 (pc_q := 38) (loc_q := [some (.ref 66), some (fI 1), some (fI 0), some (fI v), none]) (st_q := [fI 0]) (h_q := h_421) (cl_q := 0) (sl_q := 0) rfl ?_
      refine fw_i2l rfl (by omega) (by omega) ?_
      refine fw_lc (z := 0) rfl (by decide +kernel) ?_
      refine fw_l2 2 rfl rfl (by decide +kernel) ?_
      refine fw_call 127 3 3 [fJ 0, fJ 0, fJ 2] [] rfl rfl rfl (Nat.le_of_ble_eq_true rfl) rfl rfl (fw_sta k_421 rfl (by decide +kernel)) (cr_in (v := 0) (a := 0) (b := 2) (by omega) (by omega) (by omega)  k_421) ?_
      rintro _ h_422 (⟨rfl, p_422_0, F_422⟩ | ⟨rfl, p_422_0, F_422⟩)
      · have k_422 : cL h_422 := F_422.1.trans k_421
        have fr_422 := hfr_cb fr_421 F_422 rfl
        have g_422_66 := (hfr_g F_422 66 rfl).trans g_421_66
        have g_422_70 := (hfr_g F_422 70 rfl).trans g_421_70
        have g_422_71 := (hfr_g F_422 71 rfl).trans g_421_71
        refine ik_Wk 0 (pc_q := 46) (loc_q := [some (.ref 66), some (fI 1), some (fI 0), some (fI v), none]) (st_q := [fI 1]) (h_q := h_422) (cl_q := 0) (sl_q := 0) rfl ?_
        refine fw_if_eq rfl rfl (by decide +kernel) (by decide +kernel) (fun hc5 => absurd hc5 (by decide +kernel)) (fun hc5 => ?_)
        refine ik_Wk 2 (pc_q := 51) (loc_q := [some (.ref 66), some (fI 1), some (fI 0), some (fI v), none]) (st_q := [fI 2, fI 0]) (h_q := h_422) (cl_q := 0) (sl_q := 0) rfl ?_
        refine fw_ic_ne rfl rfl (by decide +kernel) (by decide +kernel) (by decide +kernel) (by decide +kernel) (fun hc6 => absurd hc6 (by decide +kernel)) (fun hc6 => ?_)
        refine ik_Wk 1 (pc_q := 70) (loc_q := [some (.ref 66), some (fI 1), some (fI 0), some (fI v), none]) (st_q := [.ref 66]) (h_q := h_422) (cl_q := 0) (sl_q := 0) rfl ?_
        refine ik_Wc 134 1 0 [.ref 66] [] rfl rfl rfl (by decide +kernel) rfl rfl (fw_rec k_422 rfl g_422_66 rfl (Nat.le_of_ble_eq_true rfl)) ?_
        refine ik_Wk 0 (pc_q := 0) (loc_q := [some (.ref 66)]) (st_q := []) (h_q := h_422) (cl_q := 0) (sl_q := 0) rfl ?_
        refine ik_Wk 1 (pc_q := 1) (loc_q := [some (.ref 66)]) (st_q := [.ref 66]) (h_q := h_422) (cl_q := 0) (sl_q := 0) rfl ?_
        refine fw_gf rfl rfl g_422_66 rfl ?_
        refine ik_Wk 1 (pc_q := 5) (loc_q := [some (.ref 66)]) (st_q := [fI 1, fI pl]) (h_q := h_422) (cl_q := 0) (sl_q := 0) rfl ?_
        refine fw_ic_le rfl rfl (by omega) (by omega) (by omega) (by omega) (fun hc7 => ?_) (fun hc7 => ?_)
        · refine ik_Wk 1 (pc_q := 13) (loc_q := [some (.ref 66)]) (st_q := [fI 0]) (h_q := h_422) (cl_q := 0) (sl_q := 0) rfl ?_
          refine ik_Wret rfl rfl ⟨_, _, rfl, rfl, ?_⟩
          refine ik_Wk 0 (pc_q := 73) (loc_q := [some (.ref 66), some (fI 1), some (fI 0), some (fI v), none]) (st_q := [fI 0]) (h_q := h_422) (cl_q := 0) (sl_q := 0) rfl ?_
          refine fw_if_ne rfl rfl (by decide +kernel) (by decide +kernel) (fun hc8 => ?_) (fun hc8 => absurd hc8 (by decide +kernel))
          refine fw_ld (-1000000003) rfl rfl (by decide +kernel) ?_
          exact ik_Wret rfl rfl ⟨_, _, rfl, rfl, rfl, rfl, Or.inr ⟨(congrArg (fun z => [fI z]) (by (repeat' split) <;> first | rfl | omega)), g_422_66, g_422_70, g_422_71, (by omega), fr_422⟩⟩
        · refine ik_Wk 2 (pc_q := 13) (loc_q := [some (.ref 66)]) (st_q := [fI 1]) (h_q := h_422) (cl_q := 0) (sl_q := 0) rfl ?_
          refine ik_Wret rfl rfl ⟨_, _, rfl, rfl, ?_⟩
          refine ik_Wk 0 (pc_q := 73) (loc_q := [some (.ref 66), some (fI 1), some (fI 0), some (fI v), none]) (st_q := [fI 1]) (h_q := h_422) (cl_q := 0) (sl_q := 0) rfl ?_
          refine fw_if_ne rfl rfl (by decide +kernel) (by decide +kernel) (fun hc9 => absurd hc9 (by decide +kernel)) (fun hc9 => ?_)
          refine ik_Wk 1 (pc_q := 80) (loc_q := [some (.ref 66), some (fI 1), some (fI 0), some (fI v), none]) (st_q := [.ref 66]) (h_q := h_422) (cl_q := 0) (sl_q := 0) rfl ?_
          refine fw_gf rfl rfl g_422_66 rfl ?_
          refine ik_Wk 2 (pc_q := 85) (loc_q := [some (.ref 66), some (fI 1), some (fI 0), some (fI v), none]) (st_q := [fI 1, fI 3, .ref 70]) (h_q := h_422) (cl_q := 0) (sl_q := 0) rfl ?_
          refine fw_mul rfl ?_
          refine ik_Wk 1 (pc_q := 87) (loc_q := [some (.ref 66), some (fI 1), some (fI 0), some (fI v), none]) (st_q := [fI 0, fI 3, .ref 70]) (h_q := h_422) (cl_q := 0) (sl_q := 0) rfl ?_
          refine fw_add rfl ?_
          refine fw_ial (z := 3) rfl g_422_70 (by decide +kernel) (Nat.le_of_ble_eq_true rfl) (by decide +kernel) ?_
          refine ik_Wk 0 (pc_q := 89) (loc_q := [some (.ref 66), some (fI 1), some (fI 0), some (fI v), none]) (st_q := [fI kb]) (h_q := h_422) (cl_q := 0) (sl_q := 0) rfl ?_
          refine ik_Wk 2 (pc_q := 92) (loc_q := [some (.ref 66), some (fI 1), some (fI 0), some (fI v), some (fI kb)]) (st_q := [.ref 66]) (h_q := h_422) (cl_q := 0) (sl_q := 0) rfl ?_
          refine fw_gf rfl rfl g_422_66 rfl ?_
          refine ik_Wk 2 (pc_q := 97) (loc_q := [some (.ref 66), some (fI 1), some (fI 0), some (fI v), some (fI kb)]) (st_q := [fI 1, fI 3, .ref 70]) (h_q := h_422) (cl_q := 0) (sl_q := 0) rfl ?_
          refine fw_mul rfl ?_
          refine ik_Wk 1 (pc_q := 99) (loc_q := [some (.ref 66), some (fI 1), some (fI 0), some (fI v), some (fI kb)]) (st_q := [fI 0, fI 3, .ref 70]) (h_q := h_422) (cl_q := 0) (sl_q := 0) rfl ?_
          refine fw_add rfl ?_
          refine ik_Wk 1 (pc_q := 101) (loc_q := [some (.ref 66), some (fI 1), some (fI 0), some (fI v), some (fI kb)]) (st_q := [fI v, fI 3, .ref 70]) (h_q := h_422) (cl_q := 0) (sl_q := 0) rfl ?_
          refine fx_ias (z := 3) rfl g_422_70 (by decide +kernel) (Nat.le_of_ble_eq_true rfl) (by decide +kernel) ?_
          intro h_423 e_423 f_423 l_423
          have k_423 : cL h_423 := l_423.trans k_422
          have fr_423 := hfr_wb fr_422 f_423 l_423 rfl
          clear l_423
          have g_423_66 := (f_423 66 (Nat.ne_of_beq_eq_false rfl)).trans g_422_66
          have g_423_71 := (f_423 71 (Nat.ne_of_beq_eq_false rfl)).trans g_422_71
          have g_423_70 : cE h_423 70 (.inl (.int, fA [ka, pa, fa, v, pb, fb])) := e_423
          refine ik_Wk 1 (pc_q := 103) (loc_q := [some (.ref 66), some (fI 1), some (fI 0), some (fI v), some (fI kb)]) (st_q := [.ref 66]) (h_q := h_423) (cl_q := 0) (sl_q := 0) rfl ?_
          refine fw_call 194 1 0 [.ref 66] [] rfl rfl rfl (Nat.le_of_ble_eq_true rfl) rfl rfl (fw_rec k_423 rfl g_423_66 rfl (Nat.le_of_ble_eq_true rfl)) (cr_begin (mi := mi) (ka := ka) (pa := pa) (fa := fa) (kb := v) (pb := pb) (fb := fb) (xa := xa) (xb := xb) (f := fun j => ((pl :: 0 :: 0 :: 0 :: f 4 :: 0 :: 0 :: 0 :: f 8 :: 0 :: f 10 :: f 11 :: f 12 :: f 13 :: f 14 :: f 15 :: f 16 :: f 17 :: 0 :: 0 :: 0 :: 0 :: 0 :: 0 :: f 24 :: 0 :: 0 :: 0 :: 0 :: 0 :: 0 :: 0 :: f 32 :: f 33 :: 0 :: 0 :: f 36 :: 0 :: 0 :: 0 :: 0 :: 0 :: 0 :: []) : List Int).getD j 0) (by omega) (by omega) g_423_66 g_423_70 g_423_71 k_423) ?_
          rintro _ h_424 ⟨rfl, e_424_66, e_424_71, F_424⟩
          have k_424 : cL h_424 := F_424.1.trans k_423
          have fr_424 := hfr_cb fr_423 F_424 rfl
          have g_424_70 := (hfr_g F_424 70 rfl).trans g_423_70
          have g_424_66 : cE h_424 66 (.inr (10, (fI pl :: .ref 67 :: .ref 68 :: .ref 69 :: fI (f 4) :: .ref 70 :: .ref 71 :: fI 0 :: fI (f 8) :: .ref 72 :: fI (f 10) :: fI (f 11) :: fI (f 12) :: fJ (f 13) :: fI (f 14) :: fI (f 15) :: fI (f 16) :: fI (f 17) :: .ref 73 :: .ref 74 :: .ref 75 :: .ref 76 :: .ref 77 :: .ref 78 :: fI (f 24) :: .ref 79 :: .ref 80 :: .ref 81 :: .ref 82 :: .ref 83 :: .ref 84 :: .ref 85 :: fJ (f 32) :: fJ (f 33) :: .ref 86 :: .ref 87 :: fI (f 36) :: .ref 88 :: .ref 89 :: .ref 90 :: .ref 91 :: .ref 92 :: .ref 93 :: []))) := e_424_66
          have g_424_71 : cE h_424 71 (.inl (.int, fA [mx_sp pa fa, mx_sp pb fb])) := e_424_71
          refine ik_Wk 0 (pc_q := 106) (loc_q := [some (.ref 66), some (fI 1), some (fI 0), some (fI v), some (fI kb)]) (st_q := []) (h_q := h_424) (cl_q := 0) (sl_q := 0) rfl ?_
          refine ik_Wk 1 (pc_q := 108) (loc_q := [some (.ref 66), some (fI 1), some (fI 0), some (fI v), some (fI kb)]) (st_q := [fI kb]) (h_q := h_424) (cl_q := 0) (sl_q := 0) rfl ?_
          exact ik_Wret rfl rfl ⟨_, _, rfl, rfl, rfl, rfl, Or.inl ⟨rfl, g_424_66, g_424_70, g_424_71, (by omega), fr_424⟩⟩
      · have k_422 : cL h_422 := F_422.1.trans k_421
        have fr_422 := hfr_cb fr_421 F_422 rfl
        have g_422_66 := (hfr_g F_422 66 rfl).trans g_421_66
        have g_422_70 := (hfr_g F_422 70 rfl).trans g_421_70
        have g_422_71 := (hfr_g F_422 71 rfl).trans g_421_71
        refine ik_Wk 0 (pc_q := 46) (loc_q := [some (.ref 66), some (fI 1), some (fI 0), some (fI v), none]) (st_q := [fI 0]) (h_q := h_422) (cl_q := 0) (sl_q := 0) rfl ?_
        refine fw_if_eq rfl rfl (by decide +kernel) (by decide +kernel) (fun hc10 => ?_) (fun hc10 => absurd hc10 (by decide +kernel))
        refine fw_ld (-1000000002) rfl rfl (by decide +kernel) ?_
        exact ik_Wret rfl rfl ⟨_, _, rfl, rfl, rfl, rfl, Or.inr ⟨(congrArg (fun z => [fI z]) (by (repeat' split) <;> first | rfl | omega)), g_422_66, g_422_70, g_422_71, (by omega), fr_422⟩⟩
    · have k_421 : cL h_421 := F_421.1.trans k_420
      have fr_421 := hfr_cb fr_420 F_421 rfl
      have g_421_66 := (hfr_g F_421 66 rfl).trans g_420_66
      have g_421_70 := (hfr_g F_421 70 rfl).trans g_420_70
      have g_421_71 := (hfr_g F_421 71 rfl).trans g_420_71
      refine ik_Wk 0 (pc_q := 9) (loc_q := [some (fI v)]) (st_q := [fI 0]) (h_q := h_421) (cl_q := 0) (sl_q := 0) rfl ?_
      refine ik_Wret rfl rfl ⟨_, _, rfl, rfl, ?_⟩
      refine ik_Wk 0 (pc_q := 18) (loc_q := [some (.ref 66), some (fI 1), some (fI 0), some (fI v), none]) (st_q := [fI 0]) (h_q := h_421) (cl_q := 0) (sl_q := 0) rfl ?_
      refine fw_if_eq rfl rfl (by decide +kernel) (by decide +kernel) (fun hc11 => ?_) (fun hc11 => absurd hc11 (by decide +kernel))
      refine fw_ld (-1000000001) rfl rfl (by decide +kernel) ?_
      exact ik_Wret rfl rfl ⟨_, _, rfl, rfl, rfl, rfl, Or.inr ⟨(congrArg (fun z => [fI z]) (by (repeat' split) <;> first | rfl | omega)), g_421_66, g_421_70, g_421_71, (by omega), fr_421⟩⟩
  · have k_420 : cL h_420 := F_420.1.trans hl
    have fr_420 := hfr_cb (hfr_refl [66, 70, 71] h) F_420 rfl
    have g_420_66 := (hfr_g F_420 66 rfl).trans h66
    have g_420_70 := (hfr_g F_420 70 rfl).trans h70
    have g_420_71 := (hfr_g F_420 71 rfl).trans h71
    refine ik_Wk 0 (pc_q := 7) (loc_q := [some (fI 1)]) (st_q := [fI 0]) (h_q := h_420) (cl_q := 0) (sl_q := 0) rfl ?_
    refine ik_Wret rfl rfl ⟨_, _, rfl, rfl, ?_⟩
    refine ik_Wk 0 (pc_q := 4) (loc_q := [some (.ref 66), some (fI 1), some (fI 0), some (fI v), none]) (st_q := [fI 0]) (h_q := h_420) (cl_q := 0) (sl_q := 0) rfl ?_
    refine fw_if_ne rfl rfl (by decide +kernel) (by decide +kernel) (fun hc12 => ?_) (fun hc12 => absurd hc12 (by decide +kernel))
    refine fw_ld (-1000000001) rfl rfl (by decide +kernel) ?_
    exact ik_Wret rfl rfl ⟨_, _, rfl, rfl, rfl, rfl, Or.inr ⟨(congrArg (fun z => [fI z]) (by (repeat' split) <;> first | rfl | omega)), g_420_66, g_420_70, g_420_71, (by omega), fr_420⟩⟩

theorem cp_cork11 {h : List ik_E} {ka : Int} {pa : Int} {fa : Int} {kb : Int} {pb : Int} {fb : Int} {xa : Int} {xb : Int} {mi : Int} {dr : Int} {v : Int} {pl : Int} {st : Int} {lo : Int} (q0 : 0 ≤ fa ∧ fa ≤ 30) (q1 : 0 ≤ fb ∧ fb ≤ 30) (q2 : 0 ≤ pl ∧ pl ≤ 12) (q3 : -2147483648 ≤ v ∧ v < 2147483648) (h0 : cE h 0 (.inr (9, [.ref 1, .ref 7, .ref 14, .ref 17, .ref 45, .ref 51, .ref 54, .ref 57]))) (h7 : cE h 7 (.inr (0, [fI pl, fI st, fI lo, .ref 8, .ref 9, .ref 10, .ref 11, .ref 12, .ref 13]))) (h14 : cE h 14 (.inr (1, [.ref 7, .ref 15, .ref 16, fI mi, fJ dr]))) (h15 : cE h 15 (.inl (.int, fA [ka, pa, fa, kb, pb, fb]))) (h16 : cE h 16 (.inl (.int, fA [xa, xb]))) (hl : h.length = 94) : ik_F 95 [.ref 0, fI 1, fI 1, fI v] h (fun rv h_q => (rv = [fI pb] ∧ cE h_q 14 (.inr (1, [.ref 7, .ref 15, .ref 16, fI 0, fJ dr])) ∧ cE h_q 15 (.inl (.int, fA [ka, pa, fa, kb, v, fb])) ∧ cE h_q 16 (.inl (.int, fA [mx_sp pa fa, mx_sp v fb])) ∧ (0 ≤ v ∧ v < pl - 1) ∧ hfr [14, 15, 16] h h_q) ∨ (rv = [fI (-1000000001)] ∧ cE h_q 14 (.inr (1, [.ref 7, .ref 15, .ref 16, fI mi, fJ dr])) ∧ cE h_q 15 (.inl (.int, fA [ka, pa, fa, kb, pb, fb])) ∧ cE h_q 16 (.inl (.int, fA [xa, xb])) ∧ (¬ (0 ≤ v ∧ v < pl - 1)) ∧ hfr [14, 15, 16] h h_q)) := by
  refine ik_Wk 1 (pc_q := 1) (loc_q := [some (.ref 0), some (fI 1), some (fI 1), some (fI v), none]) (st_q := [fI 1]) (h_q := h) (cl_q := 0) (sl_q := 0) rfl ?_
  refine ik_Wc 121 1 3 [fI 1] [] rfl rfl rfl (by decide +kernel) rfl rfl (fw_sta hl rfl (by decide +kernel)) ?_
  refine ik_Wk 0 (pc_q := 0) (loc_q := [some (fI 1)]) (st_q := []) (h_q := h) (cl_q := 0) (sl_q := 0) rfl ?_
  refine ik_Wk 1 (pc_q := 1) (loc_q := [some (fI 1)]) (st_q := [fI 1]) (h_q := h) (cl_q := 0) (sl_q := 0) rfl ?_
  refine fw_if_eq rfl rfl (by decide +kernel) (by decide +kernel) (fun hc1 => absurd hc1 (by decide +kernel)) (fun hc1 => ?_)
  refine ik_Wk 2 (pc_q := 6) (loc_q := [some (fI 1)]) (st_q := [fI 1, fI 1]) (h_q := h) (cl_q := 0) (sl_q := 0) rfl ?_
  refine fw_ic_ne rfl rfl (by decide +kernel) (by decide +kernel) (by decide +kernel) (by decide +kernel) (fun hc2 => ?_) (fun hc2 => absurd hc2 (by decide +kernel))
  refine ik_Wk 2 (pc_q := 14) (loc_q := [some (fI 1)]) (st_q := [fI 1]) (h_q := h) (cl_q := 0) (sl_q := 0) rfl ?_
  refine ik_Wret rfl rfl ⟨_, _, rfl, rfl, ?_⟩
  refine ik_Wk 0 (pc_q := 4) (loc_q := [some (.ref 0), some (fI 1), some (fI 1), some (fI v), none]) (st_q := [fI 1]) (h_q := h) (cl_q := 0) (sl_q := 0) rfl ?_
  refine fw_if_eq rfl rfl (by decide +kernel) (by decide +kernel) (fun hc3 => absurd hc3 (by decide +kernel)) (fun hc3 => ?_)
  refine ik_Wk 1 (pc_q := 8) (loc_q := [some (.ref 0), some (fI 1), some (fI 1), some (fI v), none]) (st_q := [fI 1]) (h_q := h) (cl_q := 0) (sl_q := 0) rfl ?_
  refine fw_if_ne rfl rfl (by decide +kernel) (by decide +kernel) (fun hc4 => absurd hc4 (by decide +kernel)) (fun hc4 => ?_)
  refine ik_Wk 2 (pc_q := 20) (loc_q := [some (.ref 0), some (fI 1), some (fI 1), some (fI v), none]) (st_q := [fI 1, fI 1]) (h_q := h) (cl_q := 0) (sl_q := 0) rfl ?_
  refine fw_ic_ne rfl rfl (by decide +kernel) (by decide +kernel) (by decide +kernel) (by decide +kernel) (fun hc5 => ?_) (fun hc5 => absurd hc5 (by decide +kernel))
  refine ik_Wk 1 (pc_q := 24) (loc_q := [some (.ref 0), some (fI 1), some (fI 1), some (fI v), none]) (st_q := [.ref 0]) (h_q := h) (cl_q := 0) (sl_q := 0) rfl ?_
  refine fw_gf rfl rfl h0 rfl ?_
  refine ik_Wk 1 (pc_q := 28) (loc_q := [some (.ref 0), some (fI 1), some (fI 1), some (fI v), none]) (st_q := [fI v, .ref 7]) (h_q := h) (cl_q := 0) (sl_q := 0) rfl ?_
  refine ik_Wc 4 2 0 [.ref 7, fI v] [] rfl rfl rfl (by decide +kernel) rfl rfl (fw_rec hl rfl h7 rfl (Nat.le_of_ble_eq_true rfl)) ?_
  refine ik_Wk 0 (pc_q := 0) (loc_q := [some (.ref 7), some (fI v)]) (st_q := []) (h_q := h) (cl_q := 0) (sl_q := 0) rfl ?_
  refine ik_Wk 1 (pc_q := 1) (loc_q := [some (.ref 7), some (fI v)]) (st_q := [fI v]) (h_q := h) (cl_q := 0) (sl_q := 0) rfl ?_
  refine fw_if_lt rfl rfl (by omega) (by omega) (fun hc6 => ?_) (fun hc6 => ?_)
  · refine ik_Wk 1 (pc_q := 19) (loc_q := [some (.ref 7), some (fI v)]) (st_q := [fI 0]) (h_q := h) (cl_q := 0) (sl_q := 0) rfl ?_
    refine ik_Wret rfl rfl ⟨_, _, rfl, rfl, ?_⟩
    refine ik_Wk 0 (pc_q := 31) (loc_q := [some (.ref 0), some (fI 1), some (fI 1), some (fI v), none]) (st_q := [fI 0]) (h_q := h) (cl_q := 0) (sl_q := 0) rfl ?_
    refine fw_if_ne rfl rfl (by decide +kernel) (by decide +kernel) (fun hc7 => ?_) (fun hc7 => absurd hc7 (by decide +kernel))
    refine fw_ld (-1000000001) rfl rfl (by decide +kernel) ?_
    exact ik_Wret rfl rfl ⟨_, _, rfl, rfl, rfl, rfl, Or.inr ⟨(congrArg (fun z => [fI z]) (by (repeat' split) <;> first | rfl | omega)), h14, h15, h16, (by omega), (hfr_refl [14, 15, 16] h)⟩⟩
  · refine ik_Wk 2 (pc_q := 6) (loc_q := [some (.ref 7), some (fI v)]) (st_q := [.ref 7, fI v]) (h_q := h) (cl_q := 0) (sl_q := 0) rfl ?_
    refine fw_gf rfl rfl h7 rfl ?_
    refine ik_Wk 1 (pc_q := 10) (loc_q := [some (.ref 7), some (fI v)]) (st_q := [fI 1, fI pl, fI v]) (h_q := h) (cl_q := 0) (sl_q := 0) rfl ?_
    refine fw_sub rfl ?_
    refine fw_ic_ge rfl rfl (by omega) (by omega) (by omega) (by omega) (fun hc8 => ?_) (fun hc8 => ?_)
    · refine ik_Wk 1 (pc_q := 19) (loc_q := [some (.ref 7), some (fI v)]) (st_q := [fI 0]) (h_q := h) (cl_q := 0) (sl_q := 0) rfl ?_
      refine ik_Wret rfl rfl ⟨_, _, rfl, rfl, ?_⟩
      refine ik_Wk 0 (pc_q := 31) (loc_q := [some (.ref 0), some (fI 1), some (fI 1), some (fI v), none]) (st_q := [fI 0]) (h_q := h) (cl_q := 0) (sl_q := 0) rfl ?_
      refine fw_if_ne rfl rfl (by decide +kernel) (by decide +kernel) (fun hc9 => ?_) (fun hc9 => absurd hc9 (by decide +kernel))
      refine fw_ld (-1000000001) rfl rfl (by decide +kernel) ?_
      exact ik_Wret rfl rfl ⟨_, _, rfl, rfl, rfl, rfl, Or.inr ⟨(congrArg (fun z => [fI z]) (by (repeat' split) <;> first | rfl | omega)), h14, h15, h16, (by omega), (hfr_refl [14, 15, 16] h)⟩⟩
    · refine ik_Wk 2 (pc_q := 19) (loc_q := [some (.ref 7), some (fI v)]) (st_q := [fI 1]) (h_q := h) (cl_q := 0) (sl_q := 0) rfl ?_
      refine ik_Wret rfl rfl ⟨_, _, rfl, rfl, ?_⟩
      refine ik_Wk 0 (pc_q := 31) (loc_q := [some (.ref 0), some (fI 1), some (fI 1), some (fI v), none]) (st_q := [fI 1]) (h_q := h) (cl_q := 0) (sl_q := 0) rfl ?_
      refine fw_if_ne rfl rfl (by decide +kernel) (by decide +kernel) (fun hc10 => absurd hc10 (by decide +kernel)) (fun hc10 => ?_)
      refine ik_Wk 1 (pc_q := 38) (loc_q := [some (.ref 0), some (fI 1), some (fI 1), some (fI v), none]) (st_q := [fI 1]) (h_q := h) (cl_q := 0) (sl_q := 0) rfl ?_
      refine fw_if_lt rfl rfl (by decide +kernel) (by decide +kernel) (fun hc11 => absurd hc11 (by decide +kernel)) (fun hc11 => ?_)
      refine ik_Wk 2 (pc_q := 43) (loc_q := [some (.ref 0), some (fI 1), some (fI 1), some (fI v), none]) (st_q := [fI 2, fI 1]) (h_q := h) (cl_q := 0) (sl_q := 0) rfl ?_
      refine fw_ic_gt rfl rfl (by decide +kernel) (by decide +kernel) (by decide +kernel) (by decide +kernel) (fun hc12 => absurd hc12 (by decide +kernel)) (fun hc12 => ?_)
      refine ik_Wk 2 (pc_q := 48) (loc_q := [some (.ref 0), some (fI 1), some (fI 1), some (fI v), none]) (st_q := [fI 2, fI 1]) (h_q := h) (cl_q := 0) (sl_q := 0) rfl ?_
      refine fw_ic_ne rfl rfl (by decide +kernel) (by decide +kernel) (by decide +kernel) (by decide +kernel) (fun hc13 => absurd hc13 (by decide +kernel)) (fun hc13 => ?_)
      refine ik_Wk 1 (pc_q := 65) (loc_q := [some (.ref 0), some (fI 1), some (fI 1), some (fI v), none]) (st_q := [.ref 0]) (h_q := h) (cl_q := 0) (sl_q := 0) rfl ?_
      refine fw_gf rfl rfl h0 rfl ?_
      refine ik_Wc 7 1 0 [.ref 7] [] rfl rfl rfl (by decide +kernel) rfl rfl (fw_rec hl rfl h7 rfl (Nat.le_of_ble_eq_true rfl)) ?_
      refine ik_Wk 0 (pc_q := 0) (loc_q := [some (.ref 7)]) (st_q := []) (h_q := h) (cl_q := 0) (sl_q := 0) rfl ?_
      refine ik_Wk 1 (pc_q := 1) (loc_q := [some (.ref 7)]) (st_q := [.ref 7]) (h_q := h) (cl_q := 0) (sl_q := 0) rfl ?_
      refine fw_gf rfl rfl h7 rfl ?_
      refine ik_Wk 1 (pc_q := 5) (loc_q := [some (.ref 7)]) (st_q := [fI 1, fI pl]) (h_q := h) (cl_q := 0) (sl_q := 0) rfl ?_
      refine fw_ic_le rfl rfl (by omega) (by omega) (by omega) (by omega) (fun hc14 => ?_) (fun hc14 => ?_)
      · refine ik_Wk 1 (pc_q := 13) (loc_q := [some (.ref 7)]) (st_q := [fI 0]) (h_q := h) (cl_q := 0) (sl_q := 0) rfl ?_
        refine ik_Wret rfl rfl ⟨_, _, rfl, rfl, ?_⟩
        refine ik_Wk 0 (pc_q := 71) (loc_q := [some (.ref 0), some (fI 1), some (fI 1), some (fI v), none]) (st_q := [fI 0]) (h_q := h) (cl_q := 0) (sl_q := 0) rfl ?_
        refine fw_if_ne rfl rfl (by decide +kernel) (by decide +kernel) (fun hc15 => ?_) (fun hc15 => absurd hc15 (by decide +kernel))
        refine fw_ld (-1000000003) rfl rfl (by decide +kernel) ?_
        exact ik_Wret rfl rfl ⟨_, _, rfl, rfl, rfl, rfl, Or.inr ⟨(congrArg (fun z => [fI z]) (by (repeat' split) <;> first | rfl | omega)), h14, h15, h16, (by omega), (hfr_refl [14, 15, 16] h)⟩⟩
      · refine ik_Wk 2 (pc_q := 13) (loc_q := [some (.ref 7)]) (st_q := [fI 1]) (h_q := h) (cl_q := 0) (sl_q := 0) rfl ?_
        refine ik_Wret rfl rfl ⟨_, _, rfl, rfl, ?_⟩
        refine ik_Wk 0 (pc_q := 71) (loc_q := [some (.ref 0), some (fI 1), some (fI 1), some (fI v), none]) (st_q := [fI 1]) (h_q := h) (cl_q := 0) (sl_q := 0) rfl ?_
        refine fw_if_ne rfl rfl (by decide +kernel) (by decide +kernel) (fun hc16 => absurd hc16 (by decide +kernel)) (fun hc16 => ?_)
        refine ik_Wk 1 (pc_q := 78) (loc_q := [some (.ref 0), some (fI 1), some (fI 1), some (fI v), none]) (st_q := [.ref 0]) (h_q := h) (cl_q := 0) (sl_q := 0) rfl ?_
        refine fw_gf rfl rfl h0 rfl ?_
        refine fw_gf rfl rfl h14 rfl ?_
        refine ik_Wk 2 (pc_q := 86) (loc_q := [some (.ref 0), some (fI 1), some (fI 1), some (fI v), none]) (st_q := [fI 3, fI 1, .ref 15]) (h_q := h) (cl_q := 0) (sl_q := 0) rfl ?_
        refine fw_mul rfl ?_
        refine ik_Wk 1 (pc_q := 88) (loc_q := [some (.ref 0), some (fI 1), some (fI 1), some (fI v), none]) (st_q := [fI 1, fI 3, .ref 15]) (h_q := h) (cl_q := 0) (sl_q := 0) rfl ?_
        refine fw_add rfl ?_
        refine fw_ial (z := 4) rfl h15 (by decide +kernel) (Nat.le_of_ble_eq_true rfl) (by decide +kernel) ?_
        refine ik_Wk 0 (pc_q := 90) (loc_q := [some (.ref 0), some (fI 1), some (fI 1), some (fI v), none]) (st_q := [fI pb]) (h_q := h) (cl_q := 0) (sl_q := 0) rfl ?_
        refine ik_Wk 2 (pc_q := 93) (loc_q := [some (.ref 0), some (fI 1), some (fI 1), some (fI v), some (fI pb)]) (st_q := [.ref 0]) (h_q := h) (cl_q := 0) (sl_q := 0) rfl ?_
        refine fw_gf rfl rfl h0 rfl ?_
        refine fw_gf rfl rfl h14 rfl ?_
        refine ik_Wk 2 (pc_q := 101) (loc_q := [some (.ref 0), some (fI 1), some (fI 1), some (fI v), some (fI pb)]) (st_q := [fI 3, fI 1, .ref 15]) (h_q := h) (cl_q := 0) (sl_q := 0) rfl ?_
        refine fw_mul rfl ?_
        refine ik_Wk 1 (pc_q := 103) (loc_q := [some (.ref 0), some (fI 1), some (fI 1), some (fI v), some (fI pb)]) (st_q := [fI 1, fI 3, .ref 15]) (h_q := h) (cl_q := 0) (sl_q := 0) rfl ?_
        refine fw_add rfl ?_
        refine ik_Wk 1 (pc_q := 105) (loc_q := [some (.ref 0), some (fI 1), some (fI 1), some (fI v), some (fI pb)]) (st_q := [fI v, fI 4, .ref 15]) (h_q := h) (cl_q := 0) (sl_q := 0) rfl ?_
        refine fx_ias (z := 4) rfl h15 (by decide +kernel) (Nat.le_of_ble_eq_true rfl) (by decide +kernel) ?_
        intro h_425 e_425 f_425 l_425
        have k_425 : cL h_425 := l_425.trans hl
        have fr_425 := hfr_wb (hfr_refl [14, 15, 16] h) f_425 l_425 rfl
        clear l_425
        have g_425_0 := (f_425 0 (Nat.ne_of_beq_eq_false rfl)).trans h0
        have g_425_7 := (f_425 7 (Nat.ne_of_beq_eq_false rfl)).trans h7
        have g_425_14 := (f_425 14 (Nat.ne_of_beq_eq_false rfl)).trans h14
        have g_425_16 := (f_425 16 (Nat.ne_of_beq_eq_false rfl)).trans h16
        have g_425_15 : cE h_425 15 (.inl (.int, fA [ka, pa, fa, kb, v, fb])) := e_425
        refine ik_Wk 1 (pc_q := 107) (loc_q := [some (.ref 0), some (fI 1), some (fI 1), some (fI v), some (fI pb)]) (st_q := [.ref 0]) (h_q := h_425) (cl_q := 0) (sl_q := 0) rfl ?_
        refine fw_gf rfl rfl g_425_0 rfl ?_
        refine fw_call 23 1 0 [.ref 14] [] rfl rfl rfl (Nat.le_of_ble_eq_true rfl) rfl rfl (fw_rec k_425 rfl g_425_14 rfl (Nat.le_of_ble_eq_true rfl)) (cs_restart (mi := mi) (ka := ka) (pa := pa) (fa := fa) (kb := kb) (pb := v) (fb := fb) (xa := xa) (xb := xb) (sd := dr) (by omega) (by omega) g_425_14 g_425_15 g_425_16 k_425) ?_
        rintro _ h_426 ⟨rfl, e_426_14, e_426_16, F_426⟩
        have k_426 : cL h_426 := F_426.1.trans k_425
        have fr_426 := hfr_cb fr_425 F_426 rfl
        have g_426_0 := (hfr_g F_426 0 rfl).trans g_425_0
        have g_426_7 := (hfr_g F_426 7 rfl).trans g_425_7
        have g_426_15 := (hfr_g F_426 15 rfl).trans g_425_15
        have g_426_14 : cE h_426 14 (.inr (1, [.ref 7, .ref 15, .ref 16, fI 0, fJ dr])) := e_426_14
        have g_426_16 : cE h_426 16 (.inl (.int, fA [mx_sp pa fa, mx_sp v fb])) := e_426_16
        refine ik_Wk 0 (pc_q := 113) (loc_q := [some (.ref 0), some (fI 1), some (fI 1), some (fI v), some (fI pb)]) (st_q := []) (h_q := h_426) (cl_q := 0) (sl_q := 0) rfl ?_
        refine ik_Wk 1 (pc_q := 115) (loc_q := [some (.ref 0), some (fI 1), some (fI 1), some (fI v), some (fI pb)]) (st_q := [fI pb]) (h_q := h_426) (cl_q := 0) (sl_q := 0) rfl ?_
        exact ik_Wret rfl rfl ⟨_, _, rfl, rfl, rfl, rfl, Or.inl ⟨rfl, g_426_14, g_426_15, g_426_16, (by omega), fr_426⟩⟩

theorem rp_cork11 {h : List ik_E} {ka : Int} {pa : Int} {fa : Int} {kb : Int} {pb : Int} {fb : Int} {xa : Int} {xb : Int} {mi : Int} {v : Int} {pl : Int} {f : Nat → Int} (q0 : 0 ≤ fa ∧ fa ≤ 30) (q1 : 0 ≤ fb ∧ fb ≤ 30) (q2 : 0 ≤ pl ∧ pl ≤ 12) (q3 : -2147483648 ≤ v ∧ v < 2147483648) (h66 : cE h 66 (.inr (10, (fI pl :: .ref 67 :: .ref 68 :: .ref 69 :: fI (f 4) :: .ref 70 :: .ref 71 :: fI mi :: fI (f 8) :: .ref 72 :: fI (f 10) :: fI (f 11) :: fI (f 12) :: fJ (f 13) :: fI (f 14) :: fI (f 15) :: fI (f 16) :: fI (f 17) :: .ref 73 :: .ref 74 :: .ref 75 :: .ref 76 :: .ref 77 :: .ref 78 :: fI (f 24) :: .ref 79 :: .ref 80 :: .ref 81 :: .ref 82 :: .ref 83 :: .ref 84 :: .ref 85 :: fJ (f 32) :: fJ (f 33) :: .ref 86 :: .ref 87 :: fI (f 36) :: .ref 88 :: .ref 89 :: .ref 90 :: .ref 91 :: .ref 92 :: .ref 93 :: [])))) (h70 : cE h 70 (.inl (.int, fA [ka, pa, fa, kb, pb, fb]))) (h71 : cE h 71 (.inl (.int, fA [xa, xb]))) (hl : h.length = 94) : ik_F 158 [.ref 66, fI 1, fI 1, fI v] h (fun rv h_q => (rv = [fI pb] ∧ cE h_q 66 (.inr (10, (fI pl :: .ref 67 :: .ref 68 :: .ref 69 :: fI (f 4) :: .ref 70 :: .ref 71 :: fI 0 :: fI (f 8) :: .ref 72 :: fI (f 10) :: fI (f 11) :: fI (f 12) :: fJ (f 13) :: fI (f 14) :: fI (f 15) :: fI (f 16) :: fI (f 17) :: .ref 73 :: .ref 74 :: .ref 75 :: .ref 76 :: .ref 77 :: .ref 78 :: fI (f 24) :: .ref 79 :: .ref 80 :: .ref 81 :: .ref 82 :: .ref 83 :: .ref 84 :: .ref 85 :: fJ (f 32) :: fJ (f 33) :: .ref 86 :: .ref 87 :: fI (f 36) :: .ref 88 :: .ref 89 :: .ref 90 :: .ref 91 :: .ref 92 :: .ref 93 :: []))) ∧ cE h_q 70 (.inl (.int, fA [ka, pa, fa, kb, v, fb])) ∧ cE h_q 71 (.inl (.int, fA [mx_sp pa fa, mx_sp v fb])) ∧ (0 ≤ v ∧ v < pl - 1) ∧ hfr [66, 70, 71] h h_q) ∨ (rv = [fI (-1000000001)] ∧ cE h_q 66 (.inr (10, (fI pl :: .ref 67 :: .ref 68 :: .ref 69 :: fI (f 4) :: .ref 70 :: .ref 71 :: fI mi :: fI (f 8) :: .ref 72 :: fI (f 10) :: fI (f 11) :: fI (f 12) :: fJ (f 13) :: fI (f 14) :: fI (f 15) :: fI (f 16) :: fI (f 17) :: .ref 73 :: .ref 74 :: .ref 75 :: .ref 76 :: .ref 77 :: .ref 78 :: fI (f 24) :: .ref 79 :: .ref 80 :: .ref 81 :: .ref 82 :: .ref 83 :: .ref 84 :: .ref 85 :: fJ (f 32) :: fJ (f 33) :: .ref 86 :: .ref 87 :: fI (f 36) :: .ref 88 :: .ref 89 :: .ref 90 :: .ref 91 :: .ref 92 :: .ref 93 :: []))) ∧ cE h_q 70 (.inl (.int, fA [ka, pa, fa, kb, pb, fb])) ∧ cE h_q 71 (.inl (.int, fA [xa, xb])) ∧ (¬ (0 ≤ v ∧ v < pl - 1)) ∧ hfr [66, 70, 71] h h_q)) := by
  refine ik_Wk 1 (pc_q := 1) (loc_q := [some (.ref 66), some (fI 1), some (fI 1), some (fI v), none]) (st_q := [fI 1]) (h_q := h) (cl_q := 0) (sl_q := 0) rfl ?_
  refine ik_Wc 132 1 3 [fI 1] [] rfl rfl rfl (by decide +kernel) rfl rfl (fw_sta hl rfl (by decide +kernel)) ?_
  refine ik_Wk 0 (pc_q := 0) (loc_q := [some (fI 1)]) (st_q := []) (h_q := h) (cl_q := 0) (sl_q := 0) rfl ?_
  refine ik_Wk 1 (pc_q := 1) (loc_q := [some (fI 1)]) (st_q := [fI 1]) (h_q := h) (cl_q := 0) (sl_q := 0) rfl ?_
  refine fw_i2l rfl (by omega) (by omega) ?_
  refine fw_lc (z := 0) rfl (by decide +kernel) ?_
  refine fw_lc (z := 1) rfl (by decide +kernel) ?_
  refine fw_call 127 3 3 [fJ 1, fJ 0, fJ 1] [] rfl rfl rfl (Nat.le_of_ble_eq_true rfl) rfl rfl (fw_sta hl rfl (by decide +kernel)) (cr_in (v := 1) (a := 0) (b := 1) (by omega) (by omega) (by omega)  hl) ?_
  rintro _ h_427 (⟨rfl, p_427_0, F_427⟩ | ⟨rfl, p_427_0, F_427⟩)
  · have k_427 : cL h_427 := F_427.1.trans hl
    have fr_427 := hfr_cb (hfr_refl [66, 70, 71] h) F_427 rfl
    have g_427_66 := (hfr_g F_427 66 rfl).trans h66
    have g_427_70 := (hfr_g F_427 70 rfl).trans h70
    have g_427_71 := (hfr_g F_427 71 rfl).trans h71
    refine ik_Wk 0 (pc_q := 7) (loc_q := [some (fI 1)]) (st_q := [fI 1]) (h_q := h_427) (cl_q := 0) (sl_q := 0) rfl ?_
    refine ik_Wret rfl rfl ⟨_, _, rfl, rfl, ?_⟩
    refine ik_Wk 0 (pc_q := 4) (loc_q := [some (.ref 66), some (fI 1), some (fI 1), some (fI v), none]) (st_q := [fI 1]) (h_q := h_427) (cl_q := 0) (sl_q := 0) rfl ?_
    refine fw_if_ne rfl rfl (by decide +kernel) (by decide +kernel) (fun hc1 => absurd hc1 (by decide +kernel)) (fun hc1 => ?_)
    refine ik_Wk 1 (pc_q := 11) (loc_q := [some (.ref 66), some (fI 1), some (fI 1), some (fI v), none]) (st_q := [fI 1]) (h_q := h_427) (cl_q := 0) (sl_q := 0) rfl ?_
    refine fw_if_ne rfl rfl (by decide +kernel) (by decide +kernel) (fun hc2 => absurd hc2 (by decide +kernel)) (fun hc2 => ?_)
    refine ik_Wk 2 (pc_q := 23) (loc_q := [some (.ref 66), some (fI 1), some (fI 1), some (fI v), none]) (st_q := [fI 1, fI 1]) (h_q := h_427) (cl_q := 0) (sl_q := 0) rfl ?_
    refine fw_ic_ne rfl rfl (by decide +kernel) (by decide +kernel) (by decide +kernel) (by decide +kernel) (fun hc3 => ?_) (fun hc3 => absurd hc3 (by decide +kernel))
    refine ik_Wk 2 (pc_q := 28) (loc_q := [some (.ref 66), some (fI 1), some (fI 1), some (fI v), none]) (st_q := [fI v, .ref 66]) (h_q := h_427) (cl_q := 0) (sl_q := 0) rfl ?_
    refine ik_Wc 131 2 0 [.ref 66, fI v] [] rfl rfl rfl (by decide +kernel) rfl rfl (fw_rec k_427 rfl g_427_66 rfl (Nat.le_of_ble_eq_true rfl)) ?_
    refine ik_Wk 0 (pc_q := 0) (loc_q := [some (.ref 66), some (fI v)]) (st_q := []) (h_q := h_427) (cl_q := 0) (sl_q := 0) rfl ?_
    refine ik_Wk 1 (pc_q := 1) (loc_q := [some (.ref 66), some (fI v)]) (st_q := [fI v]) (h_q := h_427) (cl_q := 0) (sl_q := 0) rfl ?_
    refine fw_i2l rfl (by omega) (by omega) ?_
    refine fw_lc (z := 0) rfl (by decide +kernel) ?_
    refine ik_Wk 1 (pc_q := 4) (loc_q := [some (.ref 66), some (fI v)]) (st_q := [.ref 66, fJ 0, fJ v]) (h_q := h_427) (cl_q := 0) (sl_q := 0) rfl ?_
    refine fw_gf rfl rfl g_427_66 rfl ?_
    refine ik_Wk 1 (pc_q := 8) (loc_q := [some (.ref 66), some (fI v)]) (st_q := [fI 2, fI pl, fJ 0, fJ v]) (h_q := h_427) (cl_q := 0) (sl_q := 0) rfl ?_
    refine fw_sub rfl ?_
    refine fw_i2l rfl (by omega) (by omega) ?_
    refine fw_call 127 3 3 [fJ v, fJ 0, fJ (pl - 2)] [] rfl rfl rfl (Nat.le_of_ble_eq_true rfl) rfl rfl (fw_sta k_427 rfl (by decide +kernel)) (cr_in (v := v) (a := 0) (b := pl - 2) (by omega) (by omega) (by omega)  k_427) ?_
    rintro _ h_428 (⟨rfl, p_428_0, F_428⟩ | ⟨rfl, p_428_0, F_428⟩)
    · have k_428 : cL h_428 := F_428.1.trans k_427
      have fr_428 := hfr_cb fr_427 F_428 rfl
      have g_428_66 := (hfr_g F_428 66 rfl).trans g_427_66
      have g_428_70 := (hfr_g F_428 70 rfl).trans g_427_70
      have g_428_71 := (hfr_g F_428 71 rfl).trans g_427_71
      refine ik_Wk 0 (pc_q := 13) (loc_q := [some (.ref 66), some (fI v)]) (st_q := [fI 1]) (h_q := h_428) (cl_q := 0) (sl_q := 0) rfl ?_
      refine ik_Wret rfl rfl ⟨_, _, rfl, rfl, ?_⟩
      refine ik_Wk 0 (pc_q := 31) (loc_q := [some (.ref 66), some (fI 1), some (fI 1), some (fI v), none]) (st_q := [fI 1]) (h_q := h_428) (cl_q := 0) (sl_q := 0) rfl ?_
      refine fw_if_ne rfl rfl (by decide +kernel) (by decide +kernel) (fun hc4 => absurd hc4 (by decide +kernel)) (fun hc4 => ?_)
      refine ik_Wk 1 (pc_q := 38) (loc_q := [some (.ref 66), some (fI 1), some (fI 1), some (fI v), none]) (st_q := [fI 1]) (h_q := h_428) (cl_q := 0) (sl_q := 0) rfl ?_
      refine fw_i2l rfl (by omega) (by omega) ?_
      refine fw_lc (z := 0) rfl (by decide +kernel) ?_
      refine fw_l2 2 rfl rfl (by decide +kernel) ?_
      refine fw_call 127 3 3 [fJ 1, fJ 0, fJ 2] [] rfl rfl rfl (Nat.le_of_ble_eq_true rfl) rfl rfl (fw_sta k_428 rfl (by decide +kernel)) (cr_in (v := 1) (a := 0) (b := 2) (by omega) (by omega) (by omega)  k_428) ?_
      rintro _ h_429 (⟨rfl, p_429_0, F_429⟩ | ⟨rfl, p_429_0, F_429⟩)
      · have k_429 : cL h_429 := F_429.1.trans k_428
        have fr_429 := hfr_cb fr_428 F_429 rfl
        have g_429_66 := (hfr_g F_429 66 rfl).trans g_428_66
        have g_429_70 := (hfr_g F_429 70 rfl).trans g_428_70
        have g_429_71 := (hfr_g F_429 71 rfl).trans g_428_71
        refine ik_Wk 0 (pc_q := 46) (loc_q := [some (.ref 66), some (fI 1), some (fI 1), some (fI v), none]) (st_q := [fI 1]) (h_q := h_429) (cl_q := 0) (sl_q := 0) rfl ?_
        refine fw_if_eq rfl rfl (by decide +kernel) (by decide +kernel) (fun hc5 => absurd hc5 (by decide +kernel)) (fun hc5 => ?_)
        refine ik_Wk 2 (pc_q := 51) (loc_q := [some (.ref 66), some (fI 1), some (fI 1), some (fI v), none]) (st_q := [fI 2, fI 1]) (h_q := h_429) (cl_q := 0) (sl_q := 0) rfl ?_
        refine fw_ic_ne rfl rfl (by decide +kernel) (by decide +kernel) (by decide +kernel) (by decide +kernel) (fun hc6 => absurd hc6 (by decide +kernel)) (fun hc6 => ?_)
        refine ik_Wk 1 (pc_q := 70) (loc_q := [some (.ref 66), some (fI 1), some (fI 1), some (fI v), none]) (st_q := [.ref 66]) (h_q := h_429) (cl_q := 0) (sl_q := 0) rfl ?_
        refine ik_Wc 134 1 0 [.ref 66] [] rfl rfl rfl (by decide +kernel) rfl rfl (fw_rec k_429 rfl g_429_66 rfl (Nat.le_of_ble_eq_true rfl)) ?_
        refine ik_Wk 0 (pc_q := 0) (loc_q := [some (.ref 66)]) (st_q := []) (h_q := h_429) (cl_q := 0) (sl_q := 0) rfl ?_
        refine ik_Wk 1 (pc_q := 1) (loc_q := [some (.ref 66)]) (st_q := [.ref 66]) (h_q := h_429) (cl_q := 0) (sl_q := 0) rfl ?_
        refine fw_gf rfl rfl g_429_66 rfl ?_
        refine ik_Wk 1 (pc_q := 5) (loc_q := [some (.ref 66)]) (st_q := [fI 1, fI pl]) (h_q := h_429) (cl_q := 0) (sl_q := 0) rfl ?_
        refine fw_ic_le rfl rfl (by omega) (by omega) (by omega) (by omega) (fun hc7 => ?_) (fun hc7 => ?_)
        · refine ik_Wk 1 (pc_q := 13) (loc_q := [some (.ref 66)]) (st_q := [fI 0]) (h_q := h_429) (cl_q := 0) (sl_q := 0) rfl ?_
          refine ik_Wret rfl rfl ⟨_, _, rfl, rfl, ?_⟩
          refine ik_Wk 0 (pc_q := 73) (loc_q := [some (.ref 66), some (fI 1), some (fI 1), some (fI v), none]) (st_q := [fI 0]) (h_q := h_429) (cl_q := 0) (sl_q := 0) rfl ?_
          refine fw_if_ne rfl rfl (by decide +kernel) (by decide +kernel) (fun hc8 => ?_) (fun hc8 => absurd hc8 (by decide +kernel))
          refine fw_ld (-1000000003) rfl rfl (by decide +kernel) ?_
          exact ik_Wret rfl rfl ⟨_, _, rfl, rfl, rfl, rfl, Or.inr ⟨(congrArg (fun z => [fI z]) (by (repeat' split) <;> first | rfl | omega)), g_429_66, g_429_70, g_429_71, (by omega), fr_429⟩⟩
        · refine ik_Wk 2 (pc_q := 13) (loc_q := [some (.ref 66)]) (st_q := [fI 1]) (h_q := h_429) (cl_q := 0) (sl_q := 0) rfl ?_
          refine ik_Wret rfl rfl ⟨_, _, rfl, rfl, ?_⟩
          refine ik_Wk 0 (pc_q := 73) (loc_q := [some (.ref 66), some (fI 1), some (fI 1), some (fI v), none]) (st_q := [fI 1]) (h_q := h_429) (cl_q := 0) (sl_q := 0) rfl ?_
          refine fw_if_ne rfl rfl (by decide +kernel) (by decide +kernel) (fun hc9 => absurd hc9 (by decide +kernel)) (fun hc9 => ?_)
          refine ik_Wk 1 (pc_q := 80) (loc_q := [some (.ref 66), some (fI 1), some (fI 1), some (fI v), none]) (st_q := [.ref 66]) (h_q := h_429) (cl_q := 0) (sl_q := 0) rfl ?_
          refine fw_gf rfl rfl g_429_66 rfl ?_
          refine ik_Wk 2 (pc_q := 85) (loc_q := [some (.ref 66), some (fI 1), some (fI 1), some (fI v), none]) (st_q := [fI 1, fI 3, .ref 70]) (h_q := h_429) (cl_q := 0) (sl_q := 0) rfl ?_
          refine fw_mul rfl ?_
          refine ik_Wk 1 (pc_q := 87) (loc_q := [some (.ref 66), some (fI 1), some (fI 1), some (fI v), none]) (st_q := [fI 1, fI 3, .ref 70]) (h_q := h_429) (cl_q := 0) (sl_q := 0) rfl ?_
          refine fw_add rfl ?_
          refine fw_ial (z := 4) rfl g_429_70 (by decide +kernel) (Nat.le_of_ble_eq_true rfl) (by decide +kernel) ?_
          refine ik_Wk 0 (pc_q := 89) (loc_q := [some (.ref 66), some (fI 1), some (fI 1), some (fI v), none]) (st_q := [fI pb]) (h_q := h_429) (cl_q := 0) (sl_q := 0) rfl ?_
          refine ik_Wk 2 (pc_q := 92) (loc_q := [some (.ref 66), some (fI 1), some (fI 1), some (fI v), some (fI pb)]) (st_q := [.ref 66]) (h_q := h_429) (cl_q := 0) (sl_q := 0) rfl ?_
          refine fw_gf rfl rfl g_429_66 rfl ?_
          refine ik_Wk 2 (pc_q := 97) (loc_q := [some (.ref 66), some (fI 1), some (fI 1), some (fI v), some (fI pb)]) (st_q := [fI 1, fI 3, .ref 70]) (h_q := h_429) (cl_q := 0) (sl_q := 0) rfl ?_
          refine fw_mul rfl ?_
          refine ik_Wk 1 (pc_q := 99) (loc_q := [some (.ref 66), some (fI 1), some (fI 1), some (fI v), some (fI pb)]) (st_q := [fI 1, fI 3, .ref 70]) (h_q := h_429) (cl_q := 0) (sl_q := 0) rfl ?_
          refine fw_add rfl ?_
          refine ik_Wk 1 (pc_q := 101) (loc_q := [some (.ref 66), some (fI 1), some (fI 1), some (fI v), some (fI pb)]) (st_q := [fI v, fI 4, .ref 70]) (h_q := h_429) (cl_q := 0) (sl_q := 0) rfl ?_
          refine fx_ias (z := 4) rfl g_429_70 (by decide +kernel) (Nat.le_of_ble_eq_true rfl) (by decide +kernel) ?_
          intro h_430 e_430 f_430 l_430
          have k_430 : cL h_430 := l_430.trans k_429
          have fr_430 := hfr_wb fr_429 f_430 l_430 rfl
          clear l_430
          have g_430_66 := (f_430 66 (Nat.ne_of_beq_eq_false rfl)).trans g_429_66
          have g_430_71 := (f_430 71 (Nat.ne_of_beq_eq_false rfl)).trans g_429_71
          have g_430_70 : cE h_430 70 (.inl (.int, fA [ka, pa, fa, kb, v, fb])) := e_430
          refine ik_Wk 1 (pc_q := 103) (loc_q := [some (.ref 66), some (fI 1), some (fI 1), some (fI v), some (fI pb)]) (st_q := [.ref 66]) (h_q := h_430) (cl_q := 0) (sl_q := 0) rfl ?_
          refine fw_call 194 1 0 [.ref 66] [] rfl rfl rfl (Nat.le_of_ble_eq_true rfl) rfl rfl (fw_rec k_430 rfl g_430_66 rfl (Nat.le_of_ble_eq_true rfl)) (cr_begin (mi := mi) (ka := ka) (pa := pa) (fa := fa) (kb := kb) (pb := v) (fb := fb) (xa := xa) (xb := xb) (f := fun j => ((pl :: 0 :: 0 :: 0 :: f 4 :: 0 :: 0 :: 0 :: f 8 :: 0 :: f 10 :: f 11 :: f 12 :: f 13 :: f 14 :: f 15 :: f 16 :: f 17 :: 0 :: 0 :: 0 :: 0 :: 0 :: 0 :: f 24 :: 0 :: 0 :: 0 :: 0 :: 0 :: 0 :: 0 :: f 32 :: f 33 :: 0 :: 0 :: f 36 :: 0 :: 0 :: 0 :: 0 :: 0 :: 0 :: []) : List Int).getD j 0) (by omega) (by omega) g_430_66 g_430_70 g_430_71 k_430) ?_
          rintro _ h_431 ⟨rfl, e_431_66, e_431_71, F_431⟩
          have k_431 : cL h_431 := F_431.1.trans k_430
          have fr_431 := hfr_cb fr_430 F_431 rfl
          have g_431_70 := (hfr_g F_431 70 rfl).trans g_430_70
          have g_431_66 : cE h_431 66 (.inr (10, (fI pl :: .ref 67 :: .ref 68 :: .ref 69 :: fI (f 4) :: .ref 70 :: .ref 71 :: fI 0 :: fI (f 8) :: .ref 72 :: fI (f 10) :: fI (f 11) :: fI (f 12) :: fJ (f 13) :: fI (f 14) :: fI (f 15) :: fI (f 16) :: fI (f 17) :: .ref 73 :: .ref 74 :: .ref 75 :: .ref 76 :: .ref 77 :: .ref 78 :: fI (f 24) :: .ref 79 :: .ref 80 :: .ref 81 :: .ref 82 :: .ref 83 :: .ref 84 :: .ref 85 :: fJ (f 32) :: fJ (f 33) :: .ref 86 :: .ref 87 :: fI (f 36) :: .ref 88 :: .ref 89 :: .ref 90 :: .ref 91 :: .ref 92 :: .ref 93 :: []))) := e_431_66
          have g_431_71 : cE h_431 71 (.inl (.int, fA [mx_sp pa fa, mx_sp v fb])) := e_431_71
          refine ik_Wk 0 (pc_q := 106) (loc_q := [some (.ref 66), some (fI 1), some (fI 1), some (fI v), some (fI pb)]) (st_q := []) (h_q := h_431) (cl_q := 0) (sl_q := 0) rfl ?_
          refine ik_Wk 1 (pc_q := 108) (loc_q := [some (.ref 66), some (fI 1), some (fI 1), some (fI v), some (fI pb)]) (st_q := [fI pb]) (h_q := h_431) (cl_q := 0) (sl_q := 0) rfl ?_
          exact ik_Wret rfl rfl ⟨_, _, rfl, rfl, rfl, rfl, Or.inl ⟨rfl, g_431_66, g_431_70, g_431_71, (by omega), fr_431⟩⟩
      · have k_429 : cL h_429 := F_429.1.trans k_428
        have fr_429 := hfr_cb fr_428 F_429 rfl
        have g_429_66 := (hfr_g F_429 66 rfl).trans g_428_66
        have g_429_70 := (hfr_g F_429 70 rfl).trans g_428_70
        have g_429_71 := (hfr_g F_429 71 rfl).trans g_428_71
        refine ik_Wk 0 (pc_q := 46) (loc_q := [some (.ref 66), some (fI 1), some (fI 1), some (fI v), none]) (st_q := [fI 0]) (h_q := h_429) (cl_q := 0) (sl_q := 0) rfl ?_
        refine fw_if_eq rfl rfl (by decide +kernel) (by decide +kernel) (fun hc10 => ?_) (fun hc10 => absurd hc10 (by decide +kernel))
        refine fw_ld (-1000000002) rfl rfl (by decide +kernel) ?_
        exact ik_Wret rfl rfl ⟨_, _, rfl, rfl, rfl, rfl, Or.inr ⟨(congrArg (fun z => [fI z]) (by (repeat' split) <;> first | rfl | omega)), g_429_66, g_429_70, g_429_71, (by omega), fr_429⟩⟩
    · have k_428 : cL h_428 := F_428.1.trans k_427
      have fr_428 := hfr_cb fr_427 F_428 rfl
      have g_428_66 := (hfr_g F_428 66 rfl).trans g_427_66
      have g_428_70 := (hfr_g F_428 70 rfl).trans g_427_70
      have g_428_71 := (hfr_g F_428 71 rfl).trans g_427_71
      refine ik_Wk 0 (pc_q := 13) (loc_q := [some (.ref 66), some (fI v)]) (st_q := [fI 0]) (h_q := h_428) (cl_q := 0) (sl_q := 0) rfl ?_
      refine ik_Wret rfl rfl ⟨_, _, rfl, rfl, ?_⟩
      refine ik_Wk 0 (pc_q := 31) (loc_q := [some (.ref 66), some (fI 1), some (fI 1), some (fI v), none]) (st_q := [fI 0]) (h_q := h_428) (cl_q := 0) (sl_q := 0) rfl ?_
      refine fw_if_ne rfl rfl (by decide +kernel) (by decide +kernel) (fun hc11 => ?_) (fun hc11 => absurd hc11 (by decide +kernel))
      refine fw_ld (-1000000001) rfl rfl (by decide +kernel) ?_
      exact ik_Wret rfl rfl ⟨_, _, rfl, rfl, rfl, rfl, Or.inr ⟨(congrArg (fun z => [fI z]) (by (repeat' split) <;> first | rfl | omega)), g_428_66, g_428_70, g_428_71, (by omega), fr_428⟩⟩
  · have k_427 : cL h_427 := F_427.1.trans hl
    have fr_427 := hfr_cb (hfr_refl [66, 70, 71] h) F_427 rfl
    have g_427_66 := (hfr_g F_427 66 rfl).trans h66
    have g_427_70 := (hfr_g F_427 70 rfl).trans h70
    have g_427_71 := (hfr_g F_427 71 rfl).trans h71
    refine ik_Wk 0 (pc_q := 7) (loc_q := [some (fI 1)]) (st_q := [fI 0]) (h_q := h_427) (cl_q := 0) (sl_q := 0) rfl ?_
    refine ik_Wret rfl rfl ⟨_, _, rfl, rfl, ?_⟩
    refine ik_Wk 0 (pc_q := 4) (loc_q := [some (.ref 66), some (fI 1), some (fI 1), some (fI v), none]) (st_q := [fI 0]) (h_q := h_427) (cl_q := 0) (sl_q := 0) rfl ?_
    refine fw_if_ne rfl rfl (by decide +kernel) (by decide +kernel) (fun hc12 => ?_) (fun hc12 => absurd hc12 (by decide +kernel))
    refine fw_ld (-1000000001) rfl rfl (by decide +kernel) ?_
    exact ik_Wret rfl rfl ⟨_, _, rfl, rfl, rfl, rfl, Or.inr ⟨(congrArg (fun z => [fI z]) (by (repeat' split) <;> first | rfl | omega)), g_427_66, g_427_70, g_427_71, (by omega), fr_427⟩⟩

theorem cp_cork12 {h : List ik_E} {ka : Int} {pa : Int} {fa : Int} {kb : Int} {pb : Int} {fb : Int} {xa : Int} {xb : Int} {mi : Int} {dr : Int} {v : Int} {pl : Int} {st : Int} {lo : Int} (q0 : 0 ≤ fa ∧ fa ≤ 30) (q1 : 0 ≤ fb ∧ fb ≤ 30) (q2 : 0 ≤ pl ∧ pl ≤ 12) (q3 : -2147483648 ≤ v ∧ v < 2147483648) (h0 : cE h 0 (.inr (9, [.ref 1, .ref 7, .ref 14, .ref 17, .ref 45, .ref 51, .ref 54, .ref 57]))) (h7 : cE h 7 (.inr (0, [fI pl, fI st, fI lo, .ref 8, .ref 9, .ref 10, .ref 11, .ref 12, .ref 13]))) (h14 : cE h 14 (.inr (1, [.ref 7, .ref 15, .ref 16, fI mi, fJ dr]))) (h15 : cE h 15 (.inl (.int, fA [ka, pa, fa, kb, pb, fb]))) (h16 : cE h 16 (.inl (.int, fA [xa, xb]))) (hl : h.length = 94) : ik_F 95 [.ref 0, fI 1, fI 2, fI v] h (fun rv h_q => (rv = [fI fb] ∧ cE h_q 14 (.inr (1, [.ref 7, .ref 15, .ref 16, fI 0, fJ dr])) ∧ cE h_q 15 (.inl (.int, fA [ka, pa, fa, kb, pb, v])) ∧ cE h_q 16 (.inl (.int, fA [mx_sp pa fa, mx_sp pb v])) ∧ ((0 ≤ v ∧ v ≤ 30) ∧ 1 < pl) ∧ hfr [14, 15, 16] h h_q) ∨ (rv = [fI (if 0 ≤ v ∧ v ≤ 30 then -1000000003 else -1000000002)] ∧ cE h_q 14 (.inr (1, [.ref 7, .ref 15, .ref 16, fI mi, fJ dr])) ∧ cE h_q 15 (.inl (.int, fA [ka, pa, fa, kb, pb, fb])) ∧ cE h_q 16 (.inl (.int, fA [xa, xb])) ∧ (¬ ((0 ≤ v ∧ v ≤ 30) ∧ 1 < pl)) ∧ hfr [14, 15, 16] h h_q)) := by
  refine ik_Wk 1 (pc_q := 1) (loc_q := [some (.ref 0), some (fI 1), some (fI 2), some (fI v), none]) (st_q := [fI 1]) (h_q := h) (cl_q := 0) (sl_q := 0) rfl ?_
  refine ik_Wc 121 1 3 [fI 1] [] rfl rfl rfl (by decide +kernel) rfl rfl (fw_sta hl rfl (by decide +kernel)) ?_
  refine ik_Wk 0 (pc_q := 0) (loc_q := [some (fI 1)]) (st_q := []) (h_q := h) (cl_q := 0) (sl_q := 0) rfl ?_
  refine ik_Wk 1 (pc_q := 1) (loc_q := [some (fI 1)]) (st_q := [fI 1]) (h_q := h) (cl_q := 0) (sl_q := 0) rfl ?_
  refine fw_if_eq rfl rfl (by decide +kernel) (by decide +kernel) (fun hc1 => absurd hc1 (by decide +kernel)) (fun hc1 => ?_)
  refine ik_Wk 2 (pc_q := 6) (loc_q := [some (fI 1)]) (st_q := [fI 1, fI 1]) (h_q := h) (cl_q := 0) (sl_q := 0) rfl ?_
  refine fw_ic_ne rfl rfl (by decide +kernel) (by decide +kernel) (by decide +kernel) (by decide +kernel) (fun hc2 => ?_) (fun hc2 => absurd hc2 (by decide +kernel))
  refine ik_Wk 2 (pc_q := 14) (loc_q := [some (fI 1)]) (st_q := [fI 1]) (h_q := h) (cl_q := 0) (sl_q := 0) rfl ?_
  refine ik_Wret rfl rfl ⟨_, _, rfl, rfl, ?_⟩
  refine ik_Wk 0 (pc_q := 4) (loc_q := [some (.ref 0), some (fI 1), some (fI 2), some (fI v), none]) (st_q := [fI 1]) (h_q := h) (cl_q := 0) (sl_q := 0) rfl ?_
  refine fw_if_eq rfl rfl (by decide +kernel) (by decide +kernel) (fun hc3 => absurd hc3 (by decide +kernel)) (fun hc3 => ?_)
  refine ik_Wk 1 (pc_q := 8) (loc_q := [some (.ref 0), some (fI 1), some (fI 2), some (fI v), none]) (st_q := [fI 2]) (h_q := h) (cl_q := 0) (sl_q := 0) rfl ?_
  refine fw_if_ne rfl rfl (by decide +kernel) (by decide +kernel) (fun hc4 => absurd hc4 (by decide +kernel)) (fun hc4 => ?_)
  refine ik_Wk 2 (pc_q := 20) (loc_q := [some (.ref 0), some (fI 1), some (fI 2), some (fI v), none]) (st_q := [fI 1, fI 2]) (h_q := h) (cl_q := 0) (sl_q := 0) rfl ?_
  refine fw_ic_ne rfl rfl (by decide +kernel) (by decide +kernel) (by decide +kernel) (by decide +kernel) (fun hc5 => absurd hc5 (by decide +kernel)) (fun hc5 => ?_)
  refine ik_Wk 1 (pc_q := 38) (loc_q := [some (.ref 0), some (fI 1), some (fI 2), some (fI v), none]) (st_q := [fI 2]) (h_q := h) (cl_q := 0) (sl_q := 0) rfl ?_
  refine fw_if_lt rfl rfl (by decide +kernel) (by decide +kernel) (fun hc6 => absurd hc6 (by decide +kernel)) (fun hc6 => ?_)
  refine ik_Wk 2 (pc_q := 43) (loc_q := [some (.ref 0), some (fI 1), some (fI 2), some (fI v), none]) (st_q := [fI 2, fI 2]) (h_q := h) (cl_q := 0) (sl_q := 0) rfl ?_
  refine fw_ic_gt rfl rfl (by decide +kernel) (by decide +kernel) (by decide +kernel) (by decide +kernel) (fun hc7 => absurd hc7 (by decide +kernel)) (fun hc7 => ?_)
  refine ik_Wk 2 (pc_q := 48) (loc_q := [some (.ref 0), some (fI 1), some (fI 2), some (fI v), none]) (st_q := [fI 2, fI 2]) (h_q := h) (cl_q := 0) (sl_q := 0) rfl ?_
  refine fw_ic_ne rfl rfl (by decide +kernel) (by decide +kernel) (by decide +kernel) (by decide +kernel) (fun hc8 => ?_) (fun hc8 => absurd hc8 (by decide +kernel))
  refine ik_Wk 1 (pc_q := 52) (loc_q := [some (.ref 0), some (fI 1), some (fI 2), some (fI v), none]) (st_q := [fI v]) (h_q := h) (cl_q := 0) (sl_q := 0) rfl ?_
  refine fw_if_lt rfl rfl (by omega) (by omega) (fun hc9 => ?_) (fun hc9 => ?_)
  · refine fw_ld (-1000000002) rfl rfl (by decide +kernel) ?_
    exact ik_Wret rfl rfl ⟨_, _, rfl, rfl, rfl, rfl, Or.inr ⟨(congrArg (fun z => [fI z]) (by (repeat' split) <;> first | rfl | omega)), h14, h15, h16, (by omega), (hfr_refl [14, 15, 16] h)⟩⟩
  · refine ik_Wk 1 (pc_q := 56) (loc_q := [some (.ref 0), some (fI 1), some (fI 2), some (fI v), none]) (st_q := [fI v]) (h_q := h) (cl_q := 0) (sl_q := 0) rfl ?_
    refine fw_bi rfl (by decide +kernel) ?_
    refine fw_ic_le rfl rfl (by omega) (by omega) (by omega) (by omega) (fun hc10 => ?_) (fun hc10 => ?_)
    · refine ik_Wk 1 (pc_q := 65) (loc_q := [some (.ref 0), some (fI 1), some (fI 2), some (fI v), none]) (st_q := [.ref 0]) (h_q := h) (cl_q := 0) (sl_q := 0) rfl ?_
      refine fw_gf rfl rfl h0 rfl ?_
      refine ik_Wc 7 1 0 [.ref 7] [] rfl rfl rfl (by decide +kernel) rfl rfl (fw_rec hl rfl h7 rfl (Nat.le_of_ble_eq_true rfl)) ?_
      refine ik_Wk 0 (pc_q := 0) (loc_q := [some (.ref 7)]) (st_q := []) (h_q := h) (cl_q := 0) (sl_q := 0) rfl ?_
      refine ik_Wk 1 (pc_q := 1) (loc_q := [some (.ref 7)]) (st_q := [.ref 7]) (h_q := h) (cl_q := 0) (sl_q := 0) rfl ?_
      refine fw_gf rfl rfl h7 rfl ?_
      refine ik_Wk 1 (pc_q := 5) (loc_q := [some (.ref 7)]) (st_q := [fI 1, fI pl]) (h_q := h) (cl_q := 0) (sl_q := 0) rfl ?_
      refine fw_ic_le rfl rfl (by omega) (by omega) (by omega) (by omega) (fun hc11 => ?_) (fun hc11 => ?_)
      · refine ik_Wk 1 (pc_q := 13) (loc_q := [some (.ref 7)]) (st_q := [fI 0]) (h_q := h) (cl_q := 0) (sl_q := 0) rfl ?_
        refine ik_Wret rfl rfl ⟨_, _, rfl, rfl, ?_⟩
        refine ik_Wk 0 (pc_q := 71) (loc_q := [some (.ref 0), some (fI 1), some (fI 2), some (fI v), none]) (st_q := [fI 0]) (h_q := h) (cl_q := 0) (sl_q := 0) rfl ?_
        refine fw_if_ne rfl rfl (by decide +kernel) (by decide +kernel) (fun hc12 => ?_) (fun hc12 => absurd hc12 (by decide +kernel))
        refine fw_ld (-1000000003) rfl rfl (by decide +kernel) ?_
        exact ik_Wret rfl rfl ⟨_, _, rfl, rfl, rfl, rfl, Or.inr ⟨(congrArg (fun z => [fI z]) (by (repeat' split) <;> first | rfl | omega)), h14, h15, h16, (by omega), (hfr_refl [14, 15, 16] h)⟩⟩
      · refine ik_Wk 2 (pc_q := 13) (loc_q := [some (.ref 7)]) (st_q := [fI 1]) (h_q := h) (cl_q := 0) (sl_q := 0) rfl ?_
        refine ik_Wret rfl rfl ⟨_, _, rfl, rfl, ?_⟩
        refine ik_Wk 0 (pc_q := 71) (loc_q := [some (.ref 0), some (fI 1), some (fI 2), some (fI v), none]) (st_q := [fI 1]) (h_q := h) (cl_q := 0) (sl_q := 0) rfl ?_
        refine fw_if_ne rfl rfl (by decide +kernel) (by decide +kernel) (fun hc13 => absurd hc13 (by decide +kernel)) (fun hc13 => ?_)
        refine ik_Wk 1 (pc_q := 78) (loc_q := [some (.ref 0), some (fI 1), some (fI 2), some (fI v), none]) (st_q := [.ref 0]) (h_q := h) (cl_q := 0) (sl_q := 0) rfl ?_
        refine fw_gf rfl rfl h0 rfl ?_
        refine fw_gf rfl rfl h14 rfl ?_
        refine ik_Wk 2 (pc_q := 86) (loc_q := [some (.ref 0), some (fI 1), some (fI 2), some (fI v), none]) (st_q := [fI 3, fI 1, .ref 15]) (h_q := h) (cl_q := 0) (sl_q := 0) rfl ?_
        refine fw_mul rfl ?_
        refine ik_Wk 1 (pc_q := 88) (loc_q := [some (.ref 0), some (fI 1), some (fI 2), some (fI v), none]) (st_q := [fI 2, fI 3, .ref 15]) (h_q := h) (cl_q := 0) (sl_q := 0) rfl ?_
        refine fw_add rfl ?_
        refine fw_ial (z := 5) rfl h15 (by decide +kernel) (Nat.le_of_ble_eq_true rfl) (by decide +kernel) ?_
        refine ik_Wk 0 (pc_q := 90) (loc_q := [some (.ref 0), some (fI 1), some (fI 2), some (fI v), none]) (st_q := [fI fb]) (h_q := h) (cl_q := 0) (sl_q := 0) rfl ?_
        refine ik_Wk 2 (pc_q := 93) (loc_q := [some (.ref 0), some (fI 1), some (fI 2), some (fI v), some (fI fb)]) (st_q := [.ref 0]) (h_q := h) (cl_q := 0) (sl_q := 0) rfl ?_
        refine fw_gf rfl rfl h0 rfl ?_
        refine fw_gf rfl rfl h14 rfl ?_
        refine ik_Wk 2 (pc_q := 101) (loc_q := [some (.ref 0), some (fI 1), some (fI 2), some (fI v), some (fI fb)]) (st_q := [fI 3, fI 1, .ref 15]) (h_q := h) (cl_q := 0) (sl_q := 0) rfl ?_
        refine fw_mul rfl ?_
        refine ik_Wk 1 (pc_q := 103) (loc_q := [some (.ref 0), some (fI 1), some (fI 2), some (fI v), some (fI fb)]) (st_q := [fI 2, fI 3, .ref 15]) (h_q := h) (cl_q := 0) (sl_q := 0) rfl ?_
        refine fw_add rfl ?_
        refine ik_Wk 1 (pc_q := 105) (loc_q := [some (.ref 0), some (fI 1), some (fI 2), some (fI v), some (fI fb)]) (st_q := [fI v, fI 5, .ref 15]) (h_q := h) (cl_q := 0) (sl_q := 0) rfl ?_
        refine fx_ias (z := 5) rfl h15 (by decide +kernel) (Nat.le_of_ble_eq_true rfl) (by decide +kernel) ?_
        intro h_432 e_432 f_432 l_432
        have k_432 : cL h_432 := l_432.trans hl
        have fr_432 := hfr_wb (hfr_refl [14, 15, 16] h) f_432 l_432 rfl
        clear l_432
        have g_432_0 := (f_432 0 (Nat.ne_of_beq_eq_false rfl)).trans h0
        have g_432_7 := (f_432 7 (Nat.ne_of_beq_eq_false rfl)).trans h7
        have g_432_14 := (f_432 14 (Nat.ne_of_beq_eq_false rfl)).trans h14
        have g_432_16 := (f_432 16 (Nat.ne_of_beq_eq_false rfl)).trans h16
        have g_432_15 : cE h_432 15 (.inl (.int, fA [ka, pa, fa, kb, pb, v])) := e_432
        refine ik_Wk 1 (pc_q := 107) (loc_q := [some (.ref 0), some (fI 1), some (fI 2), some (fI v), some (fI fb)]) (st_q := [.ref 0]) (h_q := h_432) (cl_q := 0) (sl_q := 0) rfl ?_
        refine fw_gf rfl rfl g_432_0 rfl ?_
        refine fw_call 23 1 0 [.ref 14] [] rfl rfl rfl (Nat.le_of_ble_eq_true rfl) rfl rfl (fw_rec k_432 rfl g_432_14 rfl (Nat.le_of_ble_eq_true rfl)) (cs_restart (mi := mi) (ka := ka) (pa := pa) (fa := fa) (kb := kb) (pb := pb) (fb := v) (xa := xa) (xb := xb) (sd := dr) (by omega) (by omega) g_432_14 g_432_15 g_432_16 k_432) ?_
        rintro _ h_433 ⟨rfl, e_433_14, e_433_16, F_433⟩
        have k_433 : cL h_433 := F_433.1.trans k_432
        have fr_433 := hfr_cb fr_432 F_433 rfl
        have g_433_0 := (hfr_g F_433 0 rfl).trans g_432_0
        have g_433_7 := (hfr_g F_433 7 rfl).trans g_432_7
        have g_433_15 := (hfr_g F_433 15 rfl).trans g_432_15
        have g_433_14 : cE h_433 14 (.inr (1, [.ref 7, .ref 15, .ref 16, fI 0, fJ dr])) := e_433_14
        have g_433_16 : cE h_433 16 (.inl (.int, fA [mx_sp pa fa, mx_sp pb v])) := e_433_16
        refine ik_Wk 0 (pc_q := 113) (loc_q := [some (.ref 0), some (fI 1), some (fI 2), some (fI v), some (fI fb)]) (st_q := []) (h_q := h_433) (cl_q := 0) (sl_q := 0) rfl ?_
        refine ik_Wk 1 (pc_q := 115) (loc_q := [some (.ref 0), some (fI 1), some (fI 2), some (fI v), some (fI fb)]) (st_q := [fI fb]) (h_q := h_433) (cl_q := 0) (sl_q := 0) rfl ?_
        exact ik_Wret rfl rfl ⟨_, _, rfl, rfl, rfl, rfl, Or.inl ⟨rfl, g_433_14, g_433_15, g_433_16, (by omega), fr_433⟩⟩
    · refine fw_ld (-1000000002) rfl rfl (by decide +kernel) ?_
      exact ik_Wret rfl rfl ⟨_, _, rfl, rfl, rfl, rfl, Or.inr ⟨(congrArg (fun z => [fI z]) (by (repeat' split) <;> first | rfl | omega)), h14, h15, h16, (by omega), (hfr_refl [14, 15, 16] h)⟩⟩

theorem rp_cork12 {h : List ik_E} {ka : Int} {pa : Int} {fa : Int} {kb : Int} {pb : Int} {fb : Int} {xa : Int} {xb : Int} {mi : Int} {v : Int} {pl : Int} {f : Nat → Int} (q0 : 0 ≤ fa ∧ fa ≤ 30) (q1 : 0 ≤ fb ∧ fb ≤ 30) (q2 : 0 ≤ pl ∧ pl ≤ 12) (q3 : -2147483648 ≤ v ∧ v < 2147483648) (h66 : cE h 66 (.inr (10, (fI pl :: .ref 67 :: .ref 68 :: .ref 69 :: fI (f 4) :: .ref 70 :: .ref 71 :: fI mi :: fI (f 8) :: .ref 72 :: fI (f 10) :: fI (f 11) :: fI (f 12) :: fJ (f 13) :: fI (f 14) :: fI (f 15) :: fI (f 16) :: fI (f 17) :: .ref 73 :: .ref 74 :: .ref 75 :: .ref 76 :: .ref 77 :: .ref 78 :: fI (f 24) :: .ref 79 :: .ref 80 :: .ref 81 :: .ref 82 :: .ref 83 :: .ref 84 :: .ref 85 :: fJ (f 32) :: fJ (f 33) :: .ref 86 :: .ref 87 :: fI (f 36) :: .ref 88 :: .ref 89 :: .ref 90 :: .ref 91 :: .ref 92 :: .ref 93 :: [])))) (h70 : cE h 70 (.inl (.int, fA [ka, pa, fa, kb, pb, fb]))) (h71 : cE h 71 (.inl (.int, fA [xa, xb]))) (hl : h.length = 94) : ik_F 158 [.ref 66, fI 1, fI 2, fI v] h (fun rv h_q => (rv = [fI fb] ∧ cE h_q 66 (.inr (10, (fI pl :: .ref 67 :: .ref 68 :: .ref 69 :: fI (f 4) :: .ref 70 :: .ref 71 :: fI 0 :: fI (f 8) :: .ref 72 :: fI (f 10) :: fI (f 11) :: fI (f 12) :: fJ (f 13) :: fI (f 14) :: fI (f 15) :: fI (f 16) :: fI (f 17) :: .ref 73 :: .ref 74 :: .ref 75 :: .ref 76 :: .ref 77 :: .ref 78 :: fI (f 24) :: .ref 79 :: .ref 80 :: .ref 81 :: .ref 82 :: .ref 83 :: .ref 84 :: .ref 85 :: fJ (f 32) :: fJ (f 33) :: .ref 86 :: .ref 87 :: fI (f 36) :: .ref 88 :: .ref 89 :: .ref 90 :: .ref 91 :: .ref 92 :: .ref 93 :: []))) ∧ cE h_q 70 (.inl (.int, fA [ka, pa, fa, kb, pb, v])) ∧ cE h_q 71 (.inl (.int, fA [mx_sp pa fa, mx_sp pb v])) ∧ ((0 ≤ v ∧ v ≤ 30) ∧ 1 < pl) ∧ hfr [66, 70, 71] h h_q) ∨ (rv = [fI (if 0 ≤ v ∧ v ≤ 30 then -1000000003 else -1000000002)] ∧ cE h_q 66 (.inr (10, (fI pl :: .ref 67 :: .ref 68 :: .ref 69 :: fI (f 4) :: .ref 70 :: .ref 71 :: fI mi :: fI (f 8) :: .ref 72 :: fI (f 10) :: fI (f 11) :: fI (f 12) :: fJ (f 13) :: fI (f 14) :: fI (f 15) :: fI (f 16) :: fI (f 17) :: .ref 73 :: .ref 74 :: .ref 75 :: .ref 76 :: .ref 77 :: .ref 78 :: fI (f 24) :: .ref 79 :: .ref 80 :: .ref 81 :: .ref 82 :: .ref 83 :: .ref 84 :: .ref 85 :: fJ (f 32) :: fJ (f 33) :: .ref 86 :: .ref 87 :: fI (f 36) :: .ref 88 :: .ref 89 :: .ref 90 :: .ref 91 :: .ref 92 :: .ref 93 :: []))) ∧ cE h_q 70 (.inl (.int, fA [ka, pa, fa, kb, pb, fb])) ∧ cE h_q 71 (.inl (.int, fA [xa, xb])) ∧ (¬ ((0 ≤ v ∧ v ≤ 30) ∧ 1 < pl)) ∧ hfr [66, 70, 71] h h_q)) := by
  refine ik_Wk 1 (pc_q := 1) (loc_q := [some (.ref 66), some (fI 1), some (fI 2), some (fI v), none]) (st_q := [fI 1]) (h_q := h) (cl_q := 0) (sl_q := 0) rfl ?_
  refine ik_Wc 132 1 3 [fI 1] [] rfl rfl rfl (by decide +kernel) rfl rfl (fw_sta hl rfl (by decide +kernel)) ?_
  refine ik_Wk 0 (pc_q := 0) (loc_q := [some (fI 1)]) (st_q := []) (h_q := h) (cl_q := 0) (sl_q := 0) rfl ?_
  refine ik_Wk 1 (pc_q := 1) (loc_q := [some (fI 1)]) (st_q := [fI 1]) (h_q := h) (cl_q := 0) (sl_q := 0) rfl ?_
  refine fw_i2l rfl (by omega) (by omega) ?_
  refine fw_lc (z := 0) rfl (by decide +kernel) ?_
  refine fw_lc (z := 1) rfl (by decide +kernel) ?_
  refine fw_call 127 3 3 [fJ 1, fJ 0, fJ 1] [] rfl rfl rfl (Nat.le_of_ble_eq_true rfl) rfl rfl (fw_sta hl rfl (by decide +kernel)) (cr_in (v := 1) (a := 0) (b := 1) (by omega) (by omega) (by omega)  hl) ?_
  rintro _ h_434 (⟨rfl, p_434_0, F_434⟩ | ⟨rfl, p_434_0, F_434⟩)
  · have k_434 : cL h_434 := F_434.1.trans hl
    have fr_434 := hfr_cb (hfr_refl [66, 70, 71] h) F_434 rfl
    have g_434_66 := (hfr_g F_434 66 rfl).trans h66
    have g_434_70 := (hfr_g F_434 70 rfl).trans h70
    have g_434_71 := (hfr_g F_434 71 rfl).trans h71
    refine ik_Wk 0 (pc_q := 7) (loc_q := [some (fI 1)]) (st_q := [fI 1]) (h_q := h_434) (cl_q := 0) (sl_q := 0) rfl ?_
    refine ik_Wret rfl rfl ⟨_, _, rfl, rfl, ?_⟩
    refine ik_Wk 0 (pc_q := 4) (loc_q := [some (.ref 66), some (fI 1), some (fI 2), some (fI v), none]) (st_q := [fI 1]) (h_q := h_434) (cl_q := 0) (sl_q := 0) rfl ?_
    refine fw_if_ne rfl rfl (by decide +kernel) (by decide +kernel) (fun hc1 => absurd hc1 (by decide +kernel)) (fun hc1 => ?_)
    refine ik_Wk 1 (pc_q := 11) (loc_q := [some (.ref 66), some (fI 1), some (fI 2), some (fI v), none]) (st_q := [fI 2]) (h_q := h_434) (cl_q := 0) (sl_q := 0) rfl ?_
    refine fw_if_ne rfl rfl (by decide +kernel) (by decide +kernel) (fun hc2 => absurd hc2 (by decide +kernel)) (fun hc2 => ?_)
    refine ik_Wk 2 (pc_q := 23) (loc_q := [some (.ref 66), some (fI 1), some (fI 2), some (fI v), none]) (st_q := [fI 1, fI 2]) (h_q := h_434) (cl_q := 0) (sl_q := 0) rfl ?_
    refine fw_ic_ne rfl rfl (by decide +kernel) (by decide +kernel) (by decide +kernel) (by decide +kernel) (fun hc3 => absurd hc3 (by decide +kernel)) (fun hc3 => ?_)
    refine ik_Wk 1 (pc_q := 38) (loc_q := [some (.ref 66), some (fI 1), some (fI 2), some (fI v), none]) (st_q := [fI 2]) (h_q := h_434) (cl_q := 0) (sl_q := 0) rfl ?_
    refine fw_i2l rfl (by omega) (by omega) ?_
    refine fw_lc (z := 0) rfl (by decide +kernel) ?_
    refine fw_l2 2 rfl rfl (by decide +kernel) ?_
    refine fw_call 127 3 3 [fJ 2, fJ 0, fJ 2] [] rfl rfl rfl (Nat.le_of_ble_eq_true rfl) rfl rfl (fw_sta k_434 rfl (by decide +kernel)) (cr_in (v := 2) (a := 0) (b := 2) (by omega) (by omega) (by omega)  k_434) ?_
    rintro _ h_435 (⟨rfl, p_435_0, F_435⟩ | ⟨rfl, p_435_0, F_435⟩)
    · have k_435 : cL h_435 := F_435.1.trans k_434
      have fr_435 := hfr_cb fr_434 F_435 rfl
      have g_435_66 := (hfr_g F_435 66 rfl).trans g_434_66
      have g_435_70 := (hfr_g F_435 70 rfl).trans g_434_70
      have g_435_71 := (hfr_g F_435 71 rfl).trans g_434_71
      refine ik_Wk 0 (pc_q := 46) (loc_q := [some (.ref 66), some (fI 1), some (fI 2), some (fI v), none]) (st_q := [fI 1]) (h_q := h_435) (cl_q := 0) (sl_q := 0) rfl ?_
      refine fw_if_eq rfl rfl (by decide +kernel) (by decide +kernel) (fun hc4 => absurd hc4 (by decide +kernel)) (fun hc4 => ?_)
      refine ik_Wk 2 (pc_q := 51) (loc_q := [some (.ref 66), some (fI 1), some (fI 2), some (fI v), none]) (st_q := [fI 2, fI 2]) (h_q := h_435) (cl_q := 0) (sl_q := 0) rfl ?_
      refine fw_ic_ne rfl rfl (by decide +kernel) (by decide +kernel) (by decide +kernel) (by decide +kernel) (fun hc5 => ?_) (fun hc5 => absurd hc5 (by decide +kernel))
      refine ik_Wk 1 (pc_q := 55) (loc_q := [some (.ref 66), some (fI 1), some (fI 2), some (fI v), none]) (st_q := [fI v]) (h_q := h_435) (cl_q := 0) (sl_q := 0) rfl ?_
      refine fw_i2l rfl (by omega) (by omega) ?_
      refine fw_lc (z := 0) rfl (by decide +kernel) ?_
      refine fw_l2 30 rfl rfl (by decide +kernel) ?_
      refine fw_call 127 3 3 [fJ v, fJ 0, fJ 30] [] rfl rfl rfl (Nat.le_of_ble_eq_true rfl) rfl rfl (fw_sta k_435 rfl (by decide +kernel)) (cr_in (v := v) (a := 0) (b := 30) (by omega) (by omega) (by omega)  k_435) ?_
      rintro _ h_436 (⟨rfl, p_436_0, F_436⟩ | ⟨rfl, p_436_0, F_436⟩)
      · have k_436 : cL h_436 := F_436.1.trans k_435
        have fr_436 := hfr_cb fr_435 F_436 rfl
        have g_436_66 := (hfr_g F_436 66 rfl).trans g_435_66
        have g_436_70 := (hfr_g F_436 70 rfl).trans g_435_70
        have g_436_71 := (hfr_g F_436 71 rfl).trans g_435_71
        refine ik_Wk 0 (pc_q := 63) (loc_q := [some (.ref 66), some (fI 1), some (fI 2), some (fI v), none]) (st_q := [fI 1]) (h_q := h_436) (cl_q := 0) (sl_q := 0) rfl ?_
        refine fw_if_ne rfl rfl (by decide +kernel) (by decide +kernel) (fun hc6 => absurd hc6 (by decide +kernel)) (fun hc6 => ?_)
        refine ik_Wk 1 (pc_q := 70) (loc_q := [some (.ref 66), some (fI 1), some (fI 2), some (fI v), none]) (st_q := [.ref 66]) (h_q := h_436) (cl_q := 0) (sl_q := 0) rfl ?_
        refine ik_Wc 134 1 0 [.ref 66] [] rfl rfl rfl (by decide +kernel) rfl rfl (fw_rec k_436 rfl g_436_66 rfl (Nat.le_of_ble_eq_true rfl)) ?_
        refine ik_Wk 0 (pc_q := 0) (loc_q := [some (.ref 66)]) (st_q := []) (h_q := h_436) (cl_q := 0) (sl_q := 0) rfl ?_
        refine ik_Wk 1 (pc_q := 1) (loc_q := [some (.ref 66)]) (st_q := [.ref 66]) (h_q := h_436) (cl_q := 0) (sl_q := 0) rfl ?_
        refine fw_gf rfl rfl g_436_66 rfl ?_
        refine ik_Wk 1 (pc_q := 5) (loc_q := [some (.ref 66)]) (st_q := [fI 1, fI pl]) (h_q := h_436) (cl_q := 0) (sl_q := 0) rfl ?_
        refine fw_ic_le rfl rfl (by omega) (by omega) (by omega) (by omega) (fun hc7 => ?_) (fun hc7 => ?_)
        · refine ik_Wk 1 (pc_q := 13) (loc_q := [some (.ref 66)]) (st_q := [fI 0]) (h_q := h_436) (cl_q := 0) (sl_q := 0) rfl ?_
          refine ik_Wret rfl rfl ⟨_, _, rfl, rfl, ?_⟩
          refine ik_Wk 0 (pc_q := 73) (loc_q := [some (.ref 66), some (fI 1), some (fI 2), some (fI v), none]) (st_q := [fI 0]) (h_q := h_436) (cl_q := 0) (sl_q := 0) rfl ?_
          refine fw_if_ne rfl rfl (by decide +kernel) (by decide +kernel) (fun hc8 => ?_) (fun hc8 => absurd hc8 (by decide +kernel))
          refine fw_ld (-1000000003) rfl rfl (by decide +kernel) ?_
          exact ik_Wret rfl rfl ⟨_, _, rfl, rfl, rfl, rfl, Or.inr ⟨(congrArg (fun z => [fI z]) (by (repeat' split) <;> first | rfl | omega)), g_436_66, g_436_70, g_436_71, (by omega), fr_436⟩⟩
        · refine ik_Wk 2 (pc_q := 13) (loc_q := [some (.ref 66)]) (st_q := [fI 1]) (h_q := h_436) (cl_q := 0) (sl_q := 0) rfl ?_
          refine ik_Wret rfl rfl ⟨_, _, rfl, rfl, ?_⟩
          refine ik_Wk 0 (pc_q := 73) (loc_q := [some (.ref 66), some (fI 1), some (fI 2), some (fI v), none]) (st_q := [fI 1]) (h_q := h_436) (cl_q := 0) (sl_q := 0) rfl ?_
          refine fw_if_ne rfl rfl (by decide +kernel) (by decide +kernel) (fun hc9 => absurd hc9 (by decide +kernel)) (fun hc9 => ?_)
          refine ik_Wk 1 (pc_q := 80) (loc_q := [some (.ref 66), some (fI 1), some (fI 2), some (fI v), none]) (st_q := [.ref 66]) (h_q := h_436) (cl_q := 0) (sl_q := 0) rfl ?_
          refine fw_gf rfl rfl g_436_66 rfl ?_
          refine ik_Wk 2 (pc_q := 85) (loc_q := [some (.ref 66), some (fI 1), some (fI 2), some (fI v), none]) (st_q := [fI 1, fI 3, .ref 70]) (h_q := h_436) (cl_q := 0) (sl_q := 0) rfl ?_
          refine fw_mul rfl ?_
          refine ik_Wk 1 (pc_q := 87) (loc_q := [some (.ref 66), some (fI 1), some (fI 2), some (fI v), none]) (st_q := [fI 2, fI 3, .ref 70]) (h_q := h_436) (cl_q := 0) (sl_q := 0) rfl ?_
          refine fw_add rfl ?_
          refine fw_ial (z := 5) rfl g_436_70 (by decide +kernel) (Nat.le_of_ble_eq_true rfl) (by decide +kernel) ?_
          refine ik_Wk 0 (pc_q := 89) (loc_q := [some (.ref 66), some (fI 1), some (fI 2), some (fI v), none]) (st_q := [fI fb]) (h_q := h_436) (cl_q := 0) (sl_q := 0) rfl ?_
          refine ik_Wk 2 (pc_q := 92) (loc_q := [some (.ref 66), some (fI 1), some (fI 2), some (fI v), some (fI fb)]) (st_q := [.ref 66]) (h_q := h_436) (cl_q := 0) (sl_q := 0) rfl ?_
          refine fw_gf rfl rfl g_436_66 rfl ?_
          refine ik_Wk 2 (pc_q := 97) (loc_q := [some (.ref 66), some (fI 1), some (fI 2), some (fI v), some (fI fb)]) (st_q := [fI 1, fI 3, .ref 70]) (h_q := h_436) (cl_q := 0) (sl_q := 0) rfl ?_
          refine fw_mul rfl ?_
          refine ik_Wk 1 (pc_q := 99) (loc_q := [some (.ref 66), some (fI 1), some (fI 2), some (fI v), some (fI fb)]) (st_q := [fI 2, fI 3, .ref 70]) (h_q := h_436) (cl_q := 0) (sl_q := 0) rfl ?_
          refine fw_add rfl ?_
          refine ik_Wk 1 (pc_q := 101) (loc_q := [some (.ref 66), some (fI 1), some (fI 2), some (fI v), some (fI fb)]) (st_q := [fI v, fI 5, .ref 70]) (h_q := h_436) (cl_q := 0) (sl_q := 0) rfl ?_
          refine fx_ias (z := 5) rfl g_436_70 (by decide +kernel) (Nat.le_of_ble_eq_true rfl) (by decide +kernel) ?_
          intro h_437 e_437 f_437 l_437
          have k_437 : cL h_437 := l_437.trans k_436
          have fr_437 := hfr_wb fr_436 f_437 l_437 rfl
          clear l_437
          have g_437_66 := (f_437 66 (Nat.ne_of_beq_eq_false rfl)).trans g_436_66
          have g_437_71 := (f_437 71 (Nat.ne_of_beq_eq_false rfl)).trans g_436_71
          have g_437_70 : cE h_437 70 (.inl (.int, fA [ka, pa, fa, kb, pb, v])) := e_437
          refine ik_Wk 1 (pc_q := 103) (loc_q := [some (.ref 66), some (fI 1), some (fI 2), some (fI v), some (fI fb)]) (st_q := [.ref 66]) (h_q := h_437) (cl_q := 0) (sl_q := 0) rfl ?_
          refine fw_call 194 1 0 [.ref 66] [] rfl rfl rfl (Nat.le_of_ble_eq_true rfl) rfl rfl (fw_rec k_437 rfl g_437_66 rfl (Nat.le_of_ble_eq_true rfl)) (cr_begin (mi := mi) (ka := ka) (pa := pa) (fa := fa) (kb := kb) (pb := pb) (fb := v) (xa := xa) (xb := xb) (f := fun j => ((pl :: 0 :: 0 :: 0 :: f 4 :: 0 :: 0 :: 0 :: f 8 :: 0 :: f 10 :: f 11 :: f 12 :: f 13 :: f 14 :: f 15 :: f 16 :: f 17 :: 0 :: 0 :: 0 :: 0 :: 0 :: 0 :: f 24 :: 0 :: 0 :: 0 :: 0 :: 0 :: 0 :: 0 :: f 32 :: f 33 :: 0 :: 0 :: f 36 :: 0 :: 0 :: 0 :: 0 :: 0 :: 0 :: []) : List Int).getD j 0) (by omega) (by omega) g_437_66 g_437_70 g_437_71 k_437) ?_
          rintro _ h_438 ⟨rfl, e_438_66, e_438_71, F_438⟩
          have k_438 : cL h_438 := F_438.1.trans k_437
          have fr_438 := hfr_cb fr_437 F_438 rfl
          have g_438_70 := (hfr_g F_438 70 rfl).trans g_437_70
          have g_438_66 : cE h_438 66 (.inr (10, (fI pl :: .ref 67 :: .ref 68 :: .ref 69 :: fI (f 4) :: .ref 70 :: .ref 71 :: fI 0 :: fI (f 8) :: .ref 72 :: fI (f 10) :: fI (f 11) :: fI (f 12) :: fJ (f 13) :: fI (f 14) :: fI (f 15) :: fI (f 16) :: fI (f 17) :: .ref 73 :: .ref 74 :: .ref 75 :: .ref 76 :: .ref 77 :: .ref 78 :: fI (f 24) :: .ref 79 :: .ref 80 :: .ref 81 :: .ref 82 :: .ref 83 :: .ref 84 :: .ref 85 :: fJ (f 32) :: fJ (f 33) :: .ref 86 :: .ref 87 :: fI (f 36) :: .ref 88 :: .ref 89 :: .ref 90 :: .ref 91 :: .ref 92 :: .ref 93 :: []))) := e_438_66
          have g_438_71 : cE h_438 71 (.inl (.int, fA [mx_sp pa fa, mx_sp pb v])) := e_438_71
          refine ik_Wk 0 (pc_q := 106) (loc_q := [some (.ref 66), some (fI 1), some (fI 2), some (fI v), some (fI fb)]) (st_q := []) (h_q := h_438) (cl_q := 0) (sl_q := 0) rfl ?_
          refine ik_Wk 1 (pc_q := 108) (loc_q := [some (.ref 66), some (fI 1), some (fI 2), some (fI v), some (fI fb)]) (st_q := [fI fb]) (h_q := h_438) (cl_q := 0) (sl_q := 0) rfl ?_
          exact ik_Wret rfl rfl ⟨_, _, rfl, rfl, rfl, rfl, Or.inl ⟨rfl, g_438_66, g_438_70, g_438_71, (by omega), fr_438⟩⟩
      · have k_436 : cL h_436 := F_436.1.trans k_435
        have fr_436 := hfr_cb fr_435 F_436 rfl
        have g_436_66 := (hfr_g F_436 66 rfl).trans g_435_66
        have g_436_70 := (hfr_g F_436 70 rfl).trans g_435_70
        have g_436_71 := (hfr_g F_436 71 rfl).trans g_435_71
        refine ik_Wk 0 (pc_q := 63) (loc_q := [some (.ref 66), some (fI 1), some (fI 2), some (fI v), none]) (st_q := [fI 0]) (h_q := h_436) (cl_q := 0) (sl_q := 0) rfl ?_
        refine fw_if_ne rfl rfl (by decide +kernel) (by decide +kernel) (fun hc10 => ?_) (fun hc10 => absurd hc10 (by decide +kernel))
        refine fw_ld (-1000000002) rfl rfl (by decide +kernel) ?_
        exact ik_Wret rfl rfl ⟨_, _, rfl, rfl, rfl, rfl, Or.inr ⟨(congrArg (fun z => [fI z]) (by (repeat' split) <;> first | rfl | omega)), g_436_66, g_436_70, g_436_71, (by omega), fr_436⟩⟩
    · have k_435 : cL h_435 := F_435.1.trans k_434
      have fr_435 := hfr_cb fr_434 F_435 rfl
      have g_435_66 := (hfr_g F_435 66 rfl).trans g_434_66
      have g_435_70 := (hfr_g F_435 70 rfl).trans g_434_70
      have g_435_71 := (hfr_g F_435 71 rfl).trans g_434_71
      refine ik_Wk 0 (pc_q := 46) (loc_q := [some (.ref 66), some (fI 1), some (fI 2), some (fI v), none]) (st_q := [fI 0]) (h_q := h_435) (cl_q := 0) (sl_q := 0) rfl ?_
      refine fw_if_eq rfl rfl (by decide +kernel) (by decide +kernel) (fun hc11 => ?_) (fun hc11 => absurd hc11 (by decide +kernel))
      refine fw_ld (-1000000002) rfl rfl (by decide +kernel) ?_
      exact ik_Wret rfl rfl ⟨_, _, rfl, rfl, rfl, rfl, Or.inr ⟨(congrArg (fun z => [fI z]) (by (repeat' split) <;> first | rfl | omega)), g_435_66, g_435_70, g_435_71, (by omega), fr_435⟩⟩
  · have k_434 : cL h_434 := F_434.1.trans hl
    have fr_434 := hfr_cb (hfr_refl [66, 70, 71] h) F_434 rfl
    have g_434_66 := (hfr_g F_434 66 rfl).trans h66
    have g_434_70 := (hfr_g F_434 70 rfl).trans h70
    have g_434_71 := (hfr_g F_434 71 rfl).trans h71
    refine ik_Wk 0 (pc_q := 7) (loc_q := [some (fI 1)]) (st_q := [fI 0]) (h_q := h_434) (cl_q := 0) (sl_q := 0) rfl ?_
    refine ik_Wret rfl rfl ⟨_, _, rfl, rfl, ?_⟩
    refine ik_Wk 0 (pc_q := 4) (loc_q := [some (.ref 66), some (fI 1), some (fI 2), some (fI v), none]) (st_q := [fI 0]) (h_q := h_434) (cl_q := 0) (sl_q := 0) rfl ?_
    refine fw_if_ne rfl rfl (by decide +kernel) (by decide +kernel) (fun hc12 => ?_) (fun hc12 => absurd hc12 (by decide +kernel))
    refine fw_ld (-1000000001) rfl rfl (by decide +kernel) ?_
    exact ik_Wret rfl rfl ⟨_, _, rfl, rfl, rfl, rfl, Or.inr ⟨(congrArg (fun z => [fI z]) (by (repeat' split) <;> first | rfl | omega)), g_434_66, g_434_70, g_434_71, (by omega), fr_434⟩⟩

theorem cp_cork1E {h : List ik_E} {what : Int} {v : Int} (q0 : -2147483648 ≤ what ∧ what < 2147483648) (q1 : -2147483648 ≤ v ∧ v < 2147483648) (q2 : what < 0 ∨ 2 < what) (h0 : cE h 0 (.inr (9, [.ref 1, .ref 7, .ref 14, .ref 17, .ref 45, .ref 51, .ref 54, .ref 57]))) (hl : h.length = 94) : ik_F 95 [.ref 0, fI 1, fI what, fI v] h (fun rv h_q => rv = [fI (-1000000002)] ∧ hfr [] h h_q) := by
  refine ik_Wk 1 (pc_q := 1) (loc_q := [some (.ref 0), some (fI 1), some (fI what), some (fI v), none]) (st_q := [fI 1]) (h_q := h) (cl_q := 0) (sl_q := 0) rfl ?_
  refine ik_Wc 121 1 3 [fI 1] [] rfl rfl rfl (by decide +kernel) rfl rfl (fw_sta hl rfl (by decide +kernel)) ?_
  refine ik_Wk 0 (pc_q := 0) (loc_q := [some (fI 1)]) (st_q := []) (h_q := h) (cl_q := 0) (sl_q := 0) rfl ?_
  refine ik_Wk 1 (pc_q := 1) (loc_q := [some (fI 1)]) (st_q := [fI 1]) (h_q := h) (cl_q := 0) (sl_q := 0) rfl ?_
  refine fw_if_eq rfl rfl (by decide +kernel) (by decide +kernel) (fun hc1 => absurd hc1 (by decide +kernel)) (fun hc1 => ?_)
  refine ik_Wk 2 (pc_q := 6) (loc_q := [some (fI 1)]) (st_q := [fI 1, fI 1]) (h_q := h) (cl_q := 0) (sl_q := 0) rfl ?_
  refine fw_ic_ne rfl rfl (by decide +kernel) (by decide +kernel) (by decide +kernel) (by decide +kernel) (fun hc2 => ?_) (fun hc2 => absurd hc2 (by decide +kernel))
  refine ik_Wk 2 (pc_q := 14) (loc_q := [some (fI 1)]) (st_q := [fI 1]) (h_q := h) (cl_q := 0) (sl_q := 0) rfl ?_
  refine ik_Wret rfl rfl ⟨_, _, rfl, rfl, ?_⟩
  refine ik_Wk 0 (pc_q := 4) (loc_q := [some (.ref 0), some (fI 1), some (fI what), some (fI v), none]) (st_q := [fI 1]) (h_q := h) (cl_q := 0) (sl_q := 0) rfl ?_
  refine fw_if_eq rfl rfl (by decide +kernel) (by decide +kernel) (fun hc3 => absurd hc3 (by decide +kernel)) (fun hc3 => ?_)
  refine ik_Wk 1 (pc_q := 8) (loc_q := [some (.ref 0), some (fI 1), some (fI what), some (fI v), none]) (st_q := [fI what]) (h_q := h) (cl_q := 0) (sl_q := 0) rfl ?_
  refine fw_if_ne rfl rfl (by omega) (by omega) (fun hc4 => absurd hc4 (by omega)) (fun hc4 => ?_)
  refine ik_Wk 2 (pc_q := 20) (loc_q := [some (.ref 0), some (fI 1), some (fI what), some (fI v), none]) (st_q := [fI 1, fI what]) (h_q := h) (cl_q := 0) (sl_q := 0) rfl ?_
  refine fw_ic_ne rfl rfl (by omega) (by omega) (by omega) (by omega) (fun hc5 => absurd hc5 (by omega)) (fun hc5 => ?_)
  refine ik_Wk 1 (pc_q := 38) (loc_q := [some (.ref 0), some (fI 1), some (fI what), some (fI v), none]) (st_q := [fI what]) (h_q := h) (cl_q := 0) (sl_q := 0) rfl ?_
  refine fw_if_lt rfl rfl (by omega) (by omega) (fun hc6 => ?_) (fun hc6 => ?_)
  · refine fw_ld (-1000000002) rfl rfl (by decide +kernel) ?_
    exact ik_Wret rfl rfl ⟨_, _, rfl, rfl, rfl, rfl, ⟨rfl, (hfr_refl [] h)⟩⟩
  · refine ik_Wk 2 (pc_q := 43) (loc_q := [some (.ref 0), some (fI 1), some (fI what), some (fI v), none]) (st_q := [fI 2, fI what]) (h_q := h) (cl_q := 0) (sl_q := 0) rfl ?_
    refine fw_ic_gt rfl rfl (by omega) (by omega) (by omega) (by omega) (fun hc7 => ?_) (fun hc7 => absurd hc7 (by omega))
    refine fw_ld (-1000000002) rfl rfl (by decide +kernel) ?_
    exact ik_Wret rfl rfl ⟨_, _, rfl, rfl, rfl, rfl, ⟨rfl, (hfr_refl [] h)⟩⟩

theorem rp_cork1E {h : List ik_E} {f : Nat → Int} {what : Int} {v : Int} (q0 : -2147483648 ≤ what ∧ what < 2147483648) (q1 : -2147483648 ≤ v ∧ v < 2147483648) (q2 : what < 0 ∨ 2 < what) (h66 : cE h 66 (.inr (10, (fI (f 0) :: .ref 67 :: .ref 68 :: .ref 69 :: fI (f 4) :: .ref 70 :: .ref 71 :: fI (f 7) :: fI (f 8) :: .ref 72 :: fI (f 10) :: fI (f 11) :: fI (f 12) :: fJ (f 13) :: fI (f 14) :: fI (f 15) :: fI (f 16) :: fI (f 17) :: .ref 73 :: .ref 74 :: .ref 75 :: .ref 76 :: .ref 77 :: .ref 78 :: fI (f 24) :: .ref 79 :: .ref 80 :: .ref 81 :: .ref 82 :: .ref 83 :: .ref 84 :: .ref 85 :: fJ (f 32) :: fJ (f 33) :: .ref 86 :: .ref 87 :: fI (f 36) :: .ref 88 :: .ref 89 :: .ref 90 :: .ref 91 :: .ref 92 :: .ref 93 :: [])))) (hl : h.length = 94) : ik_F 158 [.ref 66, fI 1, fI what, fI v] h (fun rv h_q => rv = [fI (-1000000002)] ∧ hfr [] h h_q) := by
  refine ik_Wk 1 (pc_q := 1) (loc_q := [some (.ref 66), some (fI 1), some (fI what), some (fI v), none]) (st_q := [fI 1]) (h_q := h) (cl_q := 0) (sl_q := 0) rfl ?_
  refine ik_Wc 132 1 3 [fI 1] [] rfl rfl rfl (by decide +kernel) rfl rfl (fw_sta hl rfl (by decide +kernel)) ?_
  refine ik_Wk 0 (pc_q := 0) (loc_q := [some (fI 1)]) (st_q := []) (h_q := h) (cl_q := 0) (sl_q := 0) rfl ?_
  refine ik_Wk 1 (pc_q := 1) (loc_q := [some (fI 1)]) (st_q := [fI 1]) (h_q := h) (cl_q := 0) (sl_q := 0) rfl ?_
  refine fw_i2l rfl (by omega) (by omega) ?_
  refine fw_lc (z := 0) rfl (by decide +kernel) ?_
  refine fw_lc (z := 1) rfl (by decide +kernel) ?_
  refine fw_call 127 3 3 [fJ 1, fJ 0, fJ 1] [] rfl rfl rfl (Nat.le_of_ble_eq_true rfl) rfl rfl (fw_sta hl rfl (by decide +kernel)) (cr_in (v := 1) (a := 0) (b := 1) (by omega) (by omega) (by omega)  hl) ?_
  rintro _ h_439 (⟨rfl, p_439_0, F_439⟩ | ⟨rfl, p_439_0, F_439⟩)
  · have k_439 : cL h_439 := F_439.1.trans hl
    have fr_439 := hfr_cb (hfr_refl [] h) F_439 rfl
    have g_439_66 := (hfr_g F_439 66 rfl).trans h66
    refine ik_Wk 0 (pc_q := 7) (loc_q := [some (fI 1)]) (st_q := [fI 1]) (h_q := h_439) (cl_q := 0) (sl_q := 0) rfl ?_
    refine ik_Wret rfl rfl ⟨_, _, rfl, rfl, ?_⟩
    refine ik_Wk 0 (pc_q := 4) (loc_q := [some (.ref 66), some (fI 1), some (fI what), some (fI v), none]) (st_q := [fI 1]) (h_q := h_439) (cl_q := 0) (sl_q := 0) rfl ?_
    refine fw_if_ne rfl rfl (by decide +kernel) (by decide +kernel) (fun hc1 => absurd hc1 (by decide +kernel)) (fun hc1 => ?_)
    refine ik_Wk 1 (pc_q := 11) (loc_q := [some (.ref 66), some (fI 1), some (fI what), some (fI v), none]) (st_q := [fI what]) (h_q := h_439) (cl_q := 0) (sl_q := 0) rfl ?_
    refine fw_if_ne rfl rfl (by omega) (by omega) (fun hc2 => absurd hc2 (by omega)) (fun hc2 => ?_)
    refine ik_Wk 2 (pc_q := 23) (loc_q := [some (.ref 66), some (fI 1), some (fI what), some (fI v), none]) (st_q := [fI 1, fI what]) (h_q := h_439) (cl_q := 0) (sl_q := 0) rfl ?_
    refine fw_ic_ne rfl rfl (by omega) (by omega) (by omega) (by omega) (fun hc3 => absurd hc3 (by omega)) (fun hc3 => ?_)
    refine ik_Wk 1 (pc_q := 38) (loc_q := [some (.ref 66), some (fI 1), some (fI what), some (fI v), none]) (st_q := [fI what]) (h_q := h_439) (cl_q := 0) (sl_q := 0) rfl ?_
    refine fw_i2l rfl (by omega) (by omega) ?_
    refine fw_lc (z := 0) rfl (by decide +kernel) ?_
    refine fw_l2 2 rfl rfl (by decide +kernel) ?_
    refine fw_call 127 3 3 [fJ what, fJ 0, fJ 2] [] rfl rfl rfl (Nat.le_of_ble_eq_true rfl) rfl rfl (fw_sta k_439 rfl (by decide +kernel)) (cr_in (v := what) (a := 0) (b := 2) (by omega) (by omega) (by omega)  k_439) ?_
    rintro _ h_440 (⟨rfl, p_440_0, F_440⟩ | ⟨rfl, p_440_0, F_440⟩)
    · have k_440 : cL h_440 := F_440.1.trans k_439
      have fr_440 := hfr_cb fr_439 F_440 rfl
      have g_440_66 := (hfr_g F_440 66 rfl).trans g_439_66
      omega
    · have k_440 : cL h_440 := F_440.1.trans k_439
      have fr_440 := hfr_cb fr_439 F_440 rfl
      have g_440_66 := (hfr_g F_440 66 rfl).trans g_439_66
      refine ik_Wk 0 (pc_q := 46) (loc_q := [some (.ref 66), some (fI 1), some (fI what), some (fI v), none]) (st_q := [fI 0]) (h_q := h_440) (cl_q := 0) (sl_q := 0) rfl ?_
      refine fw_if_eq rfl rfl (by decide +kernel) (by decide +kernel) (fun hc4 => ?_) (fun hc4 => absurd hc4 (by decide +kernel))
      refine fw_ld (-1000000002) rfl rfl (by decide +kernel) ?_
      exact ik_Wret rfl rfl ⟨_, _, rfl, rfl, rfl, rfl, ⟨rfl, fr_440⟩⟩
  · have k_439 : cL h_439 := F_439.1.trans hl
    have fr_439 := hfr_cb (hfr_refl [] h) F_439 rfl
    have g_439_66 := (hfr_g F_439 66 rfl).trans h66
    omega

theorem cp_corkE {h : List ik_E} {side : Int} {what : Int} {v : Int} (q0 : -2147483648 ≤ side ∧ side < 2147483648) (q1 : ¬ side = 0) (q2 : ¬ side = 1) (h0 : cE h 0 (.inr (9, [.ref 1, .ref 7, .ref 14, .ref 17, .ref 45, .ref 51, .ref 54, .ref 57]))) (hl : h.length = 94) : ik_F 95 [.ref 0, fI side, fI what, fI v] h (fun rv h_q => rv = [fI (-1000000001)] ∧ hfr [] h h_q) := by
  refine ik_Wk 1 (pc_q := 1) (loc_q := [some (.ref 0), some (fI side), some (fI what), some (fI v), none]) (st_q := [fI side]) (h_q := h) (cl_q := 0) (sl_q := 0) rfl ?_
  refine ik_Wc 121 1 3 [fI side] [] rfl rfl rfl (by decide +kernel) rfl rfl (fw_sta hl rfl (by decide +kernel)) ?_
  refine ik_Wk 0 (pc_q := 0) (loc_q := [some (fI side)]) (st_q := []) (h_q := h) (cl_q := 0) (sl_q := 0) rfl ?_
  refine ik_Wk 1 (pc_q := 1) (loc_q := [some (fI side)]) (st_q := [fI side]) (h_q := h) (cl_q := 0) (sl_q := 0) rfl ?_
  refine fw_if_eq rfl rfl (by omega) (by omega) (fun hc1 => absurd hc1 (by omega)) (fun hc1 => ?_)
  refine ik_Wk 2 (pc_q := 6) (loc_q := [some (fI side)]) (st_q := [fI 1, fI side]) (h_q := h) (cl_q := 0) (sl_q := 0) rfl ?_
  refine fw_ic_ne rfl rfl (by omega) (by omega) (by omega) (by omega) (fun hc2 => absurd hc2 (by omega)) (fun hc2 => ?_)
  refine ik_Wk 1 (pc_q := 14) (loc_q := [some (fI side)]) (st_q := [fI 0]) (h_q := h) (cl_q := 0) (sl_q := 0) rfl ?_
  refine ik_Wret rfl rfl ⟨_, _, rfl, rfl, ?_⟩
  refine ik_Wk 0 (pc_q := 4) (loc_q := [some (.ref 0), some (fI side), some (fI what), some (fI v), none]) (st_q := [fI 0]) (h_q := h) (cl_q := 0) (sl_q := 0) rfl ?_
  refine fw_if_eq rfl rfl (by decide +kernel) (by decide +kernel) (fun hc3 => ?_) (fun hc3 => absurd hc3 (by decide +kernel))
  refine fw_ld (-1000000001) rfl rfl (by decide +kernel) ?_
  exact ik_Wret rfl rfl ⟨_, _, rfl, rfl, rfl, rfl, ⟨rfl, (hfr_refl [] h)⟩⟩

theorem rp_corkE {h : List ik_E} {side : Int} {what : Int} {v : Int} {f : Nat → Int} (q0 : -2147483648 ≤ side ∧ side < 2147483648) (q1 : ¬ side = 0) (q2 : ¬ side = 1) (h66 : cE h 66 (.inr (10, (fI (f 0) :: .ref 67 :: .ref 68 :: .ref 69 :: fI (f 4) :: .ref 70 :: .ref 71 :: fI (f 7) :: fI (f 8) :: .ref 72 :: fI (f 10) :: fI (f 11) :: fI (f 12) :: fJ (f 13) :: fI (f 14) :: fI (f 15) :: fI (f 16) :: fI (f 17) :: .ref 73 :: .ref 74 :: .ref 75 :: .ref 76 :: .ref 77 :: .ref 78 :: fI (f 24) :: .ref 79 :: .ref 80 :: .ref 81 :: .ref 82 :: .ref 83 :: .ref 84 :: .ref 85 :: fJ (f 32) :: fJ (f 33) :: .ref 86 :: .ref 87 :: fI (f 36) :: .ref 88 :: .ref 89 :: .ref 90 :: .ref 91 :: .ref 92 :: .ref 93 :: [])))) (hl : h.length = 94) : ik_F 158 [.ref 66, fI side, fI what, fI v] h (fun rv h_q => rv = [fI (-1000000001)] ∧ hfr [] h h_q) := by
  refine ik_Wk 1 (pc_q := 1) (loc_q := [some (.ref 66), some (fI side), some (fI what), some (fI v), none]) (st_q := [fI side]) (h_q := h) (cl_q := 0) (sl_q := 0) rfl ?_
  refine ik_Wc 132 1 3 [fI side] [] rfl rfl rfl (by decide +kernel) rfl rfl (fw_sta hl rfl (by decide +kernel)) ?_
  refine ik_Wk 0 (pc_q := 0) (loc_q := [some (fI side)]) (st_q := []) (h_q := h) (cl_q := 0) (sl_q := 0) rfl ?_
  refine ik_Wk 1 (pc_q := 1) (loc_q := [some (fI side)]) (st_q := [fI side]) (h_q := h) (cl_q := 0) (sl_q := 0) rfl ?_
  refine fw_i2l rfl (by omega) (by omega) ?_
  refine fw_lc (z := 0) rfl (by decide +kernel) ?_
  refine fw_lc (z := 1) rfl (by decide +kernel) ?_
  refine fw_call 127 3 3 [fJ side, fJ 0, fJ 1] [] rfl rfl rfl (Nat.le_of_ble_eq_true rfl) rfl rfl (fw_sta hl rfl (by decide +kernel)) (cr_in (v := side) (a := 0) (b := 1) (by omega) (by omega) (by omega)  hl) ?_
  rintro _ h_441 (⟨rfl, p_441_0, F_441⟩ | ⟨rfl, p_441_0, F_441⟩)
  · have k_441 : cL h_441 := F_441.1.trans hl
    have fr_441 := hfr_cb (hfr_refl [] h) F_441 rfl
    have g_441_66 := (hfr_g F_441 66 rfl).trans h66
    omega
  · have k_441 : cL h_441 := F_441.1.trans hl
    have fr_441 := hfr_cb (hfr_refl [] h) F_441 rfl
    have g_441_66 := (hfr_g F_441 66 rfl).trans h66
    refine ik_Wk 0 (pc_q := 7) (loc_q := [some (fI side)]) (st_q := [fI 0]) (h_q := h_441) (cl_q := 0) (sl_q := 0) rfl ?_
    refine ik_Wret rfl rfl ⟨_, _, rfl, rfl, ?_⟩
    refine ik_Wk 0 (pc_q := 4) (loc_q := [some (.ref 66), some (fI side), some (fI what), some (fI v), none]) (st_q := [fI 0]) (h_q := h_441) (cl_q := 0) (sl_q := 0) rfl ?_
    refine fw_if_ne rfl rfl (by decide +kernel) (by decide +kernel) (fun hc1 => ?_) (fun hc1 => absurd hc1 (by decide +kernel))
    refine fw_ld (-1000000001) rfl rfl (by decide +kernel) ?_
    exact ik_Wret rfl rfl ⟨_, _, rfl, rfl, rfl, rfl, ⟨rfl, fr_441⟩⟩

theorem cp_stone0 {h : List ik_E} {pl : Int} {lo : Int} {s : Nat} {p : Int} {cn : List Int} {go : List Int} {ch : List Int} {wg : List Int} {wc : List Int} {we : List Int} (q0 : 0 ≤ pl ∧ pl ≤ 12) (q1 : ∀ x : Int, (0 : Int) ≤ x → x < pl - 1 → mx_wy wg wc we x (mx_w cn go ch s x)) (q2 : mx_rw pl cn go ch) (q3 : s < 4096) (q4 : (-2147483648 : Int) ≤ p ∧ p < (2147483648 : Int)) (h0 : cE h 0 (.inr (9, [.ref 1, .ref 7, .ref 14, .ref 17, .ref 45, .ref 51, .ref 54, .ref 57]))) (h7 : cE h 7 (.inr (0, [fI pl, fI ((s : Nat) : Int), fI lo, .ref 8, .ref 9, .ref 10, .ref 11, .ref 12, .ref 13]))) (h8 : cE h 8 (.inl (.int, fA cn))) (n8 : cn.length = (12 : Nat)) (h9 : cE h 9 (.inl (.int, fA go))) (n9 : go.length = (48 : Nat)) (h10 : cE h 10 (.inl (.int, fA ch))) (n10 : ch.length = (48 : Nat)) (h11 : cE h 11 (.inl (.int, fA wg))) (n11 : wg.length = (60 : Nat)) (h12 : cE h 12 (.inl (.int, fA wc))) (n12 : wc.length = (60 : Nat)) (h13 : cE h 13 (.inl (.int, fA we))) (n13 : we.length = (12 : Nat)) (hl : h.length = (94 : Nat)) : ik_F 103 [.ref 0, fI p, fI 0] h (fun rv h_q => (rv = [fI 0] ∧ cE h_q 7 (.inr (0, [fI pl, fI ((s : Nat) : Int), fI lo, .ref 8, .ref 9, .ref 10, .ref 11, .ref 12, .ref 13])) ∧ cE h_q 11 (.inl (.int, fA wg)) ∧ wg.length = (60 : Nat) ∧ cE h_q 12 (.inl (.int, fA wc)) ∧ wc.length = (60 : Nat) ∧ cE h_q 13 (.inl (.int, fA we)) ∧ we.length = (12 : Nat) ∧ (s.testBit p.toNat = false) ∧ ((0 : Int) ≤ p ∧ p < pl - 1) ∧ hfr [7, 11, 12, 13] h h_q) ∨ (∃ (wg' : List Int) (wc' : List Int) (we' : List Int), rv = [fI 1] ∧ cE h_q 7 (.inr (0, [fI pl, fI ((s ^^^ 1 <<< p.toNat : Nat) : Int), fI lo, .ref 8, .ref 9, .ref 10, .ref 11, .ref 12, .ref 13])) ∧ cE h_q 11 (.inl (.int, fA wg')) ∧ wg'.length = (60 : Nat) ∧ cE h_q 12 (.inl (.int, fA wc')) ∧ wc'.length = (60 : Nat) ∧ cE h_q 13 (.inl (.int, fA we')) ∧ we'.length = (12 : Nat) ∧ (s.testBit p.toNat = true) ∧ ((0 : Int) ≤ p ∧ p < pl - 1) ∧ (∀ x : Int, (0 : Int) ≤ x → x < pl - 1 → mx_wy wg' wc' we' x (mx_w cn go ch (s ^^^ 1 <<< p.toNat) x)) ∧ hfr [7, 11, 12, 13] h h_q) ∨ (rv = [fI (-1000000001)] ∧ cE h_q 7 (.inr (0, [fI pl, fI ((s : Nat) : Int), fI lo, .ref 8, .ref 9, .ref 10, .ref 11, .ref 12, .ref 13])) ∧ cE h_q 11 (.inl (.int, fA wg)) ∧ wg.length = (60 : Nat) ∧ cE h_q 12 (.inl (.int, fA wc)) ∧ wc.length = (60 : Nat) ∧ cE h_q 13 (.inl (.int, fA we)) ∧ we.length = (12 : Nat) ∧ (¬ ((0 : Int) ≤ p ∧ p < pl - 1)) ∧ hfr [7, 11, 12, 13] h h_q)) := by
  refine ik_Wk 1 (pc_q := 1) (loc_q := [some (.ref 0), some (fI p), some (fI 0), none]) (st_q := [.ref 0]) (h_q := h) (cl_q := 0) (sl_q := 0) rfl ?_
  refine fw_gf rfl rfl h0 rfl ?_
  refine ik_Wk 1 (pc_q := 5) (loc_q := [some (.ref 0), some (fI p), some (fI 0), none]) (st_q := [fI p, .ref 7]) (h_q := h) (cl_q := 0) (sl_q := 0) rfl ?_
  refine ik_Wc 4 2 0 [.ref 7, fI p] [] rfl rfl rfl (by decide +kernel) rfl rfl (fw_rec hl rfl h7 rfl (Nat.le_of_ble_eq_true rfl)) ?_
  refine ik_Wk 0 (pc_q := 0) (loc_q := [some (.ref 7), some (fI p)]) (st_q := []) (h_q := h) (cl_q := 0) (sl_q := 0) rfl ?_
  refine ik_Wk 1 (pc_q := 1) (loc_q := [some (.ref 7), some (fI p)]) (st_q := [fI p]) (h_q := h) (cl_q := 0) (sl_q := 0) rfl ?_
  refine fw_if_lt rfl rfl (by omega) (by omega) (fun hc1 => ?_) (fun hc1 => ?_)
  · refine ik_Wk 1 (pc_q := 19) (loc_q := [some (.ref 7), some (fI p)]) (st_q := [fI 0]) (h_q := h) (cl_q := 0) (sl_q := 0) rfl ?_
    refine ik_Wret rfl rfl ⟨_, _, rfl, rfl, ?_⟩
    refine ik_Wk 0 (pc_q := 8) (loc_q := [some (.ref 0), some (fI p), some (fI 0), none]) (st_q := [fI 0]) (h_q := h) (cl_q := 0) (sl_q := 0) rfl ?_
    refine fw_if_ne rfl rfl (by decide +kernel) (by decide +kernel) (fun hc2 => ?_) (fun hc2 => absurd hc2 (by decide +kernel))
    refine fw_ld (-1000000001) rfl rfl (by decide +kernel) ?_
    exact ik_Wret rfl rfl ⟨_, _, rfl, rfl, rfl, rfl, (Or.inr (Or.inr ⟨rfl, h7, h11, n11, h12, n12, h13, n13, (by omega), (hfr_refl [7, 11, 12, 13] h)⟩))⟩
  · refine ik_Wk 2 (pc_q := 6) (loc_q := [some (.ref 7), some (fI p)]) (st_q := [.ref 7, fI p]) (h_q := h) (cl_q := 0) (sl_q := 0) rfl ?_
    refine fw_gf rfl rfl h7 rfl ?_
    refine ik_Wk 1 (pc_q := 10) (loc_q := [some (.ref 7), some (fI p)]) (st_q := [fI 1, fI pl, fI p]) (h_q := h) (cl_q := 0) (sl_q := 0) rfl ?_
    refine fw_sub rfl ?_
    refine fw_ic_ge rfl rfl (by omega) (by omega) (by omega) (by omega) (fun hc3 => ?_) (fun hc3 => ?_)
    · refine ik_Wk 1 (pc_q := 19) (loc_q := [some (.ref 7), some (fI p)]) (st_q := [fI 0]) (h_q := h) (cl_q := 0) (sl_q := 0) rfl ?_
      refine ik_Wret rfl rfl ⟨_, _, rfl, rfl, ?_⟩
      refine ik_Wk 0 (pc_q := 8) (loc_q := [some (.ref 0), some (fI p), some (fI 0), none]) (st_q := [fI 0]) (h_q := h) (cl_q := 0) (sl_q := 0) rfl ?_
      refine fw_if_ne rfl rfl (by decide +kernel) (by decide +kernel) (fun hc4 => ?_) (fun hc4 => absurd hc4 (by decide +kernel))
      refine fw_ld (-1000000001) rfl rfl (by decide +kernel) ?_
      exact ik_Wret rfl rfl ⟨_, _, rfl, rfl, rfl, rfl, (Or.inr (Or.inr ⟨rfl, h7, h11, n11, h12, n12, h13, n13, (by omega), (hfr_refl [7, 11, 12, 13] h)⟩))⟩
    · refine ik_Wk 2 (pc_q := 19) (loc_q := [some (.ref 7), some (fI p)]) (st_q := [fI 1]) (h_q := h) (cl_q := 0) (sl_q := 0) rfl ?_
      refine ik_Wret rfl rfl ⟨_, _, rfl, rfl, ?_⟩
      refine ik_Wk 0 (pc_q := 8) (loc_q := [some (.ref 0), some (fI p), some (fI 0), none]) (st_q := [fI 1]) (h_q := h) (cl_q := 0) (sl_q := 0) rfl ?_
      refine fw_if_ne rfl rfl (by decide +kernel) (by decide +kernel) (fun hc5 => absurd hc5 (by decide +kernel)) (fun hc5 => ?_)
      refine ik_Wk 1 (pc_q := 15) (loc_q := [some (.ref 0), some (fI p), some (fI 0), none]) (st_q := [.ref 0]) (h_q := h) (cl_q := 0) (sl_q := 0) rfl ?_
      refine fw_gf rfl rfl h0 rfl ?_
      refine ik_Wk 1 (pc_q := 19) (loc_q := [some (.ref 0), some (fI p), some (fI 0), none]) (st_q := [fI p, .ref 7]) (h_q := h) (cl_q := 0) (sl_q := 0) rfl ?_
      refine ik_Wc 13 2 0 [.ref 7, fI p] [] rfl rfl rfl (by decide +kernel) rfl rfl (fw_rec hl rfl h7 rfl (Nat.le_of_ble_eq_true rfl)) ?_
      refine ik_Wk 0 (pc_q := 0) (loc_q := [some (.ref 7), some (fI p)]) (st_q := []) (h_q := h) (cl_q := 0) (sl_q := 0) rfl ?_
      refine ik_Wk 1 (pc_q := 1) (loc_q := [some (.ref 7), some (fI p)]) (st_q := [.ref 7]) (h_q := h) (cl_q := 0) (sl_q := 0) rfl ?_
      refine fw_gf rfl rfl h7 rfl ?_
      refine ik_Wk 1 (pc_q := 5) (loc_q := [some (.ref 7), some (fI p)]) (st_q := [fI p, fI ((s : Nat) : Int)]) (h_q := h) (cl_q := 0) (sl_q := 0) rfl ?_
      refine fx_shr (n := s) rfl (by omega) (by omega) (by omega) ?_
      refine ik_Wk 1 (pc_q := 7) (loc_q := [some (.ref 7), some (fI p)]) (st_q := [fI 1, fI ((s >>> p.toNat : Nat) : Int)]) (h_q := h) (cl_q := 0) (sl_q := 0) rfl ?_
      refine fx_bit (n := s) (k := p.toNat) rfl (fun hb6 => ?_) (fun hb6 => ?_)
      · refine ik_Wk 0 (pc_q := 8) (loc_q := [some (.ref 7), some (fI p)]) (st_q := [fI 1]) (h_q := h) (cl_q := 0) (sl_q := 0) rfl ?_
        refine fw_if_eq rfl rfl (by decide +kernel) (by decide +kernel) (fun hc7 => absurd hc7 (by decide +kernel)) (fun hc7 => ?_)
        refine ik_Wk 2 (pc_q := 16) (loc_q := [some (.ref 7), some (fI p)]) (st_q := [fI 1]) (h_q := h) (cl_q := 0) (sl_q := 0) rfl ?_
        refine ik_Wret rfl rfl ⟨_, _, rfl, rfl, ?_⟩
        refine ik_Wk 0 (pc_q := 22) (loc_q := [some (.ref 0), some (fI p), some (fI 0), none]) (st_q := [fI 1]) (h_q := h) (cl_q := 0) (sl_q := 0) rfl ?_
        refine ik_Wk 3 (pc_q := 25) (loc_q := [some (.ref 0), some (fI p), some (fI 0), some (fI 1)]) (st_q := [fI 0, fI 1]) (h_q := h) (cl_q := 0) (sl_q := 0) rfl ?_
        refine fw_ic_eq rfl rfl (by decide +kernel) (by decide +kernel) (by decide +kernel) (by decide +kernel) (fun hc8 => absurd hc8 (by decide +kernel)) (fun hc8 => ?_)
        refine ik_Wk 1 (pc_q := 29) (loc_q := [some (.ref 0), some (fI p), some (fI 0), some (fI 1)]) (st_q := [.ref 0]) (h_q := h) (cl_q := 0) (sl_q := 0) rfl ?_
        refine fw_gf rfl rfl h0 rfl ?_
        refine ik_Wk 1 (pc_q := 33) (loc_q := [some (.ref 0), some (fI p), some (fI 0), some (fI 1)]) (st_q := [fI p, .ref 7]) (h_q := h) (cl_q := 0) (sl_q := 0) rfl ?_
        refine fw_call 14 2 0 [.ref 7, fI p] [] rfl rfl rfl (Nat.le_of_ble_eq_true rfl) rfl rfl (fw_rec hl rfl h7 rfl (Nat.le_of_ble_eq_true rfl)) (cs_turn (p := p) (pl := pl) (lo := lo) (s := s) (cn := cn) (go := go) (ch := ch) (wg := wg) (wc := wc) (we := we) (by omega) (by omega) q3 (by have := (q2 p (by omega) (by omega)).1; omega) (mx_rw_ch q2 p (by omega) (by omega)).2 (mx_rw_ch q2 p (by omega) (by omega)).1 h7 h8 n8 h9 n9 h10 n10 h11 n11 h12 n12 h13 n13 hl) ?_
        rintro _ h_442 ⟨wg'_442, wc'_442, rfl, e_442_7, e_442_11, m_442_11, e_442_12, m_442_12, e_442_13, m_442_13, p_442_0, p_442_1, p_442_2, F_442⟩
        have k_442 : cL h_442 := F_442.1.trans hl
        have fr_442 := hfr_cb (hfr_refl [7, 11, 12, 13] h) F_442 rfl
        have g_442_0 := (hfr_g F_442 0 rfl).trans h0
        have g_442_8 := (hfr_g F_442 8 rfl).trans h8
        have g_442_9 := (hfr_g F_442 9 rfl).trans h9
        have g_442_10 := (hfr_g F_442 10 rfl).trans h10
        have g_442_7 : cE h_442 7 (.inr (0, [fI pl, fI ((s ^^^ 1 <<< p.toNat : Nat) : Int), fI lo, .ref 8, .ref 9, .ref 10, .ref 11, .ref 12, .ref 13])) := e_442_7
        have g_442_11 : cE h_442 11 (.inl (.int, fA wg'_442)) := e_442_11
        have g_442_12 : cE h_442 12 (.inl (.int, fA wc'_442)) := e_442_12
        have g_442_13 : cE h_442 13 (.inl (.int, fA (we.set p.toNat (5 * p + ((mx_w cn go ch (s ^^^ 1 <<< p.toNat) p).length : Int))))) := e_442_13
        refine ik_Wk 0 (pc_q := 36) (loc_q := [some (.ref 0), some (fI p), some (fI 0), some (fI 1)]) (st_q := []) (h_q := h_442) (cl_q := 0) (sl_q := 0) rfl ?_
        have wy_442 : ∀ x : Int, 0 ≤ x → x < pl - 1 → mx_wy wg'_442 wc'_442 (we.set p.toNat (5 * p + ((mx_w cn go ch (s ^^^ 1 <<< p.toNat) p).length : Int))) x (mx_w cn go ch (s ^^^ 1 <<< p.toNat) x) := mx_wy_one (W := (fun x => mx_w cn go ch s x)) (W' := (fun x => mx_w cn go ch (s ^^^ 1 <<< p.toNat) x)) q1 (mx_rw_ok q2 _) (by omega) (by omega) n13 p_442_0 p_442_1 p_442_2 (fun x h0 h1 hx => mx_w_tb (mx_tb_ne (by omega)))
        refine ik_Wk 1 (pc_q := 37) (loc_q := [some (.ref 0), some (fI p), some (fI 0), some (fI 1)]) (st_q := [fI 1]) (h_q := h_442) (cl_q := 0) (sl_q := 0) rfl ?_
        refine fw_if_eq rfl rfl (by decide +kernel) (by decide +kernel) (fun hc9 => absurd hc9 (by decide +kernel)) (fun hc9 => ?_)
        refine ik_Wk 2 (pc_q := 45) (loc_q := [some (.ref 0), some (fI p), some (fI 0), some (fI 1)]) (st_q := [fI 1]) (h_q := h_442) (cl_q := 0) (sl_q := 0) rfl ?_
        exact ik_Wret rfl rfl ⟨_, _, rfl, rfl, rfl, rfl, (Or.inr (Or.inl ⟨wg'_442, wc'_442, (we.set p.toNat (5 * p + ((mx_w cn go ch (s ^^^ 1 <<< p.toNat) p).length : Int))), rfl, g_442_7, g_442_11, m_442_11, g_442_12, m_442_12, g_442_13, m_442_13, hb6, (by omega), wy_442, fr_442⟩))⟩
      · refine ik_Wk 0 (pc_q := 8) (loc_q := [some (.ref 7), some (fI p)]) (st_q := [fI 0]) (h_q := h) (cl_q := 0) (sl_q := 0) rfl ?_
        refine fw_if_eq rfl rfl (by decide +kernel) (by decide +kernel) (fun hc10 => ?_) (fun hc10 => absurd hc10 (by decide +kernel))
        refine ik_Wk 1 (pc_q := 16) (loc_q := [some (.ref 7), some (fI p)]) (st_q := [fI 0]) (h_q := h) (cl_q := 0) (sl_q := 0) rfl ?_
        refine ik_Wret rfl rfl ⟨_, _, rfl, rfl, ?_⟩
        refine ik_Wk 0 (pc_q := 22) (loc_q := [some (.ref 0), some (fI p), some (fI 0), none]) (st_q := [fI 0]) (h_q := h) (cl_q := 0) (sl_q := 0) rfl ?_
        refine ik_Wk 3 (pc_q := 25) (loc_q := [some (.ref 0), some (fI p), some (fI 0), some (fI 0)]) (st_q := [fI 0, fI 0]) (h_q := h) (cl_q := 0) (sl_q := 0) rfl ?_
        refine fw_ic_eq rfl rfl (by decide +kernel) (by decide +kernel) (by decide +kernel) (by decide +kernel) (fun hc11 => ?_) (fun hc11 => absurd hc11 (by decide +kernel))
        refine ik_Wk 1 (pc_q := 37) (loc_q := [some (.ref 0), some (fI p), some (fI 0), some (fI 0)]) (st_q := [fI 0]) (h_q := h) (cl_q := 0) (sl_q := 0) rfl ?_
        refine fw_if_eq rfl rfl (by decide +kernel) (by decide +kernel) (fun hc12 => ?_) (fun hc12 => absurd hc12 (by decide +kernel))
        refine ik_Wk 1 (pc_q := 45) (loc_q := [some (.ref 0), some (fI p), some (fI 0), some (fI 0)]) (st_q := [fI 0]) (h_q := h) (cl_q := 0) (sl_q := 0) rfl ?_
        exact ik_Wret rfl rfl ⟨_, _, rfl, rfl, rfl, rfl, Or.inl ⟨rfl, h7, h11, n11, h12, n12, h13, n13, hb6, (by omega), (hfr_refl [7, 11, 12, 13] h)⟩⟩

theorem rp_stone0 {h : List ik_E} {pl : Int} {s : Nat} {p : Int} {f : Nat → Int} (q0 : 0 ≤ pl ∧ pl ≤ 12) (q1 : s < 4096) (q2 : -2147483648 ≤ p ∧ p < 2147483648) (h66 : cE h 66 (.inr (10, (fI pl :: .ref 67 :: .ref 68 :: .ref 69 :: fI ((s : Nat) : Int) :: .ref 70 :: .ref 71 :: fI (f 7) :: fI (f 8) :: .ref 72 :: fI (f 10) :: fI (f 11) :: fI (f 12) :: fJ (f 13) :: fI (f 14) :: fI (f 15) :: fI (f 16) :: fI (f 17) :: .ref 73 :: .ref 74 :: .ref 75 :: .ref 76 :: .ref 77 :: .ref 78 :: fI (f 24) :: .ref 79 :: .ref 80 :: .ref 81 :: .ref 82 :: .ref 83 :: .ref 84 :: .ref 85 :: fJ (f 32) :: fJ (f 33) :: .ref 86 :: .ref 87 :: fI (f 36) :: .ref 88 :: .ref 89 :: .ref 90 :: .ref 91 :: .ref 92 :: .ref 93 :: [])))) (hl : h.length = 94) : ik_F 181 [.ref 66, fI p, fI 0] h (fun rv h_q => (rv = [fI 0] ∧ cE h_q 66 (.inr (10, (fI pl :: .ref 67 :: .ref 68 :: .ref 69 :: fI ((s : Nat) : Int) :: .ref 70 :: .ref 71 :: fI (f 7) :: fI (f 8) :: .ref 72 :: fI (f 10) :: fI (f 11) :: fI (f 12) :: fJ (f 13) :: fI (f 14) :: fI (f 15) :: fI (f 16) :: fI (f 17) :: .ref 73 :: .ref 74 :: .ref 75 :: .ref 76 :: .ref 77 :: .ref 78 :: fI (f 24) :: .ref 79 :: .ref 80 :: .ref 81 :: .ref 82 :: .ref 83 :: .ref 84 :: .ref 85 :: fJ (f 32) :: fJ (f 33) :: .ref 86 :: .ref 87 :: fI (f 36) :: .ref 88 :: .ref 89 :: .ref 90 :: .ref 91 :: .ref 92 :: .ref 93 :: []))) ∧ (s.testBit p.toNat = false) ∧ (0 ≤ p ∧ p < pl - 1) ∧ hfr [66] h h_q) ∨ (rv = [fI 1] ∧ cE h_q 66 (.inr (10, (fI pl :: .ref 67 :: .ref 68 :: .ref 69 :: fI ((s ^^^ 1 <<< p.toNat : Nat) : Int) :: .ref 70 :: .ref 71 :: fI (f 7) :: fI (f 8) :: .ref 72 :: fI (f 10) :: fI (f 11) :: fI (f 12) :: fJ (f 13) :: fI (f 14) :: fI (f 15) :: fI (f 16) :: fI (f 17) :: .ref 73 :: .ref 74 :: .ref 75 :: .ref 76 :: .ref 77 :: .ref 78 :: fI (f 24) :: .ref 79 :: .ref 80 :: .ref 81 :: .ref 82 :: .ref 83 :: .ref 84 :: .ref 85 :: fJ (f 32) :: fJ (f 33) :: .ref 86 :: .ref 87 :: fI (f 36) :: .ref 88 :: .ref 89 :: .ref 90 :: .ref 91 :: .ref 92 :: .ref 93 :: []))) ∧ (s.testBit p.toNat = true) ∧ (0 ≤ p ∧ p < pl - 1) ∧ hfr [66] h h_q) ∨ (rv = [fI (-1000000001)] ∧ cE h_q 66 (.inr (10, (fI pl :: .ref 67 :: .ref 68 :: .ref 69 :: fI ((s : Nat) : Int) :: .ref 70 :: .ref 71 :: fI (f 7) :: fI (f 8) :: .ref 72 :: fI (f 10) :: fI (f 11) :: fI (f 12) :: fJ (f 13) :: fI (f 14) :: fI (f 15) :: fI (f 16) :: fI (f 17) :: .ref 73 :: .ref 74 :: .ref 75 :: .ref 76 :: .ref 77 :: .ref 78 :: fI (f 24) :: .ref 79 :: .ref 80 :: .ref 81 :: .ref 82 :: .ref 83 :: .ref 84 :: .ref 85 :: fJ (f 32) :: fJ (f 33) :: .ref 86 :: .ref 87 :: fI (f 36) :: .ref 88 :: .ref 89 :: .ref 90 :: .ref 91 :: .ref 92 :: .ref 93 :: []))) ∧ (¬ (0 ≤ p ∧ p < pl - 1)) ∧ hfr [66] h h_q)) := by
  refine ik_Wk 2 (pc_q := 2) (loc_q := [some (.ref 66), some (fI p), some (fI 0), none]) (st_q := [fI p, .ref 66]) (h_q := h) (cl_q := 0) (sl_q := 0) rfl ?_
  refine ik_Wc 131 2 0 [.ref 66, fI p] [] rfl rfl rfl (by decide +kernel) rfl rfl (fw_rec hl rfl h66 rfl (Nat.le_of_ble_eq_true rfl)) ?_
  refine ik_Wk 0 (pc_q := 0) (loc_q := [some (.ref 66), some (fI p)]) (st_q := []) (h_q := h) (cl_q := 0) (sl_q := 0) rfl ?_
  refine ik_Wk 1 (pc_q := 1) (loc_q := [some (.ref 66), some (fI p)]) (st_q := [fI p]) (h_q := h) (cl_q := 0) (sl_q := 0) rfl ?_
  refine fw_i2l rfl (by omega) (by omega) ?_
  refine fw_lc (z := 0) rfl (by decide +kernel) ?_
  refine ik_Wk 1 (pc_q := 4) (loc_q := [some (.ref 66), some (fI p)]) (st_q := [.ref 66, fJ 0, fJ p]) (h_q := h) (cl_q := 0) (sl_q := 0) rfl ?_
  refine fw_gf rfl rfl h66 rfl ?_
  refine ik_Wk 1 (pc_q := 8) (loc_q := [some (.ref 66), some (fI p)]) (st_q := [fI 2, fI pl, fJ 0, fJ p]) (h_q := h) (cl_q := 0) (sl_q := 0) rfl ?_
  refine fw_sub rfl ?_
  refine fw_i2l rfl (by omega) (by omega) ?_
  refine fw_call 127 3 3 [fJ p, fJ 0, fJ (pl - 2)] [] rfl rfl rfl (Nat.le_of_ble_eq_true rfl) rfl rfl (fw_sta hl rfl (by decide +kernel)) (cr_in (v := p) (a := 0) (b := pl - 2) (by omega) (by omega) (by omega)  hl) ?_
  rintro _ h_443 (⟨rfl, p_443_0, F_443⟩ | ⟨rfl, p_443_0, F_443⟩)
  · have k_443 : cL h_443 := F_443.1.trans hl
    have fr_443 := hfr_cb (hfr_refl [66] h) F_443 rfl
    have g_443_66 := (hfr_g F_443 66 rfl).trans h66
    refine ik_Wk 0 (pc_q := 13) (loc_q := [some (.ref 66), some (fI p)]) (st_q := [fI 1]) (h_q := h_443) (cl_q := 0) (sl_q := 0) rfl ?_
    refine ik_Wret rfl rfl ⟨_, _, rfl, rfl, ?_⟩
    refine ik_Wk 0 (pc_q := 5) (loc_q := [some (.ref 66), some (fI p), some (fI 0), none]) (st_q := [fI 1]) (h_q := h_443) (cl_q := 0) (sl_q := 0) rfl ?_
    refine fw_if_ne rfl rfl (by decide +kernel) (by decide +kernel) (fun hc1 => absurd hc1 (by decide +kernel)) (fun hc1 => ?_)
    refine ik_Wk 1 (pc_q := 12) (loc_q := [some (.ref 66), some (fI p), some (fI 0), none]) (st_q := [.ref 66]) (h_q := h_443) (cl_q := 0) (sl_q := 0) rfl ?_
    refine fw_gf rfl rfl g_443_66 rfl ?_
    refine ik_Wk 1 (pc_q := 16) (loc_q := [some (.ref 66), some (fI p), some (fI 0), none]) (st_q := [fI p, fI ((s : Nat) : Int)]) (h_q := h_443) (cl_q := 0) (sl_q := 0) rfl ?_
    refine fx_shr (n := s) rfl (by omega) (by omega) (by omega) ?_
    refine ik_Wk 1 (pc_q := 18) (loc_q := [some (.ref 66), some (fI p), some (fI 0), none]) (st_q := [fI 1, fI ((s >>> p.toNat : Nat) : Int)]) (h_q := h_443) (cl_q := 0) (sl_q := 0) rfl ?_
    refine fx_bit (n := s) (k := p.toNat) rfl (fun hb2 => ?_) (fun hb2 => ?_)
    · refine ik_Wk 0 (pc_q := 19) (loc_q := [some (.ref 66), some (fI p), some (fI 0), none]) (st_q := [fI 1]) (h_q := h_443) (cl_q := 0) (sl_q := 0) rfl ?_
      refine ik_Wk 3 (pc_q := 22) (loc_q := [some (.ref 66), some (fI p), some (fI 0), some (fI 1)]) (st_q := [fI 0, .ref 66]) (h_q := h_443) (cl_q := 0) (sl_q := 0) rfl ?_
      refine fw_if_eq rfl rfl (by decide +kernel) (by decide +kernel) (fun hc3 => ?_) (fun hc3 => absurd hc3 (by decide +kernel))
      refine ik_Wk 1 (pc_q := 37) (loc_q := [some (.ref 66), some (fI p), some (fI 0), some (fI 1)]) (st_q := [.ref 66, .ref 66]) (h_q := h_443) (cl_q := 0) (sl_q := 0) rfl ?_
      refine fw_gf rfl rfl g_443_66 rfl ?_
      refine ik_Wk 2 (pc_q := 42) (loc_q := [some (.ref 66), some (fI p), some (fI 0), some (fI 1)]) (st_q := [fI p, fI 1, fI ((s : Nat) : Int), .ref 66]) (h_q := h_443) (cl_q := 0) (sl_q := 0) rfl ?_
      refine fx_shl rfl (by omega) (by omega) ?_
      refine ik_Wk 1 (pc_q := 44) (loc_q := [some (.ref 66), some (fI p), some (fI 0), some (fI 1)]) (st_q := [fI (-1), fI ((1 <<< p.toNat : Nat) : Int), fI ((s : Nat) : Int), .ref 66]) (h_q := h_443) (cl_q := 0) (sl_q := 0) rfl ?_
      refine fx_not (n := 1 <<< p.toNat) rfl ?_
      refine fx_nand (m := s) (n := 1 <<< p.toNat) rfl ?_
      refine fx_pf rfl rfl g_443_66 (Nat.le_of_ble_eq_true rfl) rfl rfl ?_
      intro h_444 e_444 f_444 l_444
      have k_444 : cL h_444 := l_444.trans k_443
      have fr_444 := hfr_wb fr_443 f_444 l_444 rfl
      clear l_444
      have g_444_66 : cE h_444 66 (.inr (10, (fI pl :: .ref 67 :: .ref 68 :: .ref 69 :: (fI ((s ^^^ (s &&& (1 <<< p.toNat)) : Nat) : Int)) :: .ref 70 :: .ref 71 :: fI (f 7) :: fI (f 8) :: .ref 72 :: fI (f 10) :: fI (f 11) :: fI (f 12) :: fJ (f 13) :: fI (f 14) :: fI (f 15) :: fI (f 16) :: fI (f 17) :: .ref 73 :: .ref 74 :: .ref 75 :: .ref 76 :: .ref 77 :: .ref 78 :: fI (f 24) :: .ref 79 :: .ref 80 :: .ref 81 :: .ref 82 :: .ref 83 :: .ref 84 :: .ref 85 :: fJ (f 32) :: fJ (f 33) :: .ref 86 :: .ref 87 :: fI (f 36) :: .ref 88 :: .ref 89 :: .ref 90 :: .ref 91 :: .ref 92 :: .ref 93 :: []))) := e_444
      refine ik_Wk 1 (pc_q := 50) (loc_q := [some (.ref 66), some (fI p), some (fI 0), some (fI 1)]) (st_q := [fI 1]) (h_q := h_444) (cl_q := 0) (sl_q := 0) rfl ?_
      rw [mx_nd_1 hb2] at g_444_66
      exact ik_Wret rfl rfl ⟨_, _, rfl, rfl, rfl, rfl, (Or.inr (Or.inl ⟨rfl, g_444_66, hb2, (by omega), fr_444⟩))⟩
    · refine ik_Wk 0 (pc_q := 19) (loc_q := [some (.ref 66), some (fI p), some (fI 0), none]) (st_q := [fI 0]) (h_q := h_443) (cl_q := 0) (sl_q := 0) rfl ?_
      refine ik_Wk 3 (pc_q := 22) (loc_q := [some (.ref 66), some (fI p), some (fI 0), some (fI 0)]) (st_q := [fI 0, .ref 66]) (h_q := h_443) (cl_q := 0) (sl_q := 0) rfl ?_
      refine fw_if_eq rfl rfl (by decide +kernel) (by decide +kernel) (fun hc4 => ?_) (fun hc4 => absurd hc4 (by decide +kernel))
      refine ik_Wk 1 (pc_q := 37) (loc_q := [some (.ref 66), some (fI p), some (fI 0), some (fI 0)]) (st_q := [.ref 66, .ref 66]) (h_q := h_443) (cl_q := 0) (sl_q := 0) rfl ?_
      refine fw_gf rfl rfl g_443_66 rfl ?_
      refine ik_Wk 2 (pc_q := 42) (loc_q := [some (.ref 66), some (fI p), some (fI 0), some (fI 0)]) (st_q := [fI p, fI 1, fI ((s : Nat) : Int), .ref 66]) (h_q := h_443) (cl_q := 0) (sl_q := 0) rfl ?_
      refine fx_shl rfl (by omega) (by omega) ?_
      refine ik_Wk 1 (pc_q := 44) (loc_q := [some (.ref 66), some (fI p), some (fI 0), some (fI 0)]) (st_q := [fI (-1), fI ((1 <<< p.toNat : Nat) : Int), fI ((s : Nat) : Int), .ref 66]) (h_q := h_443) (cl_q := 0) (sl_q := 0) rfl ?_
      refine fx_not (n := 1 <<< p.toNat) rfl ?_
      refine fx_nand (m := s) (n := 1 <<< p.toNat) rfl ?_
      refine fx_pf rfl rfl g_443_66 (Nat.le_of_ble_eq_true rfl) rfl rfl ?_
      intro h_445 e_445 f_445 l_445
      have k_445 : cL h_445 := l_445.trans k_443
      have fr_445 := hfr_wb fr_443 f_445 l_445 rfl
      clear l_445
      have g_445_66 : cE h_445 66 (.inr (10, (fI pl :: .ref 67 :: .ref 68 :: .ref 69 :: (fI ((s ^^^ (s &&& (1 <<< p.toNat)) : Nat) : Int)) :: .ref 70 :: .ref 71 :: fI (f 7) :: fI (f 8) :: .ref 72 :: fI (f 10) :: fI (f 11) :: fI (f 12) :: fJ (f 13) :: fI (f 14) :: fI (f 15) :: fI (f 16) :: fI (f 17) :: .ref 73 :: .ref 74 :: .ref 75 :: .ref 76 :: .ref 77 :: .ref 78 :: fI (f 24) :: .ref 79 :: .ref 80 :: .ref 81 :: .ref 82 :: .ref 83 :: .ref 84 :: .ref 85 :: fJ (f 32) :: fJ (f 33) :: .ref 86 :: .ref 87 :: fI (f 36) :: .ref 88 :: .ref 89 :: .ref 90 :: .ref 91 :: .ref 92 :: .ref 93 :: []))) := e_445
      refine ik_Wk 1 (pc_q := 50) (loc_q := [some (.ref 66), some (fI p), some (fI 0), some (fI 0)]) (st_q := [fI 0]) (h_q := h_445) (cl_q := 0) (sl_q := 0) rfl ?_
      rw [mx_nd_0 hb2] at g_445_66
      exact ik_Wret rfl rfl ⟨_, _, rfl, rfl, rfl, rfl, Or.inl ⟨rfl, g_445_66, hb2, (by omega), fr_445⟩⟩
  · have k_443 : cL h_443 := F_443.1.trans hl
    have fr_443 := hfr_cb (hfr_refl [66] h) F_443 rfl
    have g_443_66 := (hfr_g F_443 66 rfl).trans h66
    refine ik_Wk 0 (pc_q := 13) (loc_q := [some (.ref 66), some (fI p)]) (st_q := [fI 0]) (h_q := h_443) (cl_q := 0) (sl_q := 0) rfl ?_
    refine ik_Wret rfl rfl ⟨_, _, rfl, rfl, ?_⟩
    refine ik_Wk 0 (pc_q := 5) (loc_q := [some (.ref 66), some (fI p), some (fI 0), none]) (st_q := [fI 0]) (h_q := h_443) (cl_q := 0) (sl_q := 0) rfl ?_
    refine fw_if_ne rfl rfl (by decide +kernel) (by decide +kernel) (fun hc5 => ?_) (fun hc5 => absurd hc5 (by decide +kernel))
    refine fw_ld (-1000000001) rfl rfl (by decide +kernel) ?_
    exact ik_Wret rfl rfl ⟨_, _, rfl, rfl, rfl, rfl, (Or.inr (Or.inr ⟨rfl, g_443_66, (by omega), fr_443⟩))⟩

theorem cp_stone1 {h : List ik_E} {pl : Int} {lo : Int} {s : Nat} {p : Int} {cn : List Int} {go : List Int} {ch : List Int} {wg : List Int} {wc : List Int} {we : List Int} (q0 : 0 ≤ pl ∧ pl ≤ 12) (q1 : ∀ x : Int, (0 : Int) ≤ x → x < pl - 1 → mx_wy wg wc we x (mx_w cn go ch s x)) (q2 : mx_rw pl cn go ch) (q3 : s < 4096) (q4 : (-2147483648 : Int) ≤ p ∧ p < (2147483648 : Int)) (h0 : cE h 0 (.inr (9, [.ref 1, .ref 7, .ref 14, .ref 17, .ref 45, .ref 51, .ref 54, .ref 57]))) (h7 : cE h 7 (.inr (0, [fI pl, fI ((s : Nat) : Int), fI lo, .ref 8, .ref 9, .ref 10, .ref 11, .ref 12, .ref 13]))) (h8 : cE h 8 (.inl (.int, fA cn))) (n8 : cn.length = (12 : Nat)) (h9 : cE h 9 (.inl (.int, fA go))) (n9 : go.length = (48 : Nat)) (h10 : cE h 10 (.inl (.int, fA ch))) (n10 : ch.length = (48 : Nat)) (h11 : cE h 11 (.inl (.int, fA wg))) (n11 : wg.length = (60 : Nat)) (h12 : cE h 12 (.inl (.int, fA wc))) (n12 : wc.length = (60 : Nat)) (h13 : cE h 13 (.inl (.int, fA we))) (n13 : we.length = (12 : Nat)) (hl : h.length = (94 : Nat)) : ik_F 103 [.ref 0, fI p, fI 1] h (fun rv h_q => (rv = [fI 1] ∧ cE h_q 7 (.inr (0, [fI pl, fI ((s : Nat) : Int), fI lo, .ref 8, .ref 9, .ref 10, .ref 11, .ref 12, .ref 13])) ∧ cE h_q 11 (.inl (.int, fA wg)) ∧ wg.length = (60 : Nat) ∧ cE h_q 12 (.inl (.int, fA wc)) ∧ wc.length = (60 : Nat) ∧ cE h_q 13 (.inl (.int, fA we)) ∧ we.length = (12 : Nat) ∧ (s.testBit p.toNat = true) ∧ ((0 : Int) ≤ p ∧ p < pl - 1) ∧ hfr [7, 11, 12, 13] h h_q) ∨ (∃ (wg' : List Int) (wc' : List Int) (we' : List Int), rv = [fI 0] ∧ cE h_q 7 (.inr (0, [fI pl, fI ((s ^^^ 1 <<< p.toNat : Nat) : Int), fI lo, .ref 8, .ref 9, .ref 10, .ref 11, .ref 12, .ref 13])) ∧ cE h_q 11 (.inl (.int, fA wg')) ∧ wg'.length = (60 : Nat) ∧ cE h_q 12 (.inl (.int, fA wc')) ∧ wc'.length = (60 : Nat) ∧ cE h_q 13 (.inl (.int, fA we')) ∧ we'.length = (12 : Nat) ∧ (s.testBit p.toNat = false) ∧ ((0 : Int) ≤ p ∧ p < pl - 1) ∧ (∀ x : Int, (0 : Int) ≤ x → x < pl - 1 → mx_wy wg' wc' we' x (mx_w cn go ch (s ^^^ 1 <<< p.toNat) x)) ∧ hfr [7, 11, 12, 13] h h_q) ∨ (rv = [fI (-1000000001)] ∧ cE h_q 7 (.inr (0, [fI pl, fI ((s : Nat) : Int), fI lo, .ref 8, .ref 9, .ref 10, .ref 11, .ref 12, .ref 13])) ∧ cE h_q 11 (.inl (.int, fA wg)) ∧ wg.length = (60 : Nat) ∧ cE h_q 12 (.inl (.int, fA wc)) ∧ wc.length = (60 : Nat) ∧ cE h_q 13 (.inl (.int, fA we)) ∧ we.length = (12 : Nat) ∧ (¬ ((0 : Int) ≤ p ∧ p < pl - 1)) ∧ hfr [7, 11, 12, 13] h h_q)) := by
  refine ik_Wk 1 (pc_q := 1) (loc_q := [some (.ref 0), some (fI p), some (fI 1), none]) (st_q := [.ref 0]) (h_q := h) (cl_q := 0) (sl_q := 0) rfl ?_
  refine fw_gf rfl rfl h0 rfl ?_
  refine ik_Wk 1 (pc_q := 5) (loc_q := [some (.ref 0), some (fI p), some (fI 1), none]) (st_q := [fI p, .ref 7]) (h_q := h) (cl_q := 0) (sl_q := 0) rfl ?_
  refine ik_Wc 4 2 0 [.ref 7, fI p] [] rfl rfl rfl (by decide +kernel) rfl rfl (fw_rec hl rfl h7 rfl (Nat.le_of_ble_eq_true rfl)) ?_
  refine ik_Wk 0 (pc_q := 0) (loc_q := [some (.ref 7), some (fI p)]) (st_q := []) (h_q := h) (cl_q := 0) (sl_q := 0) rfl ?_
  refine ik_Wk 1 (pc_q := 1) (loc_q := [some (.ref 7), some (fI p)]) (st_q := [fI p]) (h_q := h) (cl_q := 0) (sl_q := 0) rfl ?_
  refine fw_if_lt rfl rfl (by omega) (by omega) (fun hc1 => ?_) (fun hc1 => ?_)
  · refine ik_Wk 1 (pc_q := 19) (loc_q := [some (.ref 7), some (fI p)]) (st_q := [fI 0]) (h_q := h) (cl_q := 0) (sl_q := 0) rfl ?_
    refine ik_Wret rfl rfl ⟨_, _, rfl, rfl, ?_⟩
    refine ik_Wk 0 (pc_q := 8) (loc_q := [some (.ref 0), some (fI p), some (fI 1), none]) (st_q := [fI 0]) (h_q := h) (cl_q := 0) (sl_q := 0) rfl ?_
    refine fw_if_ne rfl rfl (by decide +kernel) (by decide +kernel) (fun hc2 => ?_) (fun hc2 => absurd hc2 (by decide +kernel))
    refine fw_ld (-1000000001) rfl rfl (by decide +kernel) ?_
    exact ik_Wret rfl rfl ⟨_, _, rfl, rfl, rfl, rfl, (Or.inr (Or.inr ⟨rfl, h7, h11, n11, h12, n12, h13, n13, (by omega), (hfr_refl [7, 11, 12, 13] h)⟩))⟩
  · refine ik_Wk 2 (pc_q := 6) (loc_q := [some (.ref 7), some (fI p)]) (st_q := [.ref 7, fI p]) (h_q := h) (cl_q := 0) (sl_q := 0) rfl ?_
    refine fw_gf rfl rfl h7 rfl ?_
    refine ik_Wk 1 (pc_q := 10) (loc_q := [some (.ref 7), some (fI p)]) (st_q := [fI 1, fI pl, fI p]) (h_q := h) (cl_q := 0) (sl_q := 0) rfl ?_
    refine fw_sub rfl ?_
    refine fw_ic_ge rfl rfl (by omega) (by omega) (by omega) (by omega) (fun hc3 => ?_) (fun hc3 => ?_)
    · refine ik_Wk 1 (pc_q := 19) (loc_q := [some (.ref 7), some (fI p)]) (st_q := [fI 0]) (h_q := h) (cl_q := 0) (sl_q := 0) rfl ?_
      refine ik_Wret rfl rfl ⟨_, _, rfl, rfl, ?_⟩
      refine ik_Wk 0 (pc_q := 8) (loc_q := [some (.ref 0), some (fI p), some (fI 1), none]) (st_q := [fI 0]) (h_q := h) (cl_q := 0) (sl_q := 0) rfl ?_
      refine fw_if_ne rfl rfl (by decide +kernel) (by decide +kernel) (fun hc4 => ?_) (fun hc4 => absurd hc4 (by decide +kernel))
      refine fw_ld (-1000000001) rfl rfl (by decide +kernel) ?_
      exact ik_Wret rfl rfl ⟨_, _, rfl, rfl, rfl, rfl, (Or.inr (Or.inr ⟨rfl, h7, h11, n11, h12, n12, h13, n13, (by omega), (hfr_refl [7, 11, 12, 13] h)⟩))⟩
    · refine ik_Wk 2 (pc_q := 19) (loc_q := [some (.ref 7), some (fI p)]) (st_q := [fI 1]) (h_q := h) (cl_q := 0) (sl_q := 0) rfl ?_
      refine ik_Wret rfl rfl ⟨_, _, rfl, rfl, ?_⟩
      refine ik_Wk 0 (pc_q := 8) (loc_q := [some (.ref 0), some (fI p), some (fI 1), none]) (st_q := [fI 1]) (h_q := h) (cl_q := 0) (sl_q := 0) rfl ?_
      refine fw_if_ne rfl rfl (by decide +kernel) (by decide +kernel) (fun hc5 => absurd hc5 (by decide +kernel)) (fun hc5 => ?_)
      refine ik_Wk 1 (pc_q := 15) (loc_q := [some (.ref 0), some (fI p), some (fI 1), none]) (st_q := [.ref 0]) (h_q := h) (cl_q := 0) (sl_q := 0) rfl ?_
      refine fw_gf rfl rfl h0 rfl ?_
      refine ik_Wk 1 (pc_q := 19) (loc_q := [some (.ref 0), some (fI p), some (fI 1), none]) (st_q := [fI p, .ref 7]) (h_q := h) (cl_q := 0) (sl_q := 0) rfl ?_
      refine ik_Wc 13 2 0 [.ref 7, fI p] [] rfl rfl rfl (by decide +kernel) rfl rfl (fw_rec hl rfl h7 rfl (Nat.le_of_ble_eq_true rfl)) ?_
      refine ik_Wk 0 (pc_q := 0) (loc_q := [some (.ref 7), some (fI p)]) (st_q := []) (h_q := h) (cl_q := 0) (sl_q := 0) rfl ?_
      refine ik_Wk 1 (pc_q := 1) (loc_q := [some (.ref 7), some (fI p)]) (st_q := [.ref 7]) (h_q := h) (cl_q := 0) (sl_q := 0) rfl ?_
      refine fw_gf rfl rfl h7 rfl ?_
      refine ik_Wk 1 (pc_q := 5) (loc_q := [some (.ref 7), some (fI p)]) (st_q := [fI p, fI ((s : Nat) : Int)]) (h_q := h) (cl_q := 0) (sl_q := 0) rfl ?_
      refine fx_shr (n := s) rfl (by omega) (by omega) (by omega) ?_
      refine ik_Wk 1 (pc_q := 7) (loc_q := [some (.ref 7), some (fI p)]) (st_q := [fI 1, fI ((s >>> p.toNat : Nat) : Int)]) (h_q := h) (cl_q := 0) (sl_q := 0) rfl ?_
      refine fx_bit (n := s) (k := p.toNat) rfl (fun hb6 => ?_) (fun hb6 => ?_)
      · refine ik_Wk 0 (pc_q := 8) (loc_q := [some (.ref 7), some (fI p)]) (st_q := [fI 1]) (h_q := h) (cl_q := 0) (sl_q := 0) rfl ?_
        refine fw_if_eq rfl rfl (by decide +kernel) (by decide +kernel) (fun hc7 => absurd hc7 (by decide +kernel)) (fun hc7 => ?_)
        refine ik_Wk 2 (pc_q := 16) (loc_q := [some (.ref 7), some (fI p)]) (st_q := [fI 1]) (h_q := h) (cl_q := 0) (sl_q := 0) rfl ?_
        refine ik_Wret rfl rfl ⟨_, _, rfl, rfl, ?_⟩
        refine ik_Wk 0 (pc_q := 22) (loc_q := [some (.ref 0), some (fI p), some (fI 1), none]) (st_q := [fI 1]) (h_q := h) (cl_q := 0) (sl_q := 0) rfl ?_
        refine ik_Wk 3 (pc_q := 25) (loc_q := [some (.ref 0), some (fI p), some (fI 1), some (fI 1)]) (st_q := [fI 1, fI 1]) (h_q := h) (cl_q := 0) (sl_q := 0) rfl ?_
        refine fw_ic_eq rfl rfl (by decide +kernel) (by decide +kernel) (by decide +kernel) (by decide +kernel) (fun hc8 => ?_) (fun hc8 => absurd hc8 (by decide +kernel))
        refine ik_Wk 1 (pc_q := 37) (loc_q := [some (.ref 0), some (fI p), some (fI 1), some (fI 1)]) (st_q := [fI 1]) (h_q := h) (cl_q := 0) (sl_q := 0) rfl ?_
        refine fw_if_eq rfl rfl (by decide +kernel) (by decide +kernel) (fun hc9 => absurd hc9 (by decide +kernel)) (fun hc9 => ?_)
        refine ik_Wk 2 (pc_q := 45) (loc_q := [some (.ref 0), some (fI p), some (fI 1), some (fI 1)]) (st_q := [fI 1]) (h_q := h) (cl_q := 0) (sl_q := 0) rfl ?_
        exact ik_Wret rfl rfl ⟨_, _, rfl, rfl, rfl, rfl, Or.inl ⟨rfl, h7, h11, n11, h12, n12, h13, n13, hb6, (by omega), (hfr_refl [7, 11, 12, 13] h)⟩⟩
      · refine ik_Wk 0 (pc_q := 8) (loc_q := [some (.ref 7), some (fI p)]) (st_q := [fI 0]) (h_q := h) (cl_q := 0) (sl_q := 0) rfl ?_
        refine fw_if_eq rfl rfl (by decide +kernel) (by decide +kernel) (fun hc10 => ?_) (fun hc10 => absurd hc10 (by decide +kernel))
        refine ik_Wk 1 (pc_q := 16) (loc_q := [some (.ref 7), some (fI p)]) (st_q := [fI 0]) (h_q := h) (cl_q := 0) (sl_q := 0) rfl ?_
        refine ik_Wret rfl rfl ⟨_, _, rfl, rfl, ?_⟩
        refine ik_Wk 0 (pc_q := 22) (loc_q := [some (.ref 0), some (fI p), some (fI 1), none]) (st_q := [fI 0]) (h_q := h) (cl_q := 0) (sl_q := 0) rfl ?_
        refine ik_Wk 3 (pc_q := 25) (loc_q := [some (.ref 0), some (fI p), some (fI 1), some (fI 0)]) (st_q := [fI 1, fI 0]) (h_q := h) (cl_q := 0) (sl_q := 0) rfl ?_
        refine fw_ic_eq rfl rfl (by decide +kernel) (by decide +kernel) (by decide +kernel) (by decide +kernel) (fun hc11 => absurd hc11 (by decide +kernel)) (fun hc11 => ?_)
        refine ik_Wk 1 (pc_q := 29) (loc_q := [some (.ref 0), some (fI p), some (fI 1), some (fI 0)]) (st_q := [.ref 0]) (h_q := h) (cl_q := 0) (sl_q := 0) rfl ?_
        refine fw_gf rfl rfl h0 rfl ?_
        refine ik_Wk 1 (pc_q := 33) (loc_q := [some (.ref 0), some (fI p), some (fI 1), some (fI 0)]) (st_q := [fI p, .ref 7]) (h_q := h) (cl_q := 0) (sl_q := 0) rfl ?_
        refine fw_call 14 2 0 [.ref 7, fI p] [] rfl rfl rfl (Nat.le_of_ble_eq_true rfl) rfl rfl (fw_rec hl rfl h7 rfl (Nat.le_of_ble_eq_true rfl)) (cs_turn (p := p) (pl := pl) (lo := lo) (s := s) (cn := cn) (go := go) (ch := ch) (wg := wg) (wc := wc) (we := we) (by omega) (by omega) q3 (by have := (q2 p (by omega) (by omega)).1; omega) (mx_rw_ch q2 p (by omega) (by omega)).2 (mx_rw_ch q2 p (by omega) (by omega)).1 h7 h8 n8 h9 n9 h10 n10 h11 n11 h12 n12 h13 n13 hl) ?_
        rintro _ h_446 ⟨wg'_446, wc'_446, rfl, e_446_7, e_446_11, m_446_11, e_446_12, m_446_12, e_446_13, m_446_13, p_446_0, p_446_1, p_446_2, F_446⟩
        have k_446 : cL h_446 := F_446.1.trans hl
        have fr_446 := hfr_cb (hfr_refl [7, 11, 12, 13] h) F_446 rfl
        have g_446_0 := (hfr_g F_446 0 rfl).trans h0
        have g_446_8 := (hfr_g F_446 8 rfl).trans h8
        have g_446_9 := (hfr_g F_446 9 rfl).trans h9
        have g_446_10 := (hfr_g F_446 10 rfl).trans h10
        have g_446_7 : cE h_446 7 (.inr (0, [fI pl, fI ((s ^^^ 1 <<< p.toNat : Nat) : Int), fI lo, .ref 8, .ref 9, .ref 10, .ref 11, .ref 12, .ref 13])) := e_446_7
        have g_446_11 : cE h_446 11 (.inl (.int, fA wg'_446)) := e_446_11
        have g_446_12 : cE h_446 12 (.inl (.int, fA wc'_446)) := e_446_12
        have g_446_13 : cE h_446 13 (.inl (.int, fA (we.set p.toNat (5 * p + ((mx_w cn go ch (s ^^^ 1 <<< p.toNat) p).length : Int))))) := e_446_13
        refine ik_Wk 0 (pc_q := 36) (loc_q := [some (.ref 0), some (fI p), some (fI 1), some (fI 0)]) (st_q := []) (h_q := h_446) (cl_q := 0) (sl_q := 0) rfl ?_
        have wy_446 : ∀ x : Int, 0 ≤ x → x < pl - 1 → mx_wy wg'_446 wc'_446 (we.set p.toNat (5 * p + ((mx_w cn go ch (s ^^^ 1 <<< p.toNat) p).length : Int))) x (mx_w cn go ch (s ^^^ 1 <<< p.toNat) x) := mx_wy_one (W := (fun x => mx_w cn go ch s x)) (W' := (fun x => mx_w cn go ch (s ^^^ 1 <<< p.toNat) x)) q1 (mx_rw_ok q2 _) (by omega) (by omega) n13 p_446_0 p_446_1 p_446_2 (fun x h0 h1 hx => mx_w_tb (mx_tb_ne (by omega)))
        refine ik_Wk 1 (pc_q := 37) (loc_q := [some (.ref 0), some (fI p), some (fI 1), some (fI 0)]) (st_q := [fI 0]) (h_q := h_446) (cl_q := 0) (sl_q := 0) rfl ?_
        refine fw_if_eq rfl rfl (by decide +kernel) (by decide +kernel) (fun hc12 => ?_) (fun hc12 => absurd hc12 (by decide +kernel))
        refine ik_Wk 1 (pc_q := 45) (loc_q := [some (.ref 0), some (fI p), some (fI 1), some (fI 0)]) (st_q := [fI 0]) (h_q := h_446) (cl_q := 0) (sl_q := 0) rfl ?_
        exact ik_Wret rfl rfl ⟨_, _, rfl, rfl, rfl, rfl, (Or.inr (Or.inl ⟨wg'_446, wc'_446, (we.set p.toNat (5 * p + ((mx_w cn go ch (s ^^^ 1 <<< p.toNat) p).length : Int))), rfl, g_446_7, g_446_11, m_446_11, g_446_12, m_446_12, g_446_13, m_446_13, hb6, (by omega), wy_446, fr_446⟩))⟩

theorem rp_stone1 {h : List ik_E} {pl : Int} {s : Nat} {p : Int} {f : Nat → Int} (q0 : 0 ≤ pl ∧ pl ≤ 12) (q1 : s < 4096) (q2 : -2147483648 ≤ p ∧ p < 2147483648) (h66 : cE h 66 (.inr (10, (fI pl :: .ref 67 :: .ref 68 :: .ref 69 :: fI ((s : Nat) : Int) :: .ref 70 :: .ref 71 :: fI (f 7) :: fI (f 8) :: .ref 72 :: fI (f 10) :: fI (f 11) :: fI (f 12) :: fJ (f 13) :: fI (f 14) :: fI (f 15) :: fI (f 16) :: fI (f 17) :: .ref 73 :: .ref 74 :: .ref 75 :: .ref 76 :: .ref 77 :: .ref 78 :: fI (f 24) :: .ref 79 :: .ref 80 :: .ref 81 :: .ref 82 :: .ref 83 :: .ref 84 :: .ref 85 :: fJ (f 32) :: fJ (f 33) :: .ref 86 :: .ref 87 :: fI (f 36) :: .ref 88 :: .ref 89 :: .ref 90 :: .ref 91 :: .ref 92 :: .ref 93 :: [])))) (hl : h.length = 94) : ik_F 181 [.ref 66, fI p, fI 1] h (fun rv h_q => (rv = [fI 1] ∧ cE h_q 66 (.inr (10, (fI pl :: .ref 67 :: .ref 68 :: .ref 69 :: fI ((s : Nat) : Int) :: .ref 70 :: .ref 71 :: fI (f 7) :: fI (f 8) :: .ref 72 :: fI (f 10) :: fI (f 11) :: fI (f 12) :: fJ (f 13) :: fI (f 14) :: fI (f 15) :: fI (f 16) :: fI (f 17) :: .ref 73 :: .ref 74 :: .ref 75 :: .ref 76 :: .ref 77 :: .ref 78 :: fI (f 24) :: .ref 79 :: .ref 80 :: .ref 81 :: .ref 82 :: .ref 83 :: .ref 84 :: .ref 85 :: fJ (f 32) :: fJ (f 33) :: .ref 86 :: .ref 87 :: fI (f 36) :: .ref 88 :: .ref 89 :: .ref 90 :: .ref 91 :: .ref 92 :: .ref 93 :: []))) ∧ (s.testBit p.toNat = true) ∧ (0 ≤ p ∧ p < pl - 1) ∧ hfr [66] h h_q) ∨ (rv = [fI 0] ∧ cE h_q 66 (.inr (10, (fI pl :: .ref 67 :: .ref 68 :: .ref 69 :: fI ((s ^^^ 1 <<< p.toNat : Nat) : Int) :: .ref 70 :: .ref 71 :: fI (f 7) :: fI (f 8) :: .ref 72 :: fI (f 10) :: fI (f 11) :: fI (f 12) :: fJ (f 13) :: fI (f 14) :: fI (f 15) :: fI (f 16) :: fI (f 17) :: .ref 73 :: .ref 74 :: .ref 75 :: .ref 76 :: .ref 77 :: .ref 78 :: fI (f 24) :: .ref 79 :: .ref 80 :: .ref 81 :: .ref 82 :: .ref 83 :: .ref 84 :: .ref 85 :: fJ (f 32) :: fJ (f 33) :: .ref 86 :: .ref 87 :: fI (f 36) :: .ref 88 :: .ref 89 :: .ref 90 :: .ref 91 :: .ref 92 :: .ref 93 :: []))) ∧ (s.testBit p.toNat = false) ∧ (0 ≤ p ∧ p < pl - 1) ∧ hfr [66] h h_q) ∨ (rv = [fI (-1000000001)] ∧ cE h_q 66 (.inr (10, (fI pl :: .ref 67 :: .ref 68 :: .ref 69 :: fI ((s : Nat) : Int) :: .ref 70 :: .ref 71 :: fI (f 7) :: fI (f 8) :: .ref 72 :: fI (f 10) :: fI (f 11) :: fI (f 12) :: fJ (f 13) :: fI (f 14) :: fI (f 15) :: fI (f 16) :: fI (f 17) :: .ref 73 :: .ref 74 :: .ref 75 :: .ref 76 :: .ref 77 :: .ref 78 :: fI (f 24) :: .ref 79 :: .ref 80 :: .ref 81 :: .ref 82 :: .ref 83 :: .ref 84 :: .ref 85 :: fJ (f 32) :: fJ (f 33) :: .ref 86 :: .ref 87 :: fI (f 36) :: .ref 88 :: .ref 89 :: .ref 90 :: .ref 91 :: .ref 92 :: .ref 93 :: []))) ∧ (¬ (0 ≤ p ∧ p < pl - 1)) ∧ hfr [66] h h_q)) := by
  refine ik_Wk 2 (pc_q := 2) (loc_q := [some (.ref 66), some (fI p), some (fI 1), none]) (st_q := [fI p, .ref 66]) (h_q := h) (cl_q := 0) (sl_q := 0) rfl ?_
  refine ik_Wc 131 2 0 [.ref 66, fI p] [] rfl rfl rfl (by decide +kernel) rfl rfl (fw_rec hl rfl h66 rfl (Nat.le_of_ble_eq_true rfl)) ?_
  refine ik_Wk 0 (pc_q := 0) (loc_q := [some (.ref 66), some (fI p)]) (st_q := []) (h_q := h) (cl_q := 0) (sl_q := 0) rfl ?_
  refine ik_Wk 1 (pc_q := 1) (loc_q := [some (.ref 66), some (fI p)]) (st_q := [fI p]) (h_q := h) (cl_q := 0) (sl_q := 0) rfl ?_
  refine fw_i2l rfl (by omega) (by omega) ?_
  refine fw_lc (z := 0) rfl (by decide +kernel) ?_
  refine ik_Wk 1 (pc_q := 4) (loc_q := [some (.ref 66), some (fI p)]) (st_q := [.ref 66, fJ 0, fJ p]) (h_q := h) (cl_q := 0) (sl_q := 0) rfl ?_
  refine fw_gf rfl rfl h66 rfl ?_
  refine ik_Wk 1 (pc_q := 8) (loc_q := [some (.ref 66), some (fI p)]) (st_q := [fI 2, fI pl, fJ 0, fJ p]) (h_q := h) (cl_q := 0) (sl_q := 0) rfl ?_
  refine fw_sub rfl ?_
  refine fw_i2l rfl (by omega) (by omega) ?_
  refine fw_call 127 3 3 [fJ p, fJ 0, fJ (pl - 2)] [] rfl rfl rfl (Nat.le_of_ble_eq_true rfl) rfl rfl (fw_sta hl rfl (by decide +kernel)) (cr_in (v := p) (a := 0) (b := pl - 2) (by omega) (by omega) (by omega)  hl) ?_
  rintro _ h_447 (⟨rfl, p_447_0, F_447⟩ | ⟨rfl, p_447_0, F_447⟩)
  · have k_447 : cL h_447 := F_447.1.trans hl
    have fr_447 := hfr_cb (hfr_refl [66] h) F_447 rfl
    have g_447_66 := (hfr_g F_447 66 rfl).trans h66
    refine ik_Wk 0 (pc_q := 13) (loc_q := [some (.ref 66), some (fI p)]) (st_q := [fI 1]) (h_q := h_447) (cl_q := 0) (sl_q := 0) rfl ?_
    refine ik_Wret rfl rfl ⟨_, _, rfl, rfl, ?_⟩
    refine ik_Wk 0 (pc_q := 5) (loc_q := [some (.ref 66), some (fI p), some (fI 1), none]) (st_q := [fI 1]) (h_q := h_447) (cl_q := 0) (sl_q := 0) rfl ?_
    refine fw_if_ne rfl rfl (by decide +kernel) (by decide +kernel) (fun hc1 => absurd hc1 (by decide +kernel)) (fun hc1 => ?_)
    refine ik_Wk 1 (pc_q := 12) (loc_q := [some (.ref 66), some (fI p), some (fI 1), none]) (st_q := [.ref 66]) (h_q := h_447) (cl_q := 0) (sl_q := 0) rfl ?_
    refine fw_gf rfl rfl g_447_66 rfl ?_
    refine ik_Wk 1 (pc_q := 16) (loc_q := [some (.ref 66), some (fI p), some (fI 1), none]) (st_q := [fI p, fI ((s : Nat) : Int)]) (h_q := h_447) (cl_q := 0) (sl_q := 0) rfl ?_
    refine fx_shr (n := s) rfl (by omega) (by omega) (by omega) ?_
    refine ik_Wk 1 (pc_q := 18) (loc_q := [some (.ref 66), some (fI p), some (fI 1), none]) (st_q := [fI 1, fI ((s >>> p.toNat : Nat) : Int)]) (h_q := h_447) (cl_q := 0) (sl_q := 0) rfl ?_
    refine fx_bit (n := s) (k := p.toNat) rfl (fun hb2 => ?_) (fun hb2 => ?_)
    · refine ik_Wk 0 (pc_q := 19) (loc_q := [some (.ref 66), some (fI p), some (fI 1), none]) (st_q := [fI 1]) (h_q := h_447) (cl_q := 0) (sl_q := 0) rfl ?_
      refine ik_Wk 3 (pc_q := 22) (loc_q := [some (.ref 66), some (fI p), some (fI 1), some (fI 1)]) (st_q := [fI 1, .ref 66]) (h_q := h_447) (cl_q := 0) (sl_q := 0) rfl ?_
      refine fw_if_eq rfl rfl (by decide +kernel) (by decide +kernel) (fun hc3 => absurd hc3 (by decide +kernel)) (fun hc3 => ?_)
      refine ik_Wk 1 (pc_q := 26) (loc_q := [some (.ref 66), some (fI p), some (fI 1), some (fI 1)]) (st_q := [.ref 66, .ref 66]) (h_q := h_447) (cl_q := 0) (sl_q := 0) rfl ?_
      refine fw_gf rfl rfl g_447_66 rfl ?_
      refine ik_Wk 2 (pc_q := 31) (loc_q := [some (.ref 66), some (fI p), some (fI 1), some (fI 1)]) (st_q := [fI p, fI 1, fI ((s : Nat) : Int), .ref 66]) (h_q := h_447) (cl_q := 0) (sl_q := 0) rfl ?_
      refine fx_shl rfl (by omega) (by omega) ?_
      refine fx_or (m := s) (n := 1 <<< p.toNat) rfl ?_
      refine ik_Wk 1 (pc_q := 46) (loc_q := [some (.ref 66), some (fI p), some (fI 1), some (fI 1)]) (st_q := [fI ((s ||| (1 <<< p.toNat) : Nat) : Int), .ref 66]) (h_q := h_447) (cl_q := 0) (sl_q := 0) rfl ?_
      refine fx_pf rfl rfl g_447_66 (Nat.le_of_ble_eq_true rfl) rfl rfl ?_
      intro h_448 e_448 f_448 l_448
      have k_448 : cL h_448 := l_448.trans k_447
      have fr_448 := hfr_wb fr_447 f_448 l_448 rfl
      clear l_448
      have g_448_66 : cE h_448 66 (.inr (10, (fI pl :: .ref 67 :: .ref 68 :: .ref 69 :: fI ((s ||| (1 <<< p.toNat) : Nat) : Int) :: .ref 70 :: .ref 71 :: fI (f 7) :: fI (f 8) :: .ref 72 :: fI (f 10) :: fI (f 11) :: fI (f 12) :: fJ (f 13) :: fI (f 14) :: fI (f 15) :: fI (f 16) :: fI (f 17) :: .ref 73 :: .ref 74 :: .ref 75 :: .ref 76 :: .ref 77 :: .ref 78 :: fI (f 24) :: .ref 79 :: .ref 80 :: .ref 81 :: .ref 82 :: .ref 83 :: .ref 84 :: .ref 85 :: fJ (f 32) :: fJ (f 33) :: .ref 86 :: .ref 87 :: fI (f 36) :: .ref 88 :: .ref 89 :: .ref 90 :: .ref 91 :: .ref 92 :: .ref 93 :: []))) := e_448
      refine ik_Wk 1 (pc_q := 50) (loc_q := [some (.ref 66), some (fI p), some (fI 1), some (fI 1)]) (st_q := [fI 1]) (h_q := h_448) (cl_q := 0) (sl_q := 0) rfl ?_
      rw [mx_or_1 hb2] at g_448_66
      exact ik_Wret rfl rfl ⟨_, _, rfl, rfl, rfl, rfl, Or.inl ⟨rfl, g_448_66, hb2, (by omega), fr_448⟩⟩
    · refine ik_Wk 0 (pc_q := 19) (loc_q := [some (.ref 66), some (fI p), some (fI 1), none]) (st_q := [fI 0]) (h_q := h_447) (cl_q := 0) (sl_q := 0) rfl ?_
      refine ik_Wk 3 (pc_q := 22) (loc_q := [some (.ref 66), some (fI p), some (fI 1), some (fI 0)]) (st_q := [fI 1, .ref 66]) (h_q := h_447) (cl_q := 0) (sl_q := 0) rfl ?_
      refine fw_if_eq rfl rfl (by decide +kernel) (by decide +kernel) (fun hc4 => absurd hc4 (by decide +kernel)) (fun hc4 => ?_)
      refine ik_Wk 1 (pc_q := 26) (loc_q := [some (.ref 66), some (fI p), some (fI 1), some (fI 0)]) (st_q := [.ref 66, .ref 66]) (h_q := h_447) (cl_q := 0) (sl_q := 0) rfl ?_
      refine fw_gf rfl rfl g_447_66 rfl ?_
      refine ik_Wk 2 (pc_q := 31) (loc_q := [some (.ref 66), some (fI p), some (fI 1), some (fI 0)]) (st_q := [fI p, fI 1, fI ((s : Nat) : Int), .ref 66]) (h_q := h_447) (cl_q := 0) (sl_q := 0) rfl ?_
      refine fx_shl rfl (by omega) (by omega) ?_
      refine fx_or (m := s) (n := 1 <<< p.toNat) rfl ?_
      refine ik_Wk 1 (pc_q := 46) (loc_q := [some (.ref 66), some (fI p), some (fI 1), some (fI 0)]) (st_q := [fI ((s ||| (1 <<< p.toNat) : Nat) : Int), .ref 66]) (h_q := h_447) (cl_q := 0) (sl_q := 0) rfl ?_
      refine fx_pf rfl rfl g_447_66 (Nat.le_of_ble_eq_true rfl) rfl rfl ?_
      intro h_449 e_449 f_449 l_449
      have k_449 : cL h_449 := l_449.trans k_447
      have fr_449 := hfr_wb fr_447 f_449 l_449 rfl
      clear l_449
      have g_449_66 : cE h_449 66 (.inr (10, (fI pl :: .ref 67 :: .ref 68 :: .ref 69 :: fI ((s ||| (1 <<< p.toNat) : Nat) : Int) :: .ref 70 :: .ref 71 :: fI (f 7) :: fI (f 8) :: .ref 72 :: fI (f 10) :: fI (f 11) :: fI (f 12) :: fJ (f 13) :: fI (f 14) :: fI (f 15) :: fI (f 16) :: fI (f 17) :: .ref 73 :: .ref 74 :: .ref 75 :: .ref 76 :: .ref 77 :: .ref 78 :: fI (f 24) :: .ref 79 :: .ref 80 :: .ref 81 :: .ref 82 :: .ref 83 :: .ref 84 :: .ref 85 :: fJ (f 32) :: fJ (f 33) :: .ref 86 :: .ref 87 :: fI (f 36) :: .ref 88 :: .ref 89 :: .ref 90 :: .ref 91 :: .ref 92 :: .ref 93 :: []))) := e_449
      refine ik_Wk 1 (pc_q := 50) (loc_q := [some (.ref 66), some (fI p), some (fI 1), some (fI 0)]) (st_q := [fI 0]) (h_q := h_449) (cl_q := 0) (sl_q := 0) rfl ?_
      rw [mx_or_0 hb2] at g_449_66
      exact ik_Wret rfl rfl ⟨_, _, rfl, rfl, rfl, rfl, (Or.inr (Or.inl ⟨rfl, g_449_66, hb2, (by omega), fr_449⟩))⟩
  · have k_447 : cL h_447 := F_447.1.trans hl
    have fr_447 := hfr_cb (hfr_refl [66] h) F_447 rfl
    have g_447_66 := (hfr_g F_447 66 rfl).trans h66
    refine ik_Wk 0 (pc_q := 13) (loc_q := [some (.ref 66), some (fI p)]) (st_q := [fI 0]) (h_q := h_447) (cl_q := 0) (sl_q := 0) rfl ?_
    refine ik_Wret rfl rfl ⟨_, _, rfl, rfl, ?_⟩
    refine ik_Wk 0 (pc_q := 5) (loc_q := [some (.ref 66), some (fI p), some (fI 1), none]) (st_q := [fI 0]) (h_q := h_447) (cl_q := 0) (sl_q := 0) rfl ?_
    refine fw_if_ne rfl rfl (by decide +kernel) (by decide +kernel) (fun hc5 => ?_) (fun hc5 => absurd hc5 (by decide +kernel))
    refine fw_ld (-1000000001) rfl rfl (by decide +kernel) ?_
    exact ik_Wret rfl rfl ⟨_, _, rfl, rfl, rfl, rfl, (Or.inr (Or.inr ⟨rfl, g_447_66, (by omega), fr_447⟩))⟩

theorem cp_run {h : List ik_E} {pl : Int} {st : Int} {lo : Int} {p : Int} {t : Int} {r : Int} {rp : List Int} {rt : List Int} (q0 : 0 ≤ pl ∧ pl ≤ 12) (q1 : 0 ≤ r ∧ r ≤ 12) (q2 : -2147483648 ≤ p ∧ p < 2147483648) (q3 : -2147483648 ≤ t ∧ t < 2147483648) (h0 : cE h 0 (.inr (9, [.ref 1, .ref 7, .ref 14, .ref 17, .ref 45, .ref 51, .ref 54, .ref 57]))) (h7 : cE h 7 (.inr (0, [fI pl, fI st, fI lo, .ref 8, .ref 9, .ref 10, .ref 11, .ref 12, .ref 13]))) (h51 : cE h 51 (.inr (7, [.ref 7, fI r, .ref 52, .ref 53]))) (h52 : cE h 52 (.inl (.int, fA rp))) (n52 : rp.length = 12) (h53 : cE h 53 (.inl (.int, fA rt))) (n53 : rt.length = 12) (hl : h.length = 94) : ik_F 105 [.ref 0, fI p, fI t] h (fun rv h_q => (rv = [fI (r + 1)] ∧ cE h_q 51 (.inr (7, [.ref 7, fI (r + 1), .ref 52, .ref 53])) ∧ cE h_q 52 (.inl (.int, fA (rp.set r.toNat p))) ∧ (rp.set r.toNat p).length = 12 ∧ cE h_q 53 (.inl (.int, fA (rt.set r.toNat t))) ∧ (rt.set r.toNat t).length = 12 ∧ ((0 ≤ p ∧ p < pl - 1) ∧ (1 ≤ t ∧ t ≤ 200) ∧ r < 12) ∧ hfr [51, 52, 53] h h_q) ∨ (rv = [fI (an_rn pl p t)] ∧ cE h_q 51 (.inr (7, [.ref 7, fI r, .ref 52, .ref 53])) ∧ cE h_q 52 (.inl (.int, fA rp)) ∧ rp.length = 12 ∧ cE h_q 53 (.inl (.int, fA rt)) ∧ rt.length = 12 ∧ (¬ ((0 ≤ p ∧ p < pl - 1) ∧ (1 ≤ t ∧ t ≤ 200) ∧ r < 12)) ∧ hfr [51, 52, 53] h h_q)) := by
  refine ik_Wk 1 (pc_q := 1) (loc_q := [some (.ref 0), some (fI p), some (fI t)]) (st_q := [.ref 0]) (h_q := h) (cl_q := 0) (sl_q := 0) rfl ?_
  refine fw_gf rfl rfl h0 rfl ?_
  refine ik_Wk 1 (pc_q := 5) (loc_q := [some (.ref 0), some (fI p), some (fI t)]) (st_q := [fI p, .ref 7]) (h_q := h) (cl_q := 0) (sl_q := 0) rfl ?_
  refine ik_Wc 4 2 0 [.ref 7, fI p] [] rfl rfl rfl (by decide +kernel) rfl rfl (fw_rec hl rfl h7 rfl (Nat.le_of_ble_eq_true rfl)) ?_
  refine ik_Wk 0 (pc_q := 0) (loc_q := [some (.ref 7), some (fI p)]) (st_q := []) (h_q := h) (cl_q := 0) (sl_q := 0) rfl ?_
  refine ik_Wk 1 (pc_q := 1) (loc_q := [some (.ref 7), some (fI p)]) (st_q := [fI p]) (h_q := h) (cl_q := 0) (sl_q := 0) rfl ?_
  refine fw_if_lt rfl rfl (by omega) (by omega) (fun hc1 => ?_) (fun hc1 => ?_)
  · refine ik_Wk 1 (pc_q := 19) (loc_q := [some (.ref 7), some (fI p)]) (st_q := [fI 0]) (h_q := h) (cl_q := 0) (sl_q := 0) rfl ?_
    refine ik_Wret rfl rfl ⟨_, _, rfl, rfl, ?_⟩
    refine ik_Wk 0 (pc_q := 8) (loc_q := [some (.ref 0), some (fI p), some (fI t)]) (st_q := [fI 0]) (h_q := h) (cl_q := 0) (sl_q := 0) rfl ?_
    refine fw_if_ne rfl rfl (by decide +kernel) (by decide +kernel) (fun hc2 => ?_) (fun hc2 => absurd hc2 (by decide +kernel))
    refine fw_ld (-1000000001) rfl rfl (by decide +kernel) ?_
    exact ik_Wret rfl rfl ⟨_, _, rfl, rfl, rfl, rfl, Or.inr ⟨(congrArg (fun z => [fI z]) (by unfold an_rn; (repeat' split) <;> first | rfl | omega)), h51, h52, n52, h53, n53, (by omega), (hfr_refl [51, 52, 53] h)⟩⟩
  · refine ik_Wk 2 (pc_q := 6) (loc_q := [some (.ref 7), some (fI p)]) (st_q := [.ref 7, fI p]) (h_q := h) (cl_q := 0) (sl_q := 0) rfl ?_
    refine fw_gf rfl rfl h7 rfl ?_
    refine ik_Wk 1 (pc_q := 10) (loc_q := [some (.ref 7), some (fI p)]) (st_q := [fI 1, fI pl, fI p]) (h_q := h) (cl_q := 0) (sl_q := 0) rfl ?_
    refine fw_sub rfl ?_
    refine fw_ic_ge rfl rfl (by omega) (by omega) (by omega) (by omega) (fun hc3 => ?_) (fun hc3 => ?_)
    · refine ik_Wk 1 (pc_q := 19) (loc_q := [some (.ref 7), some (fI p)]) (st_q := [fI 0]) (h_q := h) (cl_q := 0) (sl_q := 0) rfl ?_
      refine ik_Wret rfl rfl ⟨_, _, rfl, rfl, ?_⟩
      refine ik_Wk 0 (pc_q := 8) (loc_q := [some (.ref 0), some (fI p), some (fI t)]) (st_q := [fI 0]) (h_q := h) (cl_q := 0) (sl_q := 0) rfl ?_
      refine fw_if_ne rfl rfl (by decide +kernel) (by decide +kernel) (fun hc4 => ?_) (fun hc4 => absurd hc4 (by decide +kernel))
      refine fw_ld (-1000000001) rfl rfl (by decide +kernel) ?_
      exact ik_Wret rfl rfl ⟨_, _, rfl, rfl, rfl, rfl, Or.inr ⟨(congrArg (fun z => [fI z]) (by unfold an_rn; (repeat' split) <;> first | rfl | omega)), h51, h52, n52, h53, n53, (by omega), (hfr_refl [51, 52, 53] h)⟩⟩
    · refine ik_Wk 2 (pc_q := 19) (loc_q := [some (.ref 7), some (fI p)]) (st_q := [fI 1]) (h_q := h) (cl_q := 0) (sl_q := 0) rfl ?_
      refine ik_Wret rfl rfl ⟨_, _, rfl, rfl, ?_⟩
      refine ik_Wk 0 (pc_q := 8) (loc_q := [some (.ref 0), some (fI p), some (fI t)]) (st_q := [fI 1]) (h_q := h) (cl_q := 0) (sl_q := 0) rfl ?_
      refine fw_if_ne rfl rfl (by decide +kernel) (by decide +kernel) (fun hc5 => absurd hc5 (by decide +kernel)) (fun hc5 => ?_)
      refine ik_Wk 2 (pc_q := 16) (loc_q := [some (.ref 0), some (fI p), some (fI t)]) (st_q := [fI 1, fI t]) (h_q := h) (cl_q := 0) (sl_q := 0) rfl ?_
      refine fw_ic_lt rfl rfl (by omega) (by omega) (by omega) (by omega) (fun hc6 => ?_) (fun hc6 => ?_)
      · refine fw_ld (-1000000002) rfl rfl (by decide +kernel) ?_
        exact ik_Wret rfl rfl ⟨_, _, rfl, rfl, rfl, rfl, Or.inr ⟨(congrArg (fun z => [fI z]) (by unfold an_rn; (repeat' split) <;> first | rfl | omega)), h51, h52, n52, h53, n53, (by omega), (hfr_refl [51, 52, 53] h)⟩⟩
      · refine ik_Wk 1 (pc_q := 20) (loc_q := [some (.ref 0), some (fI p), some (fI t)]) (st_q := [fI t]) (h_q := h) (cl_q := 0) (sl_q := 0) rfl ?_
        refine fw_si rfl (by decide +kernel) ?_
        refine fw_ic_le rfl rfl (by omega) (by omega) (by omega) (by omega) (fun hc7 => ?_) (fun hc7 => ?_)
        · refine ik_Wk 1 (pc_q := 30) (loc_q := [some (.ref 0), some (fI p), some (fI t)]) (st_q := [.ref 0]) (h_q := h) (cl_q := 0) (sl_q := 0) rfl ?_
          refine fw_gf rfl rfl h0 rfl ?_
          refine fw_gf rfl rfl h51 rfl ?_
          refine fw_bi rfl (by decide +kernel) ?_
          refine fw_ic_lt rfl rfl (by omega) (by omega) (by omega) (by omega) (fun hc8 => ?_) (fun hc8 => ?_)
          · refine ik_Wk 1 (pc_q := 45) (loc_q := [some (.ref 0), some (fI p), some (fI t)]) (st_q := [.ref 0]) (h_q := h) (cl_q := 0) (sl_q := 0) rfl ?_
            refine fw_gf rfl rfl h0 rfl ?_
            refine ik_Wk 2 (pc_q := 50) (loc_q := [some (.ref 0), some (fI p), some (fI t)]) (st_q := [fI t, fI p, .ref 51]) (h_q := h) (cl_q := 0) (sl_q := 0) rfl ?_
            refine ik_Wc 69 3 0 [.ref 51, fI p, fI t] [] rfl rfl rfl (by decide +kernel) rfl rfl (fw_rec hl rfl h51 rfl (Nat.le_of_ble_eq_true rfl)) ?_
            refine ik_Wk 0 (pc_q := 0) (loc_q := [some (.ref 51), some (fI p), some (fI t)]) (st_q := []) (h_q := h) (cl_q := 0) (sl_q := 0) rfl ?_
            refine ik_Wk 1 (pc_q := 1) (loc_q := [some (.ref 51), some (fI p), some (fI t)]) (st_q := [.ref 51]) (h_q := h) (cl_q := 0) (sl_q := 0) rfl ?_
            refine fw_gf rfl rfl h51 rfl ?_
            refine ik_Wk 1 (pc_q := 5) (loc_q := [some (.ref 51), some (fI p), some (fI t)]) (st_q := [.ref 51, .ref 52]) (h_q := h) (cl_q := 0) (sl_q := 0) rfl ?_
            refine fw_gf rfl rfl h51 rfl ?_
            refine ik_Wk 1 (pc_q := 9) (loc_q := [some (.ref 51), some (fI p), some (fI t)]) (st_q := [fI p, fI r, .ref 52]) (h_q := h) (cl_q := 0) (sl_q := 0) rfl ?_
            have hl9 : (rp.set r.toNat p).length = 12 := (List.length_set ..).trans n52
            refine fx_ias rfl h52 (by omega) (by omega) (by omega) ?_
            intro h_450 e_450 f_450 l_450
            have k_450 : cL h_450 := l_450.trans hl
            have fr_450 := hfr_wb (hfr_refl [51, 52, 53] h) f_450 l_450 rfl
            clear l_450
            have g_450_0 := (f_450 0 (Nat.ne_of_beq_eq_false rfl)).trans h0
            have g_450_7 := (f_450 7 (Nat.ne_of_beq_eq_false rfl)).trans h7
            have g_450_51 := (f_450 51 (Nat.ne_of_beq_eq_false rfl)).trans h51
            have g_450_53 := (f_450 53 (Nat.ne_of_beq_eq_false rfl)).trans h53
            have g_450_52 : cE h_450 52 (.inl (.int, fA (rp.set r.toNat p))) := e_450
            refine ik_Wk 1 (pc_q := 11) (loc_q := [some (.ref 51), some (fI p), some (fI t)]) (st_q := [.ref 51]) (h_q := h_450) (cl_q := 0) (sl_q := 0) rfl ?_
            refine fw_gf rfl rfl g_450_51 rfl ?_
            refine ik_Wk 1 (pc_q := 15) (loc_q := [some (.ref 51), some (fI p), some (fI t)]) (st_q := [.ref 51, .ref 53]) (h_q := h_450) (cl_q := 0) (sl_q := 0) rfl ?_
            refine fw_gf rfl rfl g_450_51 rfl ?_
            refine ik_Wk 1 (pc_q := 19) (loc_q := [some (.ref 51), some (fI p), some (fI t)]) (st_q := [fI t, fI r, .ref 53]) (h_q := h_450) (cl_q := 0) (sl_q := 0) rfl ?_
            have hl10 : (rt.set r.toNat t).length = 12 := (List.length_set ..).trans n53
            refine fx_ias rfl g_450_53 (by omega) (by omega) (by omega) ?_
            intro h_451 e_451 f_451 l_451
            have k_451 : cL h_451 := l_451.trans k_450
            have fr_451 := hfr_wb fr_450 f_451 l_451 rfl
            clear l_451
            have g_451_0 := (f_451 0 (Nat.ne_of_beq_eq_false rfl)).trans g_450_0
            have g_451_7 := (f_451 7 (Nat.ne_of_beq_eq_false rfl)).trans g_450_7
            have g_451_51 := (f_451 51 (Nat.ne_of_beq_eq_false rfl)).trans g_450_51
            have g_451_52 := (f_451 52 (Nat.ne_of_beq_eq_false rfl)).trans g_450_52
            have g_451_53 : cE h_451 53 (.inl (.int, fA (rt.set r.toNat t))) := e_451
            refine ik_Wk 2 (pc_q := 22) (loc_q := [some (.ref 51), some (fI p), some (fI t)]) (st_q := [.ref 51, .ref 51]) (h_q := h_451) (cl_q := 0) (sl_q := 0) rfl ?_
            refine fw_gf rfl rfl g_451_51 rfl ?_
            refine ik_Wk 1 (pc_q := 26) (loc_q := [some (.ref 51), some (fI p), some (fI t)]) (st_q := [fI 1, fI r, .ref 51]) (h_q := h_451) (cl_q := 0) (sl_q := 0) rfl ?_
            refine fw_add rfl ?_
            refine fx_pf rfl rfl g_451_51 (Nat.le_of_ble_eq_true rfl) rfl rfl ?_
            intro h_452 e_452 f_452 l_452
            have k_452 : cL h_452 := l_452.trans k_451
            have fr_452 := hfr_wb fr_451 f_452 l_452 rfl
            clear l_452
            have g_452_0 := (f_452 0 (Nat.ne_of_beq_eq_false rfl)).trans g_451_0
            have g_452_7 := (f_452 7 (Nat.ne_of_beq_eq_false rfl)).trans g_451_7
            have g_452_52 := (f_452 52 (Nat.ne_of_beq_eq_false rfl)).trans g_451_52
            have g_452_53 := (f_452 53 (Nat.ne_of_beq_eq_false rfl)).trans g_451_53
            have g_452_51 : cE h_452 51 (.inr (7, [.ref 7, fI (r + 1), .ref 52, .ref 53])) := e_452
            refine ik_Wk 1 (pc_q := 31) (loc_q := [some (.ref 51), some (fI p), some (fI t)]) (st_q := [.ref 51]) (h_q := h_452) (cl_q := 0) (sl_q := 0) rfl ?_
            refine fw_gf rfl rfl g_452_51 rfl ?_
            refine ik_Wret rfl rfl ⟨_, _, rfl, rfl, ?_⟩
            refine ik_Wk 0 (pc_q := 53) (loc_q := [some (.ref 0), some (fI p), some (fI t)]) (st_q := [fI (r + 1)]) (h_q := h_452) (cl_q := 0) (sl_q := 0) rfl ?_
            exact ik_Wret rfl rfl ⟨_, _, rfl, rfl, rfl, rfl, Or.inl ⟨rfl, g_452_51, g_452_52, hl9, g_452_53, hl10, (by omega), fr_452⟩⟩
          · refine fw_ld (-1000000004) rfl rfl (by decide +kernel) ?_
            exact ik_Wret rfl rfl ⟨_, _, rfl, rfl, rfl, rfl, Or.inr ⟨(congrArg (fun z => [fI z]) (by unfold an_rn; (repeat' split) <;> first | rfl | omega)), h51, h52, n52, h53, n53, (by omega), (hfr_refl [51, 52, 53] h)⟩⟩
        · refine fw_ld (-1000000002) rfl rfl (by decide +kernel) ?_
          exact ik_Wret rfl rfl ⟨_, _, rfl, rfl, rfl, rfl, Or.inr ⟨(congrArg (fun z => [fI z]) (by unfold an_rn; (repeat' split) <;> first | rfl | omega)), h51, h52, n52, h53, n53, (by omega), (hfr_refl [51, 52, 53] h)⟩⟩

theorem rp_run {h : List ik_E} {f : Nat → Int} {pl : Int} {p : Int} {t : Int} {r : Int} {rp : List Int} {rt : List Int} (q0 : 0 ≤ pl ∧ pl ≤ 12) (q1 : 0 ≤ r ∧ r ≤ 12) (q2 : -2147483648 ≤ p ∧ p < 2147483648) (q3 : -2147483648 ≤ t ∧ t < 2147483648) (h66 : cE h 66 (.inr (10, (fI pl :: .ref 67 :: .ref 68 :: .ref 69 :: fI (f 4) :: .ref 70 :: .ref 71 :: fI (f 7) :: fI (f 8) :: .ref 72 :: fI (f 10) :: fI (f 11) :: fI (f 12) :: fJ (f 13) :: fI (f 14) :: fI (f 15) :: fI (f 16) :: fI (f 17) :: .ref 73 :: .ref 74 :: .ref 75 :: .ref 76 :: .ref 77 :: .ref 78 :: fI (f 24) :: .ref 79 :: .ref 80 :: .ref 81 :: .ref 82 :: .ref 83 :: .ref 84 :: .ref 85 :: fJ (f 32) :: fJ (f 33) :: .ref 86 :: .ref 87 :: fI r :: .ref 88 :: .ref 89 :: .ref 90 :: .ref 91 :: .ref 92 :: .ref 93 :: [])))) (h88 : cE h 88 (.inl (.int, fA rp))) (n88 : rp.length = 12) (h89 : cE h 89 (.inl (.int, fA rt))) (n89 : rt.length = 12) (hl : h.length = 94) : ik_F 183 [.ref 66, fI p, fI t] h (fun rv h_q => (rv = [fI (r + 1)] ∧ cE h_q 66 (.inr (10, (fI pl :: .ref 67 :: .ref 68 :: .ref 69 :: fI (f 4) :: .ref 70 :: .ref 71 :: fI (f 7) :: fI (f 8) :: .ref 72 :: fI (f 10) :: fI (f 11) :: fI (f 12) :: fJ (f 13) :: fI (f 14) :: fI (f 15) :: fI (f 16) :: fI (f 17) :: .ref 73 :: .ref 74 :: .ref 75 :: .ref 76 :: .ref 77 :: .ref 78 :: fI (f 24) :: .ref 79 :: .ref 80 :: .ref 81 :: .ref 82 :: .ref 83 :: .ref 84 :: .ref 85 :: fJ (f 32) :: fJ (f 33) :: .ref 86 :: .ref 87 :: fI (r + 1) :: .ref 88 :: .ref 89 :: .ref 90 :: .ref 91 :: .ref 92 :: .ref 93 :: []))) ∧ cE h_q 88 (.inl (.int, fA (rp.set r.toNat p))) ∧ (rp.set r.toNat p).length = 12 ∧ cE h_q 89 (.inl (.int, fA (rt.set r.toNat t))) ∧ (rt.set r.toNat t).length = 12 ∧ ((0 ≤ p ∧ p < pl - 1) ∧ (1 ≤ t ∧ t ≤ 200) ∧ r < 12) ∧ hfr [66, 88, 89] h h_q) ∨ (rv = [fI (an_rn pl p t)] ∧ cE h_q 66 (.inr (10, (fI pl :: .ref 67 :: .ref 68 :: .ref 69 :: fI (f 4) :: .ref 70 :: .ref 71 :: fI (f 7) :: fI (f 8) :: .ref 72 :: fI (f 10) :: fI (f 11) :: fI (f 12) :: fJ (f 13) :: fI (f 14) :: fI (f 15) :: fI (f 16) :: fI (f 17) :: .ref 73 :: .ref 74 :: .ref 75 :: .ref 76 :: .ref 77 :: .ref 78 :: fI (f 24) :: .ref 79 :: .ref 80 :: .ref 81 :: .ref 82 :: .ref 83 :: .ref 84 :: .ref 85 :: fJ (f 32) :: fJ (f 33) :: .ref 86 :: .ref 87 :: fI r :: .ref 88 :: .ref 89 :: .ref 90 :: .ref 91 :: .ref 92 :: .ref 93 :: []))) ∧ cE h_q 88 (.inl (.int, fA rp)) ∧ rp.length = 12 ∧ cE h_q 89 (.inl (.int, fA rt)) ∧ rt.length = 12 ∧ (¬ ((0 ≤ p ∧ p < pl - 1) ∧ (1 ≤ t ∧ t ≤ 200) ∧ r < 12)) ∧ hfr [66, 88, 89] h h_q)) := by
  refine ik_Wk 2 (pc_q := 2) (loc_q := [some (.ref 66), some (fI p), some (fI t)]) (st_q := [fI p, .ref 66]) (h_q := h) (cl_q := 0) (sl_q := 0) rfl ?_
  refine ik_Wc 131 2 0 [.ref 66, fI p] [] rfl rfl rfl (by decide +kernel) rfl rfl (fw_rec hl rfl h66 rfl (Nat.le_of_ble_eq_true rfl)) ?_
  refine ik_Wk 0 (pc_q := 0) (loc_q := [some (.ref 66), some (fI p)]) (st_q := []) (h_q := h) (cl_q := 0) (sl_q := 0) rfl ?_
  refine ik_Wk 1 (pc_q := 1) (loc_q := [some (.ref 66), some (fI p)]) (st_q := [fI p]) (h_q := h) (cl_q := 0) (sl_q := 0) rfl ?_
  refine fw_i2l rfl (by omega) (by omega) ?_
  refine fw_lc (z := 0) rfl (by decide +kernel) ?_
  refine ik_Wk 1 (pc_q := 4) (loc_q := [some (.ref 66), some (fI p)]) (st_q := [.ref 66, fJ 0, fJ p]) (h_q := h) (cl_q := 0) (sl_q := 0) rfl ?_
  refine fw_gf rfl rfl h66 rfl ?_
  refine ik_Wk 1 (pc_q := 8) (loc_q := [some (.ref 66), some (fI p)]) (st_q := [fI 2, fI pl, fJ 0, fJ p]) (h_q := h) (cl_q := 0) (sl_q := 0) rfl ?_
  refine fw_sub rfl ?_
  refine fw_i2l rfl (by omega) (by omega) ?_
  refine fw_call 127 3 3 [fJ p, fJ 0, fJ (pl - 2)] [] rfl rfl rfl (Nat.le_of_ble_eq_true rfl) rfl rfl (fw_sta hl rfl (by decide +kernel)) (cr_in (v := p) (a := 0) (b := pl - 2) (by omega) (by omega) (by omega)  hl) ?_
  rintro _ h_453 (⟨rfl, p_453_0, F_453⟩ | ⟨rfl, p_453_0, F_453⟩)
  · have k_453 : cL h_453 := F_453.1.trans hl
    have fr_453 := hfr_cb (hfr_refl [66, 88, 89] h) F_453 rfl
    have g_453_66 := (hfr_g F_453 66 rfl).trans h66
    have g_453_88 := (hfr_g F_453 88 rfl).trans h88
    have g_453_89 := (hfr_g F_453 89 rfl).trans h89
    refine ik_Wk 0 (pc_q := 13) (loc_q := [some (.ref 66), some (fI p)]) (st_q := [fI 1]) (h_q := h_453) (cl_q := 0) (sl_q := 0) rfl ?_
    refine ik_Wret rfl rfl ⟨_, _, rfl, rfl, ?_⟩
    refine ik_Wk 0 (pc_q := 5) (loc_q := [some (.ref 66), some (fI p), some (fI t)]) (st_q := [fI 1]) (h_q := h_453) (cl_q := 0) (sl_q := 0) rfl ?_
    refine fw_if_ne rfl rfl (by decide +kernel) (by decide +kernel) (fun hc1 => absurd hc1 (by decide +kernel)) (fun hc1 => ?_)
    refine ik_Wk 1 (pc_q := 12) (loc_q := [some (.ref 66), some (fI p), some (fI t)]) (st_q := [fI t]) (h_q := h_453) (cl_q := 0) (sl_q := 0) rfl ?_
    refine fw_i2l rfl (by omega) (by omega) ?_
    refine fw_lc (z := 1) rfl (by decide +kernel) ?_
    refine fw_l2 200 rfl rfl (by decide +kernel) ?_
    refine fw_call 127 3 3 [fJ t, fJ 1, fJ 200] [] rfl rfl rfl (Nat.le_of_ble_eq_true rfl) rfl rfl (fw_sta k_453 rfl (by decide +kernel)) (cr_in (v := t) (a := 1) (b := 200) (by omega) (by omega) (by omega)  k_453) ?_
    rintro _ h_454 (⟨rfl, p_454_0, F_454⟩ | ⟨rfl, p_454_0, F_454⟩)
    · have k_454 : cL h_454 := F_454.1.trans k_453
      have fr_454 := hfr_cb fr_453 F_454 rfl
      have g_454_66 := (hfr_g F_454 66 rfl).trans g_453_66
      have g_454_88 := (hfr_g F_454 88 rfl).trans g_453_88
      have g_454_89 := (hfr_g F_454 89 rfl).trans g_453_89
      refine ik_Wk 0 (pc_q := 20) (loc_q := [some (.ref 66), some (fI p), some (fI t)]) (st_q := [fI 1]) (h_q := h_454) (cl_q := 0) (sl_q := 0) rfl ?_
      refine fw_if_ne rfl rfl (by decide +kernel) (by decide +kernel) (fun hc2 => absurd hc2 (by decide +kernel)) (fun hc2 => ?_)
      refine ik_Wk 1 (pc_q := 27) (loc_q := [some (.ref 66), some (fI p), some (fI t)]) (st_q := [.ref 66]) (h_q := h_454) (cl_q := 0) (sl_q := 0) rfl ?_
      refine fw_gf rfl rfl g_454_66 rfl ?_
      refine fw_bi rfl (by decide +kernel) ?_
      refine fw_ic_ne rfl rfl (by omega) (by omega) (by omega) (by omega) (fun hc3 => ?_) (fun hc3 => ?_)
      · refine fw_ld (-1000000004) rfl rfl (by decide +kernel) ?_
        exact ik_Wret rfl rfl ⟨_, _, rfl, rfl, rfl, rfl, Or.inr ⟨(congrArg (fun z => [fI z]) (by unfold an_rn; (repeat' split) <;> first | rfl | omega)), g_454_66, g_454_88, n88, g_454_89, n89, (by omega), fr_454⟩⟩
      · refine ik_Wk 1 (pc_q := 39) (loc_q := [some (.ref 66), some (fI p), some (fI t)]) (st_q := [.ref 66]) (h_q := h_454) (cl_q := 0) (sl_q := 0) rfl ?_
        refine fw_gf rfl rfl g_454_66 rfl ?_
        refine ik_Wk 1 (pc_q := 43) (loc_q := [some (.ref 66), some (fI p), some (fI t)]) (st_q := [.ref 66, .ref 88]) (h_q := h_454) (cl_q := 0) (sl_q := 0) rfl ?_
        refine fw_gf rfl rfl g_454_66 rfl ?_
        refine ik_Wk 1 (pc_q := 47) (loc_q := [some (.ref 66), some (fI p), some (fI t)]) (st_q := [fI p, fI r, .ref 88]) (h_q := h_454) (cl_q := 0) (sl_q := 0) rfl ?_
        have hl4 : (rp.set r.toNat p).length = 12 := (List.length_set ..).trans n88
        refine fx_ias rfl g_454_88 (by omega) (by omega) (by omega) ?_
        intro h_455 e_455 f_455 l_455
        have k_455 : cL h_455 := l_455.trans k_454
        have fr_455 := hfr_wb fr_454 f_455 l_455 rfl
        clear l_455
        have g_455_66 := (f_455 66 (Nat.ne_of_beq_eq_false rfl)).trans g_454_66
        have g_455_89 := (f_455 89 (Nat.ne_of_beq_eq_false rfl)).trans g_454_89
        have g_455_88 : cE h_455 88 (.inl (.int, fA (rp.set r.toNat p))) := e_455
        refine ik_Wk 1 (pc_q := 49) (loc_q := [some (.ref 66), some (fI p), some (fI t)]) (st_q := [.ref 66]) (h_q := h_455) (cl_q := 0) (sl_q := 0) rfl ?_
        refine fw_gf rfl rfl g_455_66 rfl ?_
        refine ik_Wk 1 (pc_q := 53) (loc_q := [some (.ref 66), some (fI p), some (fI t)]) (st_q := [.ref 66, .ref 89]) (h_q := h_455) (cl_q := 0) (sl_q := 0) rfl ?_
        refine fw_gf rfl rfl g_455_66 rfl ?_
        refine ik_Wk 1 (pc_q := 57) (loc_q := [some (.ref 66), some (fI p), some (fI t)]) (st_q := [fI t, fI r, .ref 89]) (h_q := h_455) (cl_q := 0) (sl_q := 0) rfl ?_
        have hl5 : (rt.set r.toNat t).length = 12 := (List.length_set ..).trans n89
        refine fx_ias rfl g_455_89 (by omega) (by omega) (by omega) ?_
        intro h_456 e_456 f_456 l_456
        have k_456 : cL h_456 := l_456.trans k_455
        have fr_456 := hfr_wb fr_455 f_456 l_456 rfl
        clear l_456
        have g_456_66 := (f_456 66 (Nat.ne_of_beq_eq_false rfl)).trans g_455_66
        have g_456_88 := (f_456 88 (Nat.ne_of_beq_eq_false rfl)).trans g_455_88
        have g_456_89 : cE h_456 89 (.inl (.int, fA (rt.set r.toNat t))) := e_456
        refine ik_Wk 2 (pc_q := 60) (loc_q := [some (.ref 66), some (fI p), some (fI t)]) (st_q := [.ref 66, .ref 66]) (h_q := h_456) (cl_q := 0) (sl_q := 0) rfl ?_
        refine fw_gf rfl rfl g_456_66 rfl ?_
        refine ik_Wk 1 (pc_q := 64) (loc_q := [some (.ref 66), some (fI p), some (fI t)]) (st_q := [fI 1, fI r, .ref 66]) (h_q := h_456) (cl_q := 0) (sl_q := 0) rfl ?_
        refine fw_add rfl ?_
        refine fx_pf rfl rfl g_456_66 (Nat.le_of_ble_eq_true rfl) rfl rfl ?_
        intro h_457 e_457 f_457 l_457
        have k_457 : cL h_457 := l_457.trans k_456
        have fr_457 := hfr_wb fr_456 f_457 l_457 rfl
        clear l_457
        have g_457_88 := (f_457 88 (Nat.ne_of_beq_eq_false rfl)).trans g_456_88
        have g_457_89 := (f_457 89 (Nat.ne_of_beq_eq_false rfl)).trans g_456_89
        have g_457_66 : cE h_457 66 (.inr (10, (fI pl :: .ref 67 :: .ref 68 :: .ref 69 :: fI (f 4) :: .ref 70 :: .ref 71 :: fI (f 7) :: fI (f 8) :: .ref 72 :: fI (f 10) :: fI (f 11) :: fI (f 12) :: fJ (f 13) :: fI (f 14) :: fI (f 15) :: fI (f 16) :: fI (f 17) :: .ref 73 :: .ref 74 :: .ref 75 :: .ref 76 :: .ref 77 :: .ref 78 :: fI (f 24) :: .ref 79 :: .ref 80 :: .ref 81 :: .ref 82 :: .ref 83 :: .ref 84 :: .ref 85 :: fJ (f 32) :: fJ (f 33) :: .ref 86 :: .ref 87 :: fI (r + 1) :: .ref 88 :: .ref 89 :: .ref 90 :: .ref 91 :: .ref 92 :: .ref 93 :: []))) := e_457
        refine ik_Wk 1 (pc_q := 69) (loc_q := [some (.ref 66), some (fI p), some (fI t)]) (st_q := [.ref 66]) (h_q := h_457) (cl_q := 0) (sl_q := 0) rfl ?_
        refine fw_gf rfl rfl g_457_66 rfl ?_
        exact ik_Wret rfl rfl ⟨_, _, rfl, rfl, rfl, rfl, Or.inl ⟨rfl, g_457_66, g_457_88, hl4, g_457_89, hl5, (by omega), fr_457⟩⟩
    · have k_454 : cL h_454 := F_454.1.trans k_453
      have fr_454 := hfr_cb fr_453 F_454 rfl
      have g_454_66 := (hfr_g F_454 66 rfl).trans g_453_66
      have g_454_88 := (hfr_g F_454 88 rfl).trans g_453_88
      have g_454_89 := (hfr_g F_454 89 rfl).trans g_453_89
      refine ik_Wk 0 (pc_q := 20) (loc_q := [some (.ref 66), some (fI p), some (fI t)]) (st_q := [fI 0]) (h_q := h_454) (cl_q := 0) (sl_q := 0) rfl ?_
      refine fw_if_ne rfl rfl (by decide +kernel) (by decide +kernel) (fun hc6 => ?_) (fun hc6 => absurd hc6 (by decide +kernel))
      refine fw_ld (-1000000002) rfl rfl (by decide +kernel) ?_
      exact ik_Wret rfl rfl ⟨_, _, rfl, rfl, rfl, rfl, Or.inr ⟨(congrArg (fun z => [fI z]) (by unfold an_rn; (repeat' split) <;> first | rfl | omega)), g_454_66, g_454_88, n88, g_454_89, n89, (by omega), fr_454⟩⟩
  · have k_453 : cL h_453 := F_453.1.trans hl
    have fr_453 := hfr_cb (hfr_refl [66, 88, 89] h) F_453 rfl
    have g_453_66 := (hfr_g F_453 66 rfl).trans h66
    have g_453_88 := (hfr_g F_453 88 rfl).trans h88
    have g_453_89 := (hfr_g F_453 89 rfl).trans h89
    refine ik_Wk 0 (pc_q := 13) (loc_q := [some (.ref 66), some (fI p)]) (st_q := [fI 0]) (h_q := h_453) (cl_q := 0) (sl_q := 0) rfl ?_
    refine ik_Wret rfl rfl ⟨_, _, rfl, rfl, ?_⟩
    refine ik_Wk 0 (pc_q := 5) (loc_q := [some (.ref 66), some (fI p), some (fI t)]) (st_q := [fI 0]) (h_q := h_453) (cl_q := 0) (sl_q := 0) rfl ?_
    refine fw_if_ne rfl rfl (by decide +kernel) (by decide +kernel) (fun hc7 => ?_) (fun hc7 => absurd hc7 (by decide +kernel))
    refine fw_ld (-1000000001) rfl rfl (by decide +kernel) ?_
    exact ik_Wret rfl rfl ⟨_, _, rfl, rfl, rfl, rfl, Or.inr ⟨(congrArg (fun z => [fI z]) (by unfold an_rn; (repeat' split) <;> first | rfl | omega)), g_453_66, g_453_88, n88, g_453_89, n89, (by omega), fr_453⟩⟩

theorem cp_forget {h : List ik_E} {r : Int}  (h0 : cE h 0 (.inr (9, [.ref 1, .ref 7, .ref 14, .ref 17, .ref 45, .ref 51, .ref 54, .ref 57]))) (h51 : cE h 51 (.inr (7, [.ref 7, fI r, .ref 52, .ref 53]))) (hl : h.length = 94) : ik_F 106 [.ref 0] h (fun rv h_q => rv = [fI r] ∧ cE h_q 51 (.inr (7, [.ref 7, fI 0, .ref 52, .ref 53])) ∧ hfr [51] h h_q) := by
  refine ik_Wk 1 (pc_q := 1) (loc_q := [some (.ref 0), none]) (st_q := [.ref 0]) (h_q := h) (cl_q := 0) (sl_q := 0) rfl ?_
  refine fw_gf rfl rfl h0 rfl ?_
  refine fw_gf rfl rfl h51 rfl ?_
  refine ik_Wk 2 (pc_q := 9) (loc_q := [some (.ref 0), some (fI r)]) (st_q := [.ref 0]) (h_q := h) (cl_q := 0) (sl_q := 0) rfl ?_
  refine fw_gf rfl rfl h0 rfl ?_
  refine ik_Wk 1 (pc_q := 13) (loc_q := [some (.ref 0), some (fI r)]) (st_q := [fI 0, .ref 51]) (h_q := h) (cl_q := 0) (sl_q := 0) rfl ?_
  refine fx_pf rfl rfl h51 (Nat.le_of_ble_eq_true rfl) rfl rfl ?_
  intro h_458 e_458 f_458 l_458
  have k_458 : cL h_458 := l_458.trans hl
  have fr_458 := hfr_wb (hfr_refl [51] h) f_458 l_458 rfl
  clear l_458
  have g_458_0 := (f_458 0 (Nat.ne_of_beq_eq_false rfl)).trans h0
  have g_458_51 : cE h_458 51 (.inr (7, [.ref 7, fI 0, .ref 52, .ref 53])) := e_458
  refine ik_Wk 1 (pc_q := 17) (loc_q := [some (.ref 0), some (fI r)]) (st_q := [fI r]) (h_q := h_458) (cl_q := 0) (sl_q := 0) rfl ?_
  exact ik_Wret rfl rfl ⟨_, _, rfl, rfl, rfl, rfl, ⟨rfl, g_458_51, fr_458⟩⟩

theorem rp_forget {h : List ik_E} {f : Nat → Int} {r : Int}  (h66 : cE h 66 (.inr (10, (fI (f 0) :: .ref 67 :: .ref 68 :: .ref 69 :: fI (f 4) :: .ref 70 :: .ref 71 :: fI (f 7) :: fI (f 8) :: .ref 72 :: fI (f 10) :: fI (f 11) :: fI (f 12) :: fJ (f 13) :: fI (f 14) :: fI (f 15) :: fI (f 16) :: fI (f 17) :: .ref 73 :: .ref 74 :: .ref 75 :: .ref 76 :: .ref 77 :: .ref 78 :: fI (f 24) :: .ref 79 :: .ref 80 :: .ref 81 :: .ref 82 :: .ref 83 :: .ref 84 :: .ref 85 :: fJ (f 32) :: fJ (f 33) :: .ref 86 :: .ref 87 :: fI r :: .ref 88 :: .ref 89 :: .ref 90 :: .ref 91 :: .ref 92 :: .ref 93 :: [])))) (hl : h.length = 94) : ik_F 184 [.ref 66] h (fun rv h_q => rv = [fI r] ∧ cE h_q 66 (.inr (10, (fI (f 0) :: .ref 67 :: .ref 68 :: .ref 69 :: fI (f 4) :: .ref 70 :: .ref 71 :: fI (f 7) :: fI (f 8) :: .ref 72 :: fI (f 10) :: fI (f 11) :: fI (f 12) :: fJ (f 13) :: fI (f 14) :: fI (f 15) :: fI (f 16) :: fI (f 17) :: .ref 73 :: .ref 74 :: .ref 75 :: .ref 76 :: .ref 77 :: .ref 78 :: fI (f 24) :: .ref 79 :: .ref 80 :: .ref 81 :: .ref 82 :: .ref 83 :: .ref 84 :: .ref 85 :: fJ (f 32) :: fJ (f 33) :: .ref 86 :: .ref 87 :: fI 0 :: .ref 88 :: .ref 89 :: .ref 90 :: .ref 91 :: .ref 92 :: .ref 93 :: []))) ∧ hfr [66] h h_q) := by
  refine ik_Wk 1 (pc_q := 1) (loc_q := [some (.ref 66), none]) (st_q := [.ref 66]) (h_q := h) (cl_q := 0) (sl_q := 0) rfl ?_
  refine fw_gf rfl rfl h66 rfl ?_
  refine ik_Wk 3 (pc_q := 7) (loc_q := [some (.ref 66), some (fI r)]) (st_q := [fI 0, .ref 66]) (h_q := h) (cl_q := 0) (sl_q := 0) rfl ?_
  refine fx_pf rfl rfl h66 (Nat.le_of_ble_eq_true rfl) rfl rfl ?_
  intro h_459 e_459 f_459 l_459
  have k_459 : cL h_459 := l_459.trans hl
  have fr_459 := hfr_wb (hfr_refl [66] h) f_459 l_459 rfl
  clear l_459
  have g_459_66 : cE h_459 66 (.inr (10, (fI (f 0) :: .ref 67 :: .ref 68 :: .ref 69 :: fI (f 4) :: .ref 70 :: .ref 71 :: fI (f 7) :: fI (f 8) :: .ref 72 :: fI (f 10) :: fI (f 11) :: fI (f 12) :: fJ (f 13) :: fI (f 14) :: fI (f 15) :: fI (f 16) :: fI (f 17) :: .ref 73 :: .ref 74 :: .ref 75 :: .ref 76 :: .ref 77 :: .ref 78 :: fI (f 24) :: .ref 79 :: .ref 80 :: .ref 81 :: .ref 82 :: .ref 83 :: .ref 84 :: .ref 85 :: fJ (f 32) :: fJ (f 33) :: .ref 86 :: .ref 87 :: fI 0 :: .ref 88 :: .ref 89 :: .ref 90 :: .ref 91 :: .ref 92 :: .ref 93 :: []))) := e_459
  refine ik_Wk 1 (pc_q := 11) (loc_q := [some (.ref 66), some (fI r)]) (st_q := [fI r]) (h_q := h_459) (cl_q := 0) (sl_q := 0) rfl ?_
  exact ik_Wret rfl rfl ⟨_, _, rfl, rfl, rfl, rfl, ⟨rfl, g_459_66, fr_459⟩⟩

theorem cp_dig {h : List ik_E} {pl : Int} {lo : Int} {s : Nat} {p : Int} {a : Int} {b : Int} {n : Int} {cn : List Int} {go : List Int} {ch : List Int} {wg : List Int} {wc : List Int} {we : List Int} (q0 : 0 ≤ pl ∧ pl ≤ 12) (q1 : ∀ x : Int, (0 : Int) ≤ x → x < pl - 1 → mx_wy wg wc we x (mx_w cn go ch s x)) (q2 : mx_rw pl cn go ch) (q3 : s < 4096) (q4 : (1 : Int) ≤ pl → cn.getD (pl - 1).toNat 0 = 0) (q5 : (-2147483648 : Int) ≤ p ∧ p < (2147483648 : Int)) (q6 : (-2147483648 : Int) ≤ a ∧ a < (2147483648 : Int)) (q7 : (-2147483648 : Int) ≤ b ∧ b < (2147483648 : Int)) (q8 : (-2147483648 : Int) ≤ n ∧ n < (2147483648 : Int)) (h0 : cE h 0 (.inr (9, [.ref 1, .ref 7, .ref 14, .ref 17, .ref 45, .ref 51, .ref 54, .ref 57]))) (h7 : cE h 7 (.inr (0, [fI pl, fI ((s : Nat) : Int), fI lo, .ref 8, .ref 9, .ref 10, .ref 11, .ref 12, .ref 13]))) (h8 : cE h 8 (.inl (.int, fA cn))) (n8 : cn.length = (12 : Nat)) (h9 : cE h 9 (.inl (.int, fA go))) (n9 : go.length = (48 : Nat)) (h10 : cE h 10 (.inl (.int, fA ch))) (n10 : ch.length = (48 : Nat)) (h11 : cE h 11 (.inl (.int, fA wg))) (n11 : wg.length = (60 : Nat)) (h12 : cE h 12 (.inl (.int, fA wc))) (n12 : wc.length = (60 : Nat)) (h13 : cE h 13 (.inl (.int, fA we))) (n13 : we.length = (12 : Nat)) (hl : h.length = (94 : Nat)) : ik_F 109 [.ref 0, fI p, fI a, fI b, fI n] h (fun rv h_q => (∃ (wg' : List Int) (wc' : List Int) (we' : List Int), rv = [fI (ch.getD (4 * p + b).toNat 0 + n)] ∧ cE h_q 10 (.inl (.int, fA (mx_sh ch p a b n))) ∧ (mx_sh ch p a b n).length = (48 : Nat) ∧ cE h_q 11 (.inl (.int, fA wg')) ∧ wg'.length = (60 : Nat) ∧ cE h_q 12 (.inl (.int, fA wc')) ∧ wc'.length = (60 : Nat) ∧ cE h_q 13 (.inl (.int, fA we')) ∧ we'.length = (12 : Nat) ∧ ((((0 : Int) ≤ p ∧ p < pl - 1) ∧ ((0 : Int) ≤ a ∧ a < cn.getD p.toNat 0) ∧ ((0 : Int) ≤ b ∧ b < cn.getD p.toNat 0) ∧ ¬ a = b) ∧ ((1 : Int) ≤ n ∧ n ≤ (99 : Int)) ∧ n < ch.getD (4 * p + a).toNat 0) ∧ (∀ x : Int, (0 : Int) ≤ x → x < pl - 1 → mx_wy wg' wc' we' x (mx_w cn go (mx_sh ch p a b n) s x)) ∧ hfr [10, 11, 12, 13] h h_q) ∨ (rv = [fI (an_dg pl (cn.getD p.toNat 0) p a b n)] ∧ cE h_q 10 (.inl (.int, fA ch)) ∧ ch.length = (48 : Nat) ∧ cE h_q 11 (.inl (.int, fA wg)) ∧ wg.length = (60 : Nat) ∧ cE h_q 12 (.inl (.int, fA wc)) ∧ wc.length = (60 : Nat) ∧ cE h_q 13 (.inl (.int, fA we)) ∧ we.length = (12 : Nat) ∧ (¬ ((((0 : Int) ≤ p ∧ p < pl - 1) ∧ ((0 : Int) ≤ a ∧ a < cn.getD p.toNat 0) ∧ ((0 : Int) ≤ b ∧ b < cn.getD p.toNat 0) ∧ ¬ a = b) ∧ ((1 : Int) ≤ n ∧ n ≤ (99 : Int)) ∧ n < ch.getD (4 * p + a).toNat 0)) ∧ hfr [10, 11, 12, 13] h h_q)) := by
  refine ik_Wk 1 (pc_q := 1) (loc_q := [some (.ref 0), some (fI p), some (fI a), some (fI b), some (fI n)]) (st_q := [.ref 0]) (h_q := h) (cl_q := 0) (sl_q := 0) rfl ?_
  refine fw_gf rfl rfl h0 rfl ?_
  refine ik_Wk 1 (pc_q := 5) (loc_q := [some (.ref 0), some (fI p), some (fI a), some (fI b), some (fI n)]) (st_q := [fI p, .ref 7]) (h_q := h) (cl_q := 0) (sl_q := 0) rfl ?_
  refine ik_Wc 3 2 0 [.ref 7, fI p] [] rfl rfl rfl (by decide +kernel) rfl rfl (fw_rec hl rfl h7 rfl (Nat.le_of_ble_eq_true rfl)) ?_
  refine ik_Wk 0 (pc_q := 0) (loc_q := [some (.ref 7), some (fI p)]) (st_q := []) (h_q := h) (cl_q := 0) (sl_q := 0) rfl ?_
  refine ik_Wk 1 (pc_q := 1) (loc_q := [some (.ref 7), some (fI p)]) (st_q := [fI p]) (h_q := h) (cl_q := 0) (sl_q := 0) rfl ?_
  refine fw_if_lt rfl rfl (by omega) (by omega) (fun hc1 => ?_) (fun hc1 => ?_)
  · refine ik_Wk 1 (pc_q := 17) (loc_q := [some (.ref 7), some (fI p)]) (st_q := [fI 0]) (h_q := h) (cl_q := 0) (sl_q := 0) rfl ?_
    refine ik_Wret rfl rfl ⟨_, _, rfl, rfl, ?_⟩
    refine ik_Wk 0 (pc_q := 8) (loc_q := [some (.ref 0), some (fI p), some (fI a), some (fI b), some (fI n)]) (st_q := [fI 0]) (h_q := h) (cl_q := 0) (sl_q := 0) rfl ?_
    refine fw_if_eq rfl rfl (by decide +kernel) (by decide +kernel) (fun hc2 => ?_) (fun hc2 => absurd hc2 (by decide +kernel))
    refine fw_ld (-1000000001) rfl rfl (by decide +kernel) ?_
    exact ik_Wret rfl rfl ⟨_, _, rfl, rfl, rfl, rfl, Or.inr ⟨(congrArg (fun z => [fI z]) (by unfold an_dg; (repeat' split) <;> first | rfl | omega)), h10, n10, h11, n11, h12, n12, h13, n13, (by omega), (hfr_refl [10, 11, 12, 13] h)⟩⟩
  · refine ik_Wk 2 (pc_q := 6) (loc_q := [some (.ref 7), some (fI p)]) (st_q := [.ref 7, fI p]) (h_q := h) (cl_q := 0) (sl_q := 0) rfl ?_
    refine fw_gf rfl rfl h7 rfl ?_
    refine fw_ic_ge rfl rfl (by omega) (by omega) (by omega) (by omega) (fun hc3 => ?_) (fun hc3 => ?_)
    · refine ik_Wk 1 (pc_q := 17) (loc_q := [some (.ref 7), some (fI p)]) (st_q := [fI 0]) (h_q := h) (cl_q := 0) (sl_q := 0) rfl ?_
      refine ik_Wret rfl rfl ⟨_, _, rfl, rfl, ?_⟩
      refine ik_Wk 0 (pc_q := 8) (loc_q := [some (.ref 0), some (fI p), some (fI a), some (fI b), some (fI n)]) (st_q := [fI 0]) (h_q := h) (cl_q := 0) (sl_q := 0) rfl ?_
      refine fw_if_eq rfl rfl (by decide +kernel) (by decide +kernel) (fun hc4 => ?_) (fun hc4 => absurd hc4 (by decide +kernel))
      refine fw_ld (-1000000001) rfl rfl (by decide +kernel) ?_
      exact ik_Wret rfl rfl ⟨_, _, rfl, rfl, rfl, rfl, Or.inr ⟨(congrArg (fun z => [fI z]) (by unfold an_dg; (repeat' split) <;> first | rfl | omega)), h10, n10, h11, n11, h12, n12, h13, n13, (by omega), (hfr_refl [10, 11, 12, 13] h)⟩⟩
    · refine ik_Wk 2 (pc_q := 17) (loc_q := [some (.ref 7), some (fI p)]) (st_q := [fI 1]) (h_q := h) (cl_q := 0) (sl_q := 0) rfl ?_
      refine ik_Wret rfl rfl ⟨_, _, rfl, rfl, ?_⟩
      refine ik_Wk 0 (pc_q := 8) (loc_q := [some (.ref 0), some (fI p), some (fI a), some (fI b), some (fI n)]) (st_q := [fI 1]) (h_q := h) (cl_q := 0) (sl_q := 0) rfl ?_
      refine fw_if_eq rfl rfl (by decide +kernel) (by decide +kernel) (fun hc5 => absurd hc5 (by decide +kernel)) (fun hc5 => ?_)
      refine ik_Wk 1 (pc_q := 12) (loc_q := [some (.ref 0), some (fI p), some (fI a), some (fI b), some (fI n)]) (st_q := [.ref 0]) (h_q := h) (cl_q := 0) (sl_q := 0) rfl ?_
      refine fw_gf rfl rfl h0 rfl ?_
      refine ik_Wk 3 (pc_q := 18) (loc_q := [some (.ref 0), some (fI p), some (fI a), some (fI b), some (fI n)]) (st_q := [fI b, fI a, fI p, .ref 7]) (h_q := h) (cl_q := 0) (sl_q := 0) rfl ?_
      refine ik_Wc 6 4 0 [.ref 7, fI p, fI a, fI b] [] rfl rfl rfl (by decide +kernel) rfl rfl (fw_rec hl rfl h7 rfl (Nat.le_of_ble_eq_true rfl)) ?_
      refine ik_Wk 0 (pc_q := 0) (loc_q := [some (.ref 7), some (fI p), some (fI a), some (fI b)]) (st_q := []) (h_q := h) (cl_q := 0) (sl_q := 0) rfl ?_
      refine ik_Wk 3 (pc_q := 3) (loc_q := [some (.ref 7), some (fI p), some (fI a), some (fI b)]) (st_q := [fI a, fI p, .ref 7]) (h_q := h) (cl_q := 0) (sl_q := 0) rfl ?_
      refine ik_Wc 5 3 0 [.ref 7, fI p, fI a] [] rfl rfl rfl (by decide +kernel) rfl rfl (fw_rec hl rfl h7 rfl (Nat.le_of_ble_eq_true rfl)) ?_
      refine ik_Wk 0 (pc_q := 0) (loc_q := [some (.ref 7), some (fI p), some (fI a)]) (st_q := []) (h_q := h) (cl_q := 0) (sl_q := 0) rfl ?_
      refine ik_Wk 1 (pc_q := 1) (loc_q := [some (.ref 7), some (fI p), some (fI a)]) (st_q := [fI a]) (h_q := h) (cl_q := 0) (sl_q := 0) rfl ?_
      refine fw_if_lt rfl rfl (by omega) (by omega) (fun hc6 => ?_) (fun hc6 => ?_)
      · refine ik_Wk 1 (pc_q := 19) (loc_q := [some (.ref 7), some (fI p), some (fI a)]) (st_q := [fI 0]) (h_q := h) (cl_q := 0) (sl_q := 0) rfl ?_
        refine ik_Wret rfl rfl ⟨_, _, rfl, rfl, ?_⟩
        refine ik_Wk 0 (pc_q := 6) (loc_q := [some (.ref 7), some (fI p), some (fI a), some (fI b)]) (st_q := [fI 0]) (h_q := h) (cl_q := 0) (sl_q := 0) rfl ?_
        refine fw_if_eq rfl rfl (by decide +kernel) (by decide +kernel) (fun hc7 => ?_) (fun hc7 => absurd hc7 (by decide +kernel))
        refine ik_Wk 1 (pc_q := 28) (loc_q := [some (.ref 7), some (fI p), some (fI a), some (fI b)]) (st_q := [fI 0]) (h_q := h) (cl_q := 0) (sl_q := 0) rfl ?_
        refine ik_Wret rfl rfl ⟨_, _, rfl, rfl, ?_⟩
        refine ik_Wk 0 (pc_q := 21) (loc_q := [some (.ref 0), some (fI p), some (fI a), some (fI b), some (fI n)]) (st_q := [fI 0]) (h_q := h) (cl_q := 0) (sl_q := 0) rfl ?_
        refine fw_if_ne rfl rfl (by decide +kernel) (by decide +kernel) (fun hc8 => ?_) (fun hc8 => absurd hc8 (by decide +kernel))
        refine fw_ld (-1000000001) rfl rfl (by decide +kernel) ?_
        exact ik_Wret rfl rfl ⟨_, _, rfl, rfl, rfl, rfl, Or.inr ⟨(congrArg (fun z => [fI z]) (by unfold an_dg; (repeat' split) <;> first | rfl | omega)), h10, n10, h11, n11, h12, n12, h13, n13, (by omega), (hfr_refl [10, 11, 12, 13] h)⟩⟩
      · refine ik_Wk 2 (pc_q := 6) (loc_q := [some (.ref 7), some (fI p), some (fI a)]) (st_q := [.ref 7, fI a]) (h_q := h) (cl_q := 0) (sl_q := 0) rfl ?_
        refine fw_gf rfl rfl h7 rfl ?_
        refine ik_Wk 1 (pc_q := 10) (loc_q := [some (.ref 7), some (fI p), some (fI a)]) (st_q := [fI p, .ref 8, fI a]) (h_q := h) (cl_q := 0) (sl_q := 0) rfl ?_
        refine fw_ial rfl h8 (by omega) (by omega) (by omega) ?_
        have hcn : (p = pl - 1 ∧ cn.getD p.toNat 0 = 0) ∨ (p < pl - 1 ∧ 1 ≤ cn.getD p.toNat 0 ∧ cn.getD p.toNat 0 ≤ 4) := by
          rcases Int.lt_or_le p (pl - 1) with z | z
          · have := (q2 p (by omega) z).1; omega
          · have e : p = pl - 1 := by omega
            have := q4 (by omega); rw [← e] at this; omega
        refine fw_ic_ge rfl rfl (by omega) (by omega) (by omega) (by omega) (fun hc9 => ?_) (fun hc9 => ?_)
        · refine ik_Wk 1 (pc_q := 19) (loc_q := [some (.ref 7), some (fI p), some (fI a)]) (st_q := [fI 0]) (h_q := h) (cl_q := 0) (sl_q := 0) rfl ?_
          refine ik_Wret rfl rfl ⟨_, _, rfl, rfl, ?_⟩
          refine ik_Wk 0 (pc_q := 6) (loc_q := [some (.ref 7), some (fI p), some (fI a), some (fI b)]) (st_q := [fI 0]) (h_q := h) (cl_q := 0) (sl_q := 0) rfl ?_
          refine fw_if_eq rfl rfl (by decide +kernel) (by decide +kernel) (fun hc10 => ?_) (fun hc10 => absurd hc10 (by decide +kernel))
          refine ik_Wk 1 (pc_q := 28) (loc_q := [some (.ref 7), some (fI p), some (fI a), some (fI b)]) (st_q := [fI 0]) (h_q := h) (cl_q := 0) (sl_q := 0) rfl ?_
          refine ik_Wret rfl rfl ⟨_, _, rfl, rfl, ?_⟩
          refine ik_Wk 0 (pc_q := 21) (loc_q := [some (.ref 0), some (fI p), some (fI a), some (fI b), some (fI n)]) (st_q := [fI 0]) (h_q := h) (cl_q := 0) (sl_q := 0) rfl ?_
          refine fw_if_ne rfl rfl (by decide +kernel) (by decide +kernel) (fun hc11 => ?_) (fun hc11 => absurd hc11 (by decide +kernel))
          refine fw_ld (-1000000001) rfl rfl (by decide +kernel) ?_
          exact ik_Wret rfl rfl ⟨_, _, rfl, rfl, rfl, rfl, Or.inr ⟨(congrArg (fun z => [fI z]) (by unfold an_dg; (repeat' split) <;> first | rfl | omega)), h10, n10, h11, n11, h12, n12, h13, n13, (by omega), (hfr_refl [10, 11, 12, 13] h)⟩⟩
        · refine ik_Wk 2 (pc_q := 19) (loc_q := [some (.ref 7), some (fI p), some (fI a)]) (st_q := [fI 1]) (h_q := h) (cl_q := 0) (sl_q := 0) rfl ?_
          refine ik_Wret rfl rfl ⟨_, _, rfl, rfl, ?_⟩
          refine ik_Wk 0 (pc_q := 6) (loc_q := [some (.ref 7), some (fI p), some (fI a), some (fI b)]) (st_q := [fI 1]) (h_q := h) (cl_q := 0) (sl_q := 0) rfl ?_
          refine fw_if_eq rfl rfl (by decide +kernel) (by decide +kernel) (fun hc12 => absurd hc12 (by decide +kernel)) (fun hc12 => ?_)
          refine ik_Wk 3 (pc_q := 12) (loc_q := [some (.ref 7), some (fI p), some (fI a), some (fI b)]) (st_q := [fI b, fI p, .ref 7]) (h_q := h) (cl_q := 0) (sl_q := 0) rfl ?_
          refine ik_Wc 5 3 0 [.ref 7, fI p, fI b] [] rfl rfl rfl (by decide +kernel) rfl rfl (fw_rec hl rfl h7 rfl (Nat.le_of_ble_eq_true rfl)) ?_
          refine ik_Wk 0 (pc_q := 0) (loc_q := [some (.ref 7), some (fI p), some (fI b)]) (st_q := []) (h_q := h) (cl_q := 0) (sl_q := 0) rfl ?_
          refine ik_Wk 1 (pc_q := 1) (loc_q := [some (.ref 7), some (fI p), some (fI b)]) (st_q := [fI b]) (h_q := h) (cl_q := 0) (sl_q := 0) rfl ?_
          refine fw_if_lt rfl rfl (by omega) (by omega) (fun hc13 => ?_) (fun hc13 => ?_)
          · refine ik_Wk 1 (pc_q := 19) (loc_q := [some (.ref 7), some (fI p), some (fI b)]) (st_q := [fI 0]) (h_q := h) (cl_q := 0) (sl_q := 0) rfl ?_
            refine ik_Wret rfl rfl ⟨_, _, rfl, rfl, ?_⟩
            refine ik_Wk 0 (pc_q := 15) (loc_q := [some (.ref 7), some (fI p), some (fI a), some (fI b)]) (st_q := [fI 0]) (h_q := h) (cl_q := 0) (sl_q := 0) rfl ?_
            refine fw_if_eq rfl rfl (by decide +kernel) (by decide +kernel) (fun hc14 => ?_) (fun hc14 => absurd hc14 (by decide +kernel))
            refine ik_Wk 1 (pc_q := 28) (loc_q := [some (.ref 7), some (fI p), some (fI a), some (fI b)]) (st_q := [fI 0]) (h_q := h) (cl_q := 0) (sl_q := 0) rfl ?_
            refine ik_Wret rfl rfl ⟨_, _, rfl, rfl, ?_⟩
            refine ik_Wk 0 (pc_q := 21) (loc_q := [some (.ref 0), some (fI p), some (fI a), some (fI b), some (fI n)]) (st_q := [fI 0]) (h_q := h) (cl_q := 0) (sl_q := 0) rfl ?_
            refine fw_if_ne rfl rfl (by decide +kernel) (by decide +kernel) (fun hc15 => ?_) (fun hc15 => absurd hc15 (by decide +kernel))
            refine fw_ld (-1000000001) rfl rfl (by decide +kernel) ?_
            exact ik_Wret rfl rfl ⟨_, _, rfl, rfl, rfl, rfl, Or.inr ⟨(congrArg (fun z => [fI z]) (by unfold an_dg; (repeat' split) <;> first | rfl | omega)), h10, n10, h11, n11, h12, n12, h13, n13, (by omega), (hfr_refl [10, 11, 12, 13] h)⟩⟩
          · refine ik_Wk 2 (pc_q := 6) (loc_q := [some (.ref 7), some (fI p), some (fI b)]) (st_q := [.ref 7, fI b]) (h_q := h) (cl_q := 0) (sl_q := 0) rfl ?_
            refine fw_gf rfl rfl h7 rfl ?_
            refine ik_Wk 1 (pc_q := 10) (loc_q := [some (.ref 7), some (fI p), some (fI b)]) (st_q := [fI p, .ref 8, fI b]) (h_q := h) (cl_q := 0) (sl_q := 0) rfl ?_
            refine fw_ial rfl h8 (by omega) (by omega) (by omega) ?_
            have hcn : (p = pl - 1 ∧ cn.getD p.toNat 0 = 0) ∨ (p < pl - 1 ∧ 1 ≤ cn.getD p.toNat 0 ∧ cn.getD p.toNat 0 ≤ 4) := by
              rcases Int.lt_or_le p (pl - 1) with z | z
              · have := (q2 p (by omega) z).1; omega
              · have e : p = pl - 1 := by omega
                have := q4 (by omega); rw [← e] at this; omega
            refine fw_ic_ge rfl rfl (by omega) (by omega) (by omega) (by omega) (fun hc16 => ?_) (fun hc16 => ?_)
            · refine ik_Wk 1 (pc_q := 19) (loc_q := [some (.ref 7), some (fI p), some (fI b)]) (st_q := [fI 0]) (h_q := h) (cl_q := 0) (sl_q := 0) rfl ?_
              refine ik_Wret rfl rfl ⟨_, _, rfl, rfl, ?_⟩
              refine ik_Wk 0 (pc_q := 15) (loc_q := [some (.ref 7), some (fI p), some (fI a), some (fI b)]) (st_q := [fI 0]) (h_q := h) (cl_q := 0) (sl_q := 0) rfl ?_
              refine fw_if_eq rfl rfl (by decide +kernel) (by decide +kernel) (fun hc17 => ?_) (fun hc17 => absurd hc17 (by decide +kernel))
              refine ik_Wk 1 (pc_q := 28) (loc_q := [some (.ref 7), some (fI p), some (fI a), some (fI b)]) (st_q := [fI 0]) (h_q := h) (cl_q := 0) (sl_q := 0) rfl ?_
              refine ik_Wret rfl rfl ⟨_, _, rfl, rfl, ?_⟩
              refine ik_Wk 0 (pc_q := 21) (loc_q := [some (.ref 0), some (fI p), some (fI a), some (fI b), some (fI n)]) (st_q := [fI 0]) (h_q := h) (cl_q := 0) (sl_q := 0) rfl ?_
              refine fw_if_ne rfl rfl (by decide +kernel) (by decide +kernel) (fun hc18 => ?_) (fun hc18 => absurd hc18 (by decide +kernel))
              refine fw_ld (-1000000001) rfl rfl (by decide +kernel) ?_
              exact ik_Wret rfl rfl ⟨_, _, rfl, rfl, rfl, rfl, Or.inr ⟨(congrArg (fun z => [fI z]) (by unfold an_dg; (repeat' split) <;> first | rfl | omega)), h10, n10, h11, n11, h12, n12, h13, n13, (by omega), (hfr_refl [10, 11, 12, 13] h)⟩⟩
            · refine ik_Wk 2 (pc_q := 19) (loc_q := [some (.ref 7), some (fI p), some (fI b)]) (st_q := [fI 1]) (h_q := h) (cl_q := 0) (sl_q := 0) rfl ?_
              refine ik_Wret rfl rfl ⟨_, _, rfl, rfl, ?_⟩
              refine ik_Wk 0 (pc_q := 15) (loc_q := [some (.ref 7), some (fI p), some (fI a), some (fI b)]) (st_q := [fI 1]) (h_q := h) (cl_q := 0) (sl_q := 0) rfl ?_
              refine fw_if_eq rfl rfl (by decide +kernel) (by decide +kernel) (fun hc19 => absurd hc19 (by decide +kernel)) (fun hc19 => ?_)
              refine ik_Wk 2 (pc_q := 20) (loc_q := [some (.ref 7), some (fI p), some (fI a), some (fI b)]) (st_q := [fI b, fI a]) (h_q := h) (cl_q := 0) (sl_q := 0) rfl ?_
              refine fw_ic_eq rfl rfl (by omega) (by omega) (by omega) (by omega) (fun hc20 => ?_) (fun hc20 => ?_)
              · refine ik_Wk 1 (pc_q := 28) (loc_q := [some (.ref 7), some (fI p), some (fI a), some (fI b)]) (st_q := [fI 0]) (h_q := h) (cl_q := 0) (sl_q := 0) rfl ?_
                refine ik_Wret rfl rfl ⟨_, _, rfl, rfl, ?_⟩
                refine ik_Wk 0 (pc_q := 21) (loc_q := [some (.ref 0), some (fI p), some (fI a), some (fI b), some (fI n)]) (st_q := [fI 0]) (h_q := h) (cl_q := 0) (sl_q := 0) rfl ?_
                refine fw_if_ne rfl rfl (by decide +kernel) (by decide +kernel) (fun hc21 => ?_) (fun hc21 => absurd hc21 (by decide +kernel))
                refine fw_ld (-1000000001) rfl rfl (by decide +kernel) ?_
                exact ik_Wret rfl rfl ⟨_, _, rfl, rfl, rfl, rfl, Or.inr ⟨(congrArg (fun z => [fI z]) (by unfold an_dg; (repeat' split) <;> first | rfl | omega)), h10, n10, h11, n11, h12, n12, h13, n13, (by omega), (hfr_refl [10, 11, 12, 13] h)⟩⟩
              · refine ik_Wk 2 (pc_q := 28) (loc_q := [some (.ref 7), some (fI p), some (fI a), some (fI b)]) (st_q := [fI 1]) (h_q := h) (cl_q := 0) (sl_q := 0) rfl ?_
                refine ik_Wret rfl rfl ⟨_, _, rfl, rfl, ?_⟩
                refine ik_Wk 0 (pc_q := 21) (loc_q := [some (.ref 0), some (fI p), some (fI a), some (fI b), some (fI n)]) (st_q := [fI 1]) (h_q := h) (cl_q := 0) (sl_q := 0) rfl ?_
                refine fw_if_ne rfl rfl (by decide +kernel) (by decide +kernel) (fun hc22 => absurd hc22 (by decide +kernel)) (fun hc22 => ?_)
                refine ik_Wk 2 (pc_q := 30) (loc_q := [some (.ref 0), some (fI p), some (fI a), some (fI b), some (fI n)]) (st_q := [fI 1, fI n]) (h_q := h) (cl_q := 0) (sl_q := 0) rfl ?_
                refine fw_ic_lt rfl rfl (by omega) (by omega) (by omega) (by omega) (fun hc23 => ?_) (fun hc23 => ?_)
                · refine fw_ld (-1000000002) rfl rfl (by decide +kernel) ?_
                  exact ik_Wret rfl rfl ⟨_, _, rfl, rfl, rfl, rfl, Or.inr ⟨(congrArg (fun z => [fI z]) (by unfold an_dg; (repeat' split) <;> first | rfl | omega)), h10, n10, h11, n11, h12, n12, h13, n13, (by omega), (hfr_refl [10, 11, 12, 13] h)⟩⟩
                · refine ik_Wk 1 (pc_q := 35) (loc_q := [some (.ref 0), some (fI p), some (fI a), some (fI b), some (fI n)]) (st_q := [fI n]) (h_q := h) (cl_q := 0) (sl_q := 0) rfl ?_
                  refine fw_bi rfl (by decide +kernel) ?_
                  refine fw_ic_le rfl rfl (by omega) (by omega) (by omega) (by omega) (fun hc24 => ?_) (fun hc24 => ?_)
                  · refine ik_Wk 1 (pc_q := 44) (loc_q := [some (.ref 0), some (fI p), some (fI a), some (fI b), some (fI n)]) (st_q := [.ref 0]) (h_q := h) (cl_q := 0) (sl_q := 0) rfl ?_
                    refine fw_gf rfl rfl h0 rfl ?_
                    refine ik_Wk 3 (pc_q := 51) (loc_q := [some (.ref 0), some (fI p), some (fI a), some (fI b), some (fI n)]) (st_q := [fI n, fI a, fI p, .ref 7]) (h_q := h) (cl_q := 0) (sl_q := 0) rfl ?_
                    refine ik_Wc 15 4 0 [.ref 7, fI p, fI a, fI n] [] rfl rfl rfl (by decide +kernel) rfl rfl (fw_rec hl rfl h7 rfl (Nat.le_of_ble_eq_true rfl)) ?_
                    refine ik_Wk 0 (pc_q := 0) (loc_q := [some (.ref 7), some (fI p), some (fI a), some (fI n)]) (st_q := []) (h_q := h) (cl_q := 0) (sl_q := 0) rfl ?_
                    refine ik_Wk 1 (pc_q := 1) (loc_q := [some (.ref 7), some (fI p), some (fI a), some (fI n)]) (st_q := [.ref 7]) (h_q := h) (cl_q := 0) (sl_q := 0) rfl ?_
                    refine fw_gf rfl rfl h7 rfl ?_
                    refine ik_Wk 2 (pc_q := 6) (loc_q := [some (.ref 7), some (fI p), some (fI a), some (fI n)]) (st_q := [fI 4, fI p, .ref 10]) (h_q := h) (cl_q := 0) (sl_q := 0) rfl ?_
                    refine fx_mulc rfl ?_
                    refine ik_Wk 1 (pc_q := 8) (loc_q := [some (.ref 7), some (fI p), some (fI a), some (fI n)]) (st_q := [fI a, fI (4 * p), .ref 10]) (h_q := h) (cl_q := 0) (sl_q := 0) rfl ?_
                    refine fw_add rfl ?_
                    refine fw_ial rfl h10 (by omega) (by omega) (by omega) ?_
                    have hda := (q2 p (by omega) (by omega)).2.1 a (by omega) (by omega)
                    refine ik_Wk 1 (pc_q := 11) (loc_q := [some (.ref 7), some (fI p), some (fI a), some (fI n)]) (st_q := [fI n, fI (ch.getD ((4 * p) + a).toNat 0)]) (h_q := h) (cl_q := 0) (sl_q := 0) rfl ?_
                    refine fw_sub rfl ?_
                    refine ik_Wk 1 (pc_q := 13) (loc_q := [some (.ref 7), some (fI p), some (fI a), some (fI n)]) (st_q := [fI 1, fI ((ch.getD ((4 * p) + a).toNat 0) - n)]) (h_q := h) (cl_q := 0) (sl_q := 0) rfl ?_
                    refine fw_ic_lt rfl rfl (by omega) (by omega) (by omega) (by omega) (fun hc25 => ?_) (fun hc25 => ?_)
                    · refine ik_Wk 1 (pc_q := 21) (loc_q := [some (.ref 7), some (fI p), some (fI a), some (fI n)]) (st_q := [fI 0]) (h_q := h) (cl_q := 0) (sl_q := 0) rfl ?_
                      refine ik_Wret rfl rfl ⟨_, _, rfl, rfl, ?_⟩
                      refine ik_Wk 0 (pc_q := 54) (loc_q := [some (.ref 0), some (fI p), some (fI a), some (fI b), some (fI n)]) (st_q := [fI 0]) (h_q := h) (cl_q := 0) (sl_q := 0) rfl ?_
                      refine fw_if_ne rfl rfl (by decide +kernel) (by decide +kernel) (fun hc26 => ?_) (fun hc26 => absurd hc26 (by decide +kernel))
                      refine fw_ld (-1000000003) rfl rfl (by decide +kernel) ?_
                      exact ik_Wret rfl rfl ⟨_, _, rfl, rfl, rfl, rfl, Or.inr ⟨(congrArg (fun z => [fI z]) (by unfold an_dg; (repeat' split) <;> first | rfl | omega)), h10, n10, h11, n11, h12, n12, h13, n13, (by omega), (hfr_refl [10, 11, 12, 13] h)⟩⟩
                    · refine ik_Wk 2 (pc_q := 21) (loc_q := [some (.ref 7), some (fI p), some (fI a), some (fI n)]) (st_q := [fI 1]) (h_q := h) (cl_q := 0) (sl_q := 0) rfl ?_
                      refine ik_Wret rfl rfl ⟨_, _, rfl, rfl, ?_⟩
                      refine ik_Wk 0 (pc_q := 54) (loc_q := [some (.ref 0), some (fI p), some (fI a), some (fI b), some (fI n)]) (st_q := [fI 1]) (h_q := h) (cl_q := 0) (sl_q := 0) rfl ?_
                      refine fw_if_ne rfl rfl (by decide +kernel) (by decide +kernel) (fun hc27 => absurd hc27 (by decide +kernel)) (fun hc27 => ?_)
                      refine ik_Wk 1 (pc_q := 61) (loc_q := [some (.ref 0), some (fI p), some (fI a), some (fI b), some (fI n)]) (st_q := [.ref 0]) (h_q := h) (cl_q := 0) (sl_q := 0) rfl ?_
                      refine fw_gf rfl rfl h0 rfl ?_
                      refine ik_Wk 4 (pc_q := 69) (loc_q := [some (.ref 0), some (fI p), some (fI a), some (fI b), some (fI n)]) (st_q := [fI n, fI b, fI a, fI p, .ref 7]) (h_q := h) (cl_q := 0) (sl_q := 0) rfl ?_
                      have hs := mx_rw_sum q2 (by omega) (by omega) (show 0 ≤ a ∧ a < cn.getD p.toNat 0 by omega) (show 0 ≤ b ∧ b < cn.getD p.toNat 0 by omega) (by omega)
                      refine fw_call 16 5 0 [.ref 7, fI p, fI a, fI b, fI n] [] rfl rfl rfl (Nat.le_of_ble_eq_true rfl) rfl rfl (fw_rec hl rfl h7 rfl (Nat.le_of_ble_eq_true rfl)) (cs_shift (p := p) (pl := pl) (lo := lo) (s := s) (cn := cn) (go := go) (ch := ch) (wg := wg) (wc := wc) (we := we) (a := a) (b := b) (n := n) (by omega) (by omega) q3 (by omega) (mx_rw_ch q2 p (by omega) (by omega)).2 (mx_rw_ch q2 p (by omega) (by omega)).1 (by omega) (by omega) (by omega) (by omega) (by omega) (by omega) h7 h8 n8 h9 n9 h10 n10 h11 n11 h12 n12 h13 n13 hl) ?_
                      rintro _ h_460 ⟨wg'_460, wc'_460, rfl, e_460_10, m_460_10, e_460_11, m_460_11, e_460_12, m_460_12, e_460_13, m_460_13, p_460_0, p_460_1, p_460_2, F_460⟩
                      have k_460 : cL h_460 := F_460.1.trans hl
                      have fr_460 := hfr_cb (hfr_refl [10, 11, 12, 13] h) F_460 rfl
                      have g_460_0 := (hfr_g F_460 0 rfl).trans h0
                      have g_460_7 := (hfr_g F_460 7 rfl).trans h7
                      have g_460_8 := (hfr_g F_460 8 rfl).trans h8
                      have g_460_9 := (hfr_g F_460 9 rfl).trans h9
                      have g_460_10 : cE h_460 10 (.inl (.int, fA (mx_sh ch p a b n))) := e_460_10
                      have g_460_11 : cE h_460 11 (.inl (.int, fA wg'_460)) := e_460_11
                      have g_460_12 : cE h_460 12 (.inl (.int, fA wc'_460)) := e_460_12
                      have g_460_13 : cE h_460 13 (.inl (.int, fA (we.set p.toNat (5 * p + ((mx_w cn go (mx_sh ch p a b n) s p).length : Int))))) := e_460_13
                      refine ik_Wk 0 (pc_q := 72) (loc_q := [some (.ref 0), some (fI p), some (fI a), some (fI b), some (fI n)]) (st_q := []) (h_q := h_460) (cl_q := 0) (sl_q := 0) rfl ?_
                      have wy_460 : ∀ x : Int, 0 ≤ x → x < pl - 1 → mx_wy wg'_460 wc'_460 (we.set p.toNat (5 * p + ((mx_w cn go (mx_sh ch p a b n) s p).length : Int))) x (mx_w cn go (mx_sh ch p a b n) s x) := mx_wy_one (W := (fun x => mx_w cn go ch s x)) (W' := (fun x => mx_w cn go (mx_sh ch p a b n) s x)) q1 (mx_rw_ok q2 _) (by omega) (by omega) n13 p_460_0 p_460_1 p_460_2 (fun x h0 h1 hx => mx_w_sh (by omega) (by omega) (by omega) n10 (by have := (q2 x h0 h1).1; omega) h0 hx)
                      refine ik_Wk 1 (pc_q := 73) (loc_q := [some (.ref 0), some (fI p), some (fI a), some (fI b), some (fI n)]) (st_q := [.ref 0]) (h_q := h_460) (cl_q := 0) (sl_q := 0) rfl ?_
                      refine fw_gf rfl rfl g_460_0 rfl ?_
                      refine fw_gf rfl rfl g_460_7 rfl ?_
                      refine ik_Wk 2 (pc_q := 81) (loc_q := [some (.ref 0), some (fI p), some (fI a), some (fI b), some (fI n)]) (st_q := [fI 4, fI p, .ref 10]) (h_q := h_460) (cl_q := 0) (sl_q := 0) rfl ?_
                      refine fx_mulc rfl ?_
                      refine ik_Wk 1 (pc_q := 83) (loc_q := [some (.ref 0), some (fI p), some (fI a), some (fI b), some (fI n)]) (st_q := [fI b, fI (4 * p), .ref 10]) (h_q := h_460) (cl_q := 0) (sl_q := 0) rfl ?_
                      refine fw_add rfl ?_
                      refine fw_ial rfl g_460_10 (by omega) (by omega) (by omega) ?_
                      rw [show (mx_sh ch p a b n).getD ((4 * p) + b).toNat 0 = ch.getD (4 * p + b).toNat 0 + n from by rw [mx_sh_get (by omega) (by omega), if_pos rfl]]
                      exact ik_Wret rfl rfl ⟨_, _, rfl, rfl, rfl, rfl, Or.inl ⟨wg'_460, wc'_460, (we.set p.toNat (5 * p + ((mx_w cn go (mx_sh ch p a b n) s p).length : Int))), rfl, g_460_10, m_460_10, g_460_11, m_460_11, g_460_12, m_460_12, g_460_13, m_460_13, (by omega), wy_460, fr_460⟩⟩
                  · refine fw_ld (-1000000002) rfl rfl (by decide +kernel) ?_
                    exact ik_Wret rfl rfl ⟨_, _, rfl, rfl, rfl, rfl, Or.inr ⟨(congrArg (fun z => [fI z]) (by unfold an_dg; (repeat' split) <;> first | rfl | omega)), h10, n10, h11, n11, h12, n12, h13, n13, (by omega), (hfr_refl [10, 11, 12, 13] h)⟩⟩

theorem rp_dig {h : List ik_E} {f : Nat → Int} {pl : Int} {p : Int} {a : Int} {b : Int} {n : Int} {cn : List Int} {go : List Int} {ch : List Int} (q0 : 0 ≤ pl ∧ pl ≤ 12) (q1 : mx_rw pl cn go ch) (q2 : -2147483648 ≤ p ∧ p < 2147483648) (q3 : -2147483648 ≤ a ∧ a < 2147483648) (q4 : -2147483648 ≤ b ∧ b < 2147483648) (q5 : -2147483648 ≤ n ∧ n < 2147483648) (h66 : cE h 66 (.inr (10, (fI pl :: .ref 67 :: .ref 68 :: .ref 69 :: fI (f 4) :: .ref 70 :: .ref 71 :: fI (f 7) :: fI (f 8) :: .ref 72 :: fI (f 10) :: fI (f 11) :: fI (f 12) :: fJ (f 13) :: fI (f 14) :: fI (f 15) :: fI (f 16) :: fI (f 17) :: .ref 73 :: .ref 74 :: .ref 75 :: .ref 76 :: .ref 77 :: .ref 78 :: fI (f 24) :: .ref 79 :: .ref 80 :: .ref 81 :: .ref 82 :: .ref 83 :: .ref 84 :: .ref 85 :: fJ (f 32) :: fJ (f 33) :: .ref 86 :: .ref 87 :: fI (f 36) :: .ref 88 :: .ref 89 :: .ref 90 :: .ref 91 :: .ref 92 :: .ref 93 :: [])))) (h67 : cE h 67 (.inl (.int, fA cn))) (n67 : cn.length = 12) (h68 : cE h 68 (.inl (.int, fA go))) (n68 : go.length = 48) (h69 : cE h 69 (.inl (.int, fA ch))) (n69 : ch.length = 48) (hl : h.length = 94) : ik_F 189 [.ref 66, fI p, fI a, fI b, fI n] h (fun rv h_q => (rv = [fI (ch.getD (4 * p + b).toNat 0 + n)] ∧ cE h_q 69 (.inl (.int, fA (mx_sh ch p a b n))) ∧ (mx_sh ch p a b n).length = 48 ∧ (((0 ≤ p ∧ p < pl - 1) ∧ (0 ≤ a ∧ a < cn.getD p.toNat 0) ∧ (0 ≤ b ∧ b < cn.getD p.toNat 0) ∧ ¬ a = b) ∧ (1 ≤ n ∧ n ≤ 99) ∧ n < ch.getD (4 * p + a).toNat 0) ∧ hfr [69] h h_q) ∨ (rv = [fI (an_dg pl (cn.getD p.toNat 0) p a b n)] ∧ cE h_q 69 (.inl (.int, fA ch)) ∧ ch.length = 48 ∧ (¬ (((0 ≤ p ∧ p < pl - 1) ∧ (0 ≤ a ∧ a < cn.getD p.toNat 0) ∧ (0 ≤ b ∧ b < cn.getD p.toNat 0) ∧ ¬ a = b) ∧ (1 ≤ n ∧ n ≤ 99) ∧ n < ch.getD (4 * p + a).toNat 0)) ∧ hfr [69] h h_q)) := by
  refine ik_Wk 2 (pc_q := 2) (loc_q := [some (.ref 66), some (fI p), some (fI a), some (fI b), some (fI n)]) (st_q := [fI p, .ref 66]) (h_q := h) (cl_q := 0) (sl_q := 0) rfl ?_
  refine ik_Wc 131 2 0 [.ref 66, fI p] [] rfl rfl rfl (by decide +kernel) rfl rfl (fw_rec hl rfl h66 rfl (Nat.le_of_ble_eq_true rfl)) ?_
  refine ik_Wk 0 (pc_q := 0) (loc_q := [some (.ref 66), some (fI p)]) (st_q := []) (h_q := h) (cl_q := 0) (sl_q := 0) rfl ?_
  refine ik_Wk 1 (pc_q := 1) (loc_q := [some (.ref 66), some (fI p)]) (st_q := [fI p]) (h_q := h) (cl_q := 0) (sl_q := 0) rfl ?_
  refine fw_i2l rfl (by omega) (by omega) ?_
  refine fw_lc (z := 0) rfl (by decide +kernel) ?_
  refine ik_Wk 1 (pc_q := 4) (loc_q := [some (.ref 66), some (fI p)]) (st_q := [.ref 66, fJ 0, fJ p]) (h_q := h) (cl_q := 0) (sl_q := 0) rfl ?_
  refine fw_gf rfl rfl h66 rfl ?_
  refine ik_Wk 1 (pc_q := 8) (loc_q := [some (.ref 66), some (fI p)]) (st_q := [fI 2, fI pl, fJ 0, fJ p]) (h_q := h) (cl_q := 0) (sl_q := 0) rfl ?_
  refine fw_sub rfl ?_
  refine fw_i2l rfl (by omega) (by omega) ?_
  refine fw_call 127 3 3 [fJ p, fJ 0, fJ (pl - 2)] [] rfl rfl rfl (Nat.le_of_ble_eq_true rfl) rfl rfl (fw_sta hl rfl (by decide +kernel)) (cr_in (v := p) (a := 0) (b := pl - 2) (by omega) (by omega) (by omega)  hl) ?_
  rintro _ h_461 (⟨rfl, p_461_0, F_461⟩ | ⟨rfl, p_461_0, F_461⟩)
  · have k_461 : cL h_461 := F_461.1.trans hl
    have fr_461 := hfr_cb (hfr_refl [69] h) F_461 rfl
    have g_461_66 := (hfr_g F_461 66 rfl).trans h66
    have g_461_67 := (hfr_g F_461 67 rfl).trans h67
    have g_461_68 := (hfr_g F_461 68 rfl).trans h68
    have g_461_69 := (hfr_g F_461 69 rfl).trans h69
    refine ik_Wk 0 (pc_q := 13) (loc_q := [some (.ref 66), some (fI p)]) (st_q := [fI 1]) (h_q := h_461) (cl_q := 0) (sl_q := 0) rfl ?_
    refine ik_Wret rfl rfl ⟨_, _, rfl, rfl, ?_⟩
    refine ik_Wk 0 (pc_q := 5) (loc_q := [some (.ref 66), some (fI p), some (fI a), some (fI b), some (fI n)]) (st_q := [fI 1]) (h_q := h_461) (cl_q := 0) (sl_q := 0) rfl ?_
    refine fw_if_eq rfl rfl (by decide +kernel) (by decide +kernel) (fun hc1 => absurd hc1 (by decide +kernel)) (fun hc1 => ?_)
    refine ik_Wk 1 (pc_q := 9) (loc_q := [some (.ref 66), some (fI p), some (fI a), some (fI b), some (fI n)]) (st_q := [fI a]) (h_q := h_461) (cl_q := 0) (sl_q := 0) rfl ?_
    refine fw_i2l rfl (by omega) (by omega) ?_
    refine fw_lc (z := 0) rfl (by decide +kernel) ?_
    refine ik_Wk 1 (pc_q := 12) (loc_q := [some (.ref 66), some (fI p), some (fI a), some (fI b), some (fI n)]) (st_q := [.ref 66, fJ 0, fJ a]) (h_q := h_461) (cl_q := 0) (sl_q := 0) rfl ?_
    refine fw_gf rfl rfl g_461_66 rfl ?_
    refine ik_Wk 1 (pc_q := 16) (loc_q := [some (.ref 66), some (fI p), some (fI a), some (fI b), some (fI n)]) (st_q := [fI p, .ref 67, fJ 0, fJ a]) (h_q := h_461) (cl_q := 0) (sl_q := 0) rfl ?_
    refine fw_ial rfl g_461_67 (by omega) (by omega) (by omega) ?_
    have hn2 := (q1 p (by omega) (by omega)).1
    refine ik_Wk 1 (pc_q := 18) (loc_q := [some (.ref 66), some (fI p), some (fI a), some (fI b), some (fI n)]) (st_q := [fI 1, fI (cn.getD p.toNat 0), fJ 0, fJ a]) (h_q := h_461) (cl_q := 0) (sl_q := 0) rfl ?_
    refine fw_sub rfl ?_
    refine fw_i2l rfl (by omega) (by omega) ?_
    refine fw_call 127 3 3 [fJ a, fJ 0, fJ ((cn.getD p.toNat 0) - 1)] [] rfl rfl rfl (Nat.le_of_ble_eq_true rfl) rfl rfl (fw_sta k_461 rfl (by decide +kernel)) (cr_in (v := a) (a := 0) (b := (cn.getD p.toNat 0) - 1) (by omega) (by omega) (by omega)  k_461) ?_
    rintro _ h_462 (⟨rfl, p_462_0, F_462⟩ | ⟨rfl, p_462_0, F_462⟩)
    · have k_462 : cL h_462 := F_462.1.trans k_461
      have fr_462 := hfr_cb fr_461 F_462 rfl
      have g_462_66 := (hfr_g F_462 66 rfl).trans g_461_66
      have g_462_67 := (hfr_g F_462 67 rfl).trans g_461_67
      have g_462_68 := (hfr_g F_462 68 rfl).trans g_461_68
      have g_462_69 := (hfr_g F_462 69 rfl).trans g_461_69
      refine ik_Wk 0 (pc_q := 23) (loc_q := [some (.ref 66), some (fI p), some (fI a), some (fI b), some (fI n)]) (st_q := [fI 1]) (h_q := h_462) (cl_q := 0) (sl_q := 0) rfl ?_
      refine fw_if_eq rfl rfl (by decide +kernel) (by decide +kernel) (fun hc3 => absurd hc3 (by decide +kernel)) (fun hc3 => ?_)
      refine ik_Wk 1 (pc_q := 27) (loc_q := [some (.ref 66), some (fI p), some (fI a), some (fI b), some (fI n)]) (st_q := [fI b]) (h_q := h_462) (cl_q := 0) (sl_q := 0) rfl ?_
      refine fw_i2l rfl (by omega) (by omega) ?_
      refine fw_lc (z := 0) rfl (by decide +kernel) ?_
      refine ik_Wk 1 (pc_q := 30) (loc_q := [some (.ref 66), some (fI p), some (fI a), some (fI b), some (fI n)]) (st_q := [.ref 66, fJ 0, fJ b]) (h_q := h_462) (cl_q := 0) (sl_q := 0) rfl ?_
      refine fw_gf rfl rfl g_462_66 rfl ?_
      refine ik_Wk 1 (pc_q := 34) (loc_q := [some (.ref 66), some (fI p), some (fI a), some (fI b), some (fI n)]) (st_q := [fI p, .ref 67, fJ 0, fJ b]) (h_q := h_462) (cl_q := 0) (sl_q := 0) rfl ?_
      refine fw_ial rfl g_462_67 (by omega) (by omega) (by omega) ?_
      have hn4 := (q1 p (by omega) (by omega)).1
      refine ik_Wk 1 (pc_q := 36) (loc_q := [some (.ref 66), some (fI p), some (fI a), some (fI b), some (fI n)]) (st_q := [fI 1, fI (cn.getD p.toNat 0), fJ 0, fJ b]) (h_q := h_462) (cl_q := 0) (sl_q := 0) rfl ?_
      refine fw_sub rfl ?_
      refine fw_i2l rfl (by omega) (by omega) ?_
      refine fw_call 127 3 3 [fJ b, fJ 0, fJ ((cn.getD p.toNat 0) - 1)] [] rfl rfl rfl (Nat.le_of_ble_eq_true rfl) rfl rfl (fw_sta k_462 rfl (by decide +kernel)) (cr_in (v := b) (a := 0) (b := (cn.getD p.toNat 0) - 1) (by omega) (by omega) (by omega)  k_462) ?_
      rintro _ h_463 (⟨rfl, p_463_0, F_463⟩ | ⟨rfl, p_463_0, F_463⟩)
      · have k_463 : cL h_463 := F_463.1.trans k_462
        have fr_463 := hfr_cb fr_462 F_463 rfl
        have g_463_66 := (hfr_g F_463 66 rfl).trans g_462_66
        have g_463_67 := (hfr_g F_463 67 rfl).trans g_462_67
        have g_463_68 := (hfr_g F_463 68 rfl).trans g_462_68
        have g_463_69 := (hfr_g F_463 69 rfl).trans g_462_69
        refine ik_Wk 0 (pc_q := 41) (loc_q := [some (.ref 66), some (fI p), some (fI a), some (fI b), some (fI n)]) (st_q := [fI 1]) (h_q := h_463) (cl_q := 0) (sl_q := 0) rfl ?_
        refine fw_if_eq rfl rfl (by decide +kernel) (by decide +kernel) (fun hc5 => absurd hc5 (by decide +kernel)) (fun hc5 => ?_)
        refine ik_Wk 2 (pc_q := 46) (loc_q := [some (.ref 66), some (fI p), some (fI a), some (fI b), some (fI n)]) (st_q := [fI b, fI a]) (h_q := h_463) (cl_q := 0) (sl_q := 0) rfl ?_
        refine fw_ic_ne rfl rfl (by omega) (by omega) (by omega) (by omega) (fun hc6 => ?_) (fun hc6 => ?_)
        · refine fw_ld (-1000000001) rfl rfl (by decide +kernel) ?_
          exact ik_Wret rfl rfl ⟨_, _, rfl, rfl, rfl, rfl, Or.inr ⟨(congrArg (fun z => [fI z]) (by unfold an_dg; (repeat' split) <;> first | rfl | omega)), g_463_69, n69, (by omega), fr_463⟩⟩
        · refine ik_Wk 1 (pc_q := 54) (loc_q := [some (.ref 66), some (fI p), some (fI a), some (fI b), some (fI n)]) (st_q := [fI n]) (h_q := h_463) (cl_q := 0) (sl_q := 0) rfl ?_
          refine fw_i2l rfl (by omega) (by omega) ?_
          refine fw_lc (z := 1) rfl (by decide +kernel) ?_
          refine fw_l2 99 rfl rfl (by decide +kernel) ?_
          refine fw_call 127 3 3 [fJ n, fJ 1, fJ 99] [] rfl rfl rfl (Nat.le_of_ble_eq_true rfl) rfl rfl (fw_sta k_463 rfl (by decide +kernel)) (cr_in (v := n) (a := 1) (b := 99) (by omega) (by omega) (by omega)  k_463) ?_
          rintro _ h_464 (⟨rfl, p_464_0, F_464⟩ | ⟨rfl, p_464_0, F_464⟩)
          · have k_464 : cL h_464 := F_464.1.trans k_463
            have fr_464 := hfr_cb fr_463 F_464 rfl
            have g_464_66 := (hfr_g F_464 66 rfl).trans g_463_66
            have g_464_67 := (hfr_g F_464 67 rfl).trans g_463_67
            have g_464_68 := (hfr_g F_464 68 rfl).trans g_463_68
            have g_464_69 := (hfr_g F_464 69 rfl).trans g_463_69
            refine ik_Wk 0 (pc_q := 62) (loc_q := [some (.ref 66), some (fI p), some (fI a), some (fI b), some (fI n)]) (st_q := [fI 1]) (h_q := h_464) (cl_q := 0) (sl_q := 0) rfl ?_
            refine fw_if_ne rfl rfl (by decide +kernel) (by decide +kernel) (fun hc7 => absurd hc7 (by decide +kernel)) (fun hc7 => ?_)
            refine ik_Wk 1 (pc_q := 69) (loc_q := [some (.ref 66), some (fI p), some (fI a), some (fI b), some (fI n)]) (st_q := [.ref 66]) (h_q := h_464) (cl_q := 0) (sl_q := 0) rfl ?_
            refine fw_gf rfl rfl g_464_66 rfl ?_
            refine ik_Wk 2 (pc_q := 74) (loc_q := [some (.ref 66), some (fI p), some (fI a), some (fI b), some (fI n)]) (st_q := [fI p, fI 4, .ref 69]) (h_q := h_464) (cl_q := 0) (sl_q := 0) rfl ?_
            refine fw_mul rfl ?_
            refine ik_Wk 1 (pc_q := 76) (loc_q := [some (.ref 66), some (fI p), some (fI a), some (fI b), some (fI n)]) (st_q := [fI a, fI (4 * p), .ref 69]) (h_q := h_464) (cl_q := 0) (sl_q := 0) rfl ?_
            refine fw_add rfl ?_
            refine fw_ial rfl g_464_69 (by omega) (by omega) (by omega) ?_
            have hd8 := (q1 p (by omega) (by omega)).2.1 a (by omega) (by omega)
            refine ik_Wk 1 (pc_q := 80) (loc_q := [some (.ref 66), some (fI p), some (fI a), some (fI b), some (fI n)]) (st_q := [fI n, fI (ch.getD ((4 * p) + a).toNat 0)]) (h_q := h_464) (cl_q := 0) (sl_q := 0) rfl ?_
            refine fw_sub rfl ?_
            refine ik_Wk 1 (pc_q := 82) (loc_q := [some (.ref 66), some (fI p), some (fI a), some (fI b), some (fI n)]) (st_q := [fI 1, fI ((ch.getD ((4 * p) + a).toNat 0) - n)]) (h_q := h_464) (cl_q := 0) (sl_q := 0) rfl ?_
            refine fw_ic_ge rfl rfl (by omega) (by omega) (by omega) (by omega) (fun hc9 => ?_) (fun hc9 => ?_)
            · refine ik_Wk 1 (pc_q := 89) (loc_q := [some (.ref 66), some (fI p), some (fI a), some (fI b), some (fI n)]) (st_q := [.ref 66]) (h_q := h_464) (cl_q := 0) (sl_q := 0) rfl ?_
              refine fw_gf rfl rfl g_464_66 rfl ?_
              refine ik_Wk 2 (pc_q := 94) (loc_q := [some (.ref 66), some (fI p), some (fI a), some (fI b), some (fI n)]) (st_q := [fI p, fI 4, .ref 69]) (h_q := h_464) (cl_q := 0) (sl_q := 0) rfl ?_
              refine fw_mul rfl ?_
              refine ik_Wk 1 (pc_q := 96) (loc_q := [some (.ref 66), some (fI p), some (fI a), some (fI b), some (fI n)]) (st_q := [fI a, fI (4 * p), .ref 69]) (h_q := h_464) (cl_q := 0) (sl_q := 0) rfl ?_
              refine fw_add rfl ?_
              refine ik_Wk 1 (pc_q := 98) (loc_q := [some (.ref 66), some (fI p), some (fI a), some (fI b), some (fI n)]) (st_q := [fI ((4 * p) + a), .ref 69, fI ((4 * p) + a), .ref 69]) (h_q := h_464) (cl_q := 0) (sl_q := 0) rfl ?_
              refine fw_ial rfl g_464_69 (by omega) (by omega) (by omega) ?_
              have hd10 := (q1 p (by omega) (by omega)).2.1 a (by omega) (by omega)
              refine ik_Wk 1 (pc_q := 101) (loc_q := [some (.ref 66), some (fI p), some (fI a), some (fI b), some (fI n)]) (st_q := [fI n, fI (ch.getD ((4 * p) + a).toNat 0), fI ((4 * p) + a), .ref 69]) (h_q := h_464) (cl_q := 0) (sl_q := 0) rfl ?_
              refine fw_sub rfl ?_
              have hl11 : (ch.set ((4 * p) + a).toNat ((ch.getD ((4 * p) + a).toNat 0) - n)).length = 48 := (List.length_set ..).trans n69
              refine fx_ias rfl g_464_69 (by omega) (by omega) (by omega) ?_
              intro h_465 e_465 f_465 l_465
              have k_465 : cL h_465 := l_465.trans k_464
              have fr_465 := hfr_wb fr_464 f_465 l_465 rfl
              clear l_465
              have g_465_66 := (f_465 66 (Nat.ne_of_beq_eq_false rfl)).trans g_464_66
              have g_465_67 := (f_465 67 (Nat.ne_of_beq_eq_false rfl)).trans g_464_67
              have g_465_68 := (f_465 68 (Nat.ne_of_beq_eq_false rfl)).trans g_464_68
              have g_465_69 : cE h_465 69 (.inl (.int, fA (ch.set ((4 * p) + a).toNat ((ch.getD ((4 * p) + a).toNat 0) - n)))) := e_465
              refine ik_Wk 1 (pc_q := 104) (loc_q := [some (.ref 66), some (fI p), some (fI a), some (fI b), some (fI n)]) (st_q := [.ref 66]) (h_q := h_465) (cl_q := 0) (sl_q := 0) rfl ?_
              refine fw_gf rfl rfl g_465_66 rfl ?_
              refine ik_Wk 2 (pc_q := 109) (loc_q := [some (.ref 66), some (fI p), some (fI a), some (fI b), some (fI n)]) (st_q := [fI p, fI 4, .ref 69]) (h_q := h_465) (cl_q := 0) (sl_q := 0) rfl ?_
              refine fw_mul rfl ?_
              refine ik_Wk 1 (pc_q := 111) (loc_q := [some (.ref 66), some (fI p), some (fI a), some (fI b), some (fI n)]) (st_q := [fI b, fI (4 * p), .ref 69]) (h_q := h_465) (cl_q := 0) (sl_q := 0) rfl ?_
              refine fw_add rfl ?_
              refine ik_Wk 1 (pc_q := 113) (loc_q := [some (.ref 66), some (fI p), some (fI a), some (fI b), some (fI n)]) (st_q := [fI ((4 * p) + b), .ref 69, fI ((4 * p) + b), .ref 69]) (h_q := h_465) (cl_q := 0) (sl_q := 0) rfl ?_
              refine fw_ial rfl g_465_69 (by omega) (by omega) (by omega) ?_
              rw [show (ch.set ((4 * p) + a).toNat ((ch.getD ((4 * p) + a).toNat 0) - n)).getD ((4 * p) + b).toNat 0 = ch.getD (4 * p + b).toNat 0 from by rw [fz_getD_set, if_neg (by omega)]]
              refine ik_Wk 1 (pc_q := 116) (loc_q := [some (.ref 66), some (fI p), some (fI a), some (fI b), some (fI n)]) (st_q := [fI n, fI (ch.getD (4 * p + b).toNat 0), fI ((4 * p) + b), .ref 69]) (h_q := h_465) (cl_q := 0) (sl_q := 0) rfl ?_
              refine fw_add rfl ?_
              have hl12 : ((ch.set ((4 * p) + a).toNat ((ch.getD ((4 * p) + a).toNat 0) - n)).set ((4 * p) + b).toNat ((ch.getD (4 * p + b).toNat 0) + n)).length = 48 := (List.length_set ..).trans hl11
              refine fx_ias rfl g_465_69 (by omega) (by omega) (by omega) ?_
              intro h_466 e_466 f_466 l_466
              have k_466 : cL h_466 := l_466.trans k_465
              have fr_466 := hfr_wb fr_465 f_466 l_466 rfl
              clear l_466
              have g_466_66 := (f_466 66 (Nat.ne_of_beq_eq_false rfl)).trans g_465_66
              have g_466_67 := (f_466 67 (Nat.ne_of_beq_eq_false rfl)).trans g_465_67
              have g_466_68 := (f_466 68 (Nat.ne_of_beq_eq_false rfl)).trans g_465_68
              have g_466_69 : cE h_466 69 (.inl (.int, fA ((ch.set ((4 * p) + a).toNat ((ch.getD ((4 * p) + a).toNat 0) - n)).set ((4 * p) + b).toNat ((ch.getD (4 * p + b).toNat 0) + n)))) := e_466
              refine ik_Wk 1 (pc_q := 119) (loc_q := [some (.ref 66), some (fI p), some (fI a), some (fI b), some (fI n)]) (st_q := [.ref 66]) (h_q := h_466) (cl_q := 0) (sl_q := 0) rfl ?_
              refine fw_gf rfl rfl g_466_66 rfl ?_
              refine ik_Wk 2 (pc_q := 124) (loc_q := [some (.ref 66), some (fI p), some (fI a), some (fI b), some (fI n)]) (st_q := [fI p, fI 4, .ref 69]) (h_q := h_466) (cl_q := 0) (sl_q := 0) rfl ?_
              refine fw_mul rfl ?_
              refine ik_Wk 1 (pc_q := 126) (loc_q := [some (.ref 66), some (fI p), some (fI a), some (fI b), some (fI n)]) (st_q := [fI b, fI (4 * p), .ref 69]) (h_q := h_466) (cl_q := 0) (sl_q := 0) rfl ?_
              refine fw_add rfl ?_
              refine fw_ial rfl g_466_69 (by omega) (by omega) (by omega) ?_
              rw [show ((ch.set ((4 * p) + a).toNat ((ch.getD ((4 * p) + a).toNat 0) - n)).set ((4 * p) + b).toNat ((ch.getD (4 * p + b).toNat 0) + n)).getD ((4 * p) + b).toNat 0 = ch.getD (4 * p + b).toNat 0 + n from by rw [fz_getD_set, if_pos ⟨rfl, by rw [List.length_set]; omega⟩]]
              exact ik_Wret rfl rfl ⟨_, _, rfl, rfl, rfl, rfl, Or.inl ⟨rfl, g_466_69, hl12, (by omega), fr_466⟩⟩
            · refine fw_ld (-1000000003) rfl rfl (by decide +kernel) ?_
              exact ik_Wret rfl rfl ⟨_, _, rfl, rfl, rfl, rfl, Or.inr ⟨(congrArg (fun z => [fI z]) (by unfold an_dg; (repeat' split) <;> first | rfl | omega)), g_464_69, n69, (by omega), fr_464⟩⟩
          · have k_464 : cL h_464 := F_464.1.trans k_463
            have fr_464 := hfr_cb fr_463 F_464 rfl
            have g_464_66 := (hfr_g F_464 66 rfl).trans g_463_66
            have g_464_67 := (hfr_g F_464 67 rfl).trans g_463_67
            have g_464_68 := (hfr_g F_464 68 rfl).trans g_463_68
            have g_464_69 := (hfr_g F_464 69 rfl).trans g_463_69
            refine ik_Wk 0 (pc_q := 62) (loc_q := [some (.ref 66), some (fI p), some (fI a), some (fI b), some (fI n)]) (st_q := [fI 0]) (h_q := h_464) (cl_q := 0) (sl_q := 0) rfl ?_
            refine fw_if_ne rfl rfl (by decide +kernel) (by decide +kernel) (fun hc13 => ?_) (fun hc13 => absurd hc13 (by decide +kernel))
            refine fw_ld (-1000000002) rfl rfl (by decide +kernel) ?_
            exact ik_Wret rfl rfl ⟨_, _, rfl, rfl, rfl, rfl, Or.inr ⟨(congrArg (fun z => [fI z]) (by unfold an_dg; (repeat' split) <;> first | rfl | omega)), g_464_69, n69, (by omega), fr_464⟩⟩
      · have k_463 : cL h_463 := F_463.1.trans k_462
        have fr_463 := hfr_cb fr_462 F_463 rfl
        have g_463_66 := (hfr_g F_463 66 rfl).trans g_462_66
        have g_463_67 := (hfr_g F_463 67 rfl).trans g_462_67
        have g_463_68 := (hfr_g F_463 68 rfl).trans g_462_68
        have g_463_69 := (hfr_g F_463 69 rfl).trans g_462_69
        refine ik_Wk 0 (pc_q := 41) (loc_q := [some (.ref 66), some (fI p), some (fI a), some (fI b), some (fI n)]) (st_q := [fI 0]) (h_q := h_463) (cl_q := 0) (sl_q := 0) rfl ?_
        refine fw_if_eq rfl rfl (by decide +kernel) (by decide +kernel) (fun hc14 => ?_) (fun hc14 => absurd hc14 (by decide +kernel))
        refine fw_ld (-1000000001) rfl rfl (by decide +kernel) ?_
        exact ik_Wret rfl rfl ⟨_, _, rfl, rfl, rfl, rfl, Or.inr ⟨(congrArg (fun z => [fI z]) (by unfold an_dg; (repeat' split) <;> first | rfl | omega)), g_463_69, n69, (by omega), fr_463⟩⟩
    · have k_462 : cL h_462 := F_462.1.trans k_461
      have fr_462 := hfr_cb fr_461 F_462 rfl
      have g_462_66 := (hfr_g F_462 66 rfl).trans g_461_66
      have g_462_67 := (hfr_g F_462 67 rfl).trans g_461_67
      have g_462_68 := (hfr_g F_462 68 rfl).trans g_461_68
      have g_462_69 := (hfr_g F_462 69 rfl).trans g_461_69
      refine ik_Wk 0 (pc_q := 23) (loc_q := [some (.ref 66), some (fI p), some (fI a), some (fI b), some (fI n)]) (st_q := [fI 0]) (h_q := h_462) (cl_q := 0) (sl_q := 0) rfl ?_
      refine fw_if_eq rfl rfl (by decide +kernel) (by decide +kernel) (fun hc15 => ?_) (fun hc15 => absurd hc15 (by decide +kernel))
      refine fw_ld (-1000000001) rfl rfl (by decide +kernel) ?_
      exact ik_Wret rfl rfl ⟨_, _, rfl, rfl, rfl, rfl, Or.inr ⟨(congrArg (fun z => [fI z]) (by unfold an_dg; (repeat' split) <;> first | rfl | omega)), g_462_69, n69, (by omega), fr_462⟩⟩
  · have k_461 : cL h_461 := F_461.1.trans hl
    have fr_461 := hfr_cb (hfr_refl [69] h) F_461 rfl
    have g_461_66 := (hfr_g F_461 66 rfl).trans h66
    have g_461_67 := (hfr_g F_461 67 rfl).trans h67
    have g_461_68 := (hfr_g F_461 68 rfl).trans h68
    have g_461_69 := (hfr_g F_461 69 rfl).trans h69
    refine ik_Wk 0 (pc_q := 13) (loc_q := [some (.ref 66), some (fI p)]) (st_q := [fI 0]) (h_q := h_461) (cl_q := 0) (sl_q := 0) rfl ?_
    refine ik_Wret rfl rfl ⟨_, _, rfl, rfl, ?_⟩
    refine ik_Wk 0 (pc_q := 5) (loc_q := [some (.ref 66), some (fI p), some (fI a), some (fI b), some (fI n)]) (st_q := [fI 0]) (h_q := h_461) (cl_q := 0) (sl_q := 0) rfl ?_
    refine fw_if_eq rfl rfl (by decide +kernel) (by decide +kernel) (fun hc16 => ?_) (fun hc16 => absurd hc16 (by decide +kernel))
    refine fw_ld (-1000000001) rfl rfl (by decide +kernel) ?_
    exact ik_Wret rfl rfl ⟨_, _, rfl, rfl, rfl, rfl, Or.inr ⟨(congrArg (fun z => [fI z]) (by unfold an_dg; (repeat' split) <;> first | rfl | omega)), g_461_69, n69, (by omega), fr_461⟩⟩

theorem cp_where0 {h : List ik_E} {pl : Int} {st : Int} {lo : Int} {mi : Int} {dr : Int} {xa : Int} {xb : Int} (q0 : 0 ≤ pl ∧ pl ≤ 12) (h0 : cE h 0 (.inr (9, [.ref 1, .ref 7, .ref 14, .ref 17, .ref 45, .ref 51, .ref 54, .ref 57]))) (h7 : cE h 7 (.inr (0, [fI pl, fI st, fI lo, .ref 8, .ref 9, .ref 10, .ref 11, .ref 12, .ref 13]))) (h14 : cE h 14 (.inr (1, [.ref 7, .ref 15, .ref 16, fI mi, fJ dr]))) (h16 : cE h 16 (.inl (.int, fA [xa, xb]))) (hl : h.length = 94) : ik_F 112 [.ref 0, fI 0] h (fun rv h_q => rv = [fI (if 1 < pl then xa else -1000000003)] ∧ hfr [] h h_q) := by
  refine ik_Wk 1 (pc_q := 1) (loc_q := [some (.ref 0), some (fI 0)]) (st_q := [fI 0]) (h_q := h) (cl_q := 0) (sl_q := 0) rfl ?_
  refine ik_Wc 121 1 3 [fI 0] [] rfl rfl rfl (by decide +kernel) rfl rfl (fw_sta hl rfl (by decide +kernel)) ?_
  refine ik_Wk 0 (pc_q := 0) (loc_q := [some (fI 0)]) (st_q := []) (h_q := h) (cl_q := 0) (sl_q := 0) rfl ?_
  refine ik_Wk 1 (pc_q := 1) (loc_q := [some (fI 0)]) (st_q := [fI 0]) (h_q := h) (cl_q := 0) (sl_q := 0) rfl ?_
  refine fw_if_eq rfl rfl (by decide +kernel) (by decide +kernel) (fun hc1 => ?_) (fun hc1 => absurd hc1 (by decide +kernel))
  refine ik_Wk 2 (pc_q := 14) (loc_q := [some (fI 0)]) (st_q := [fI 1]) (h_q := h) (cl_q := 0) (sl_q := 0) rfl ?_
  refine ik_Wret rfl rfl ⟨_, _, rfl, rfl, ?_⟩
  refine ik_Wk 0 (pc_q := 4) (loc_q := [some (.ref 0), some (fI 0)]) (st_q := [fI 1]) (h_q := h) (cl_q := 0) (sl_q := 0) rfl ?_
  refine fw_if_ne rfl rfl (by decide +kernel) (by decide +kernel) (fun hc2 => absurd hc2 (by decide +kernel)) (fun hc2 => ?_)
  refine ik_Wk 1 (pc_q := 11) (loc_q := [some (.ref 0), some (fI 0)]) (st_q := [.ref 0]) (h_q := h) (cl_q := 0) (sl_q := 0) rfl ?_
  refine fw_gf rfl rfl h0 rfl ?_
  refine ik_Wc 7 1 0 [.ref 7] [] rfl rfl rfl (by decide +kernel) rfl rfl (fw_rec hl rfl h7 rfl (Nat.le_of_ble_eq_true rfl)) ?_
  refine ik_Wk 0 (pc_q := 0) (loc_q := [some (.ref 7)]) (st_q := []) (h_q := h) (cl_q := 0) (sl_q := 0) rfl ?_
  refine ik_Wk 1 (pc_q := 1) (loc_q := [some (.ref 7)]) (st_q := [.ref 7]) (h_q := h) (cl_q := 0) (sl_q := 0) rfl ?_
  refine fw_gf rfl rfl h7 rfl ?_
  refine ik_Wk 1 (pc_q := 5) (loc_q := [some (.ref 7)]) (st_q := [fI 1, fI pl]) (h_q := h) (cl_q := 0) (sl_q := 0) rfl ?_
  refine fw_ic_le rfl rfl (by omega) (by omega) (by omega) (by omega) (fun hc3 => ?_) (fun hc3 => ?_)
  · refine ik_Wk 1 (pc_q := 13) (loc_q := [some (.ref 7)]) (st_q := [fI 0]) (h_q := h) (cl_q := 0) (sl_q := 0) rfl ?_
    refine ik_Wret rfl rfl ⟨_, _, rfl, rfl, ?_⟩
    refine ik_Wk 0 (pc_q := 17) (loc_q := [some (.ref 0), some (fI 0)]) (st_q := [fI 0]) (h_q := h) (cl_q := 0) (sl_q := 0) rfl ?_
    refine fw_if_ne rfl rfl (by decide +kernel) (by decide +kernel) (fun hc4 => ?_) (fun hc4 => absurd hc4 (by decide +kernel))
    refine fw_ld (-1000000003) rfl rfl (by decide +kernel) ?_
    exact ik_Wret rfl rfl ⟨_, _, rfl, rfl, rfl, rfl, ⟨(congrArg (fun z => [fI z]) (by (repeat' split) <;> first | rfl | omega)), (hfr_refl [] h)⟩⟩
  · refine ik_Wk 2 (pc_q := 13) (loc_q := [some (.ref 7)]) (st_q := [fI 1]) (h_q := h) (cl_q := 0) (sl_q := 0) rfl ?_
    refine ik_Wret rfl rfl ⟨_, _, rfl, rfl, ?_⟩
    refine ik_Wk 0 (pc_q := 17) (loc_q := [some (.ref 0), some (fI 0)]) (st_q := [fI 1]) (h_q := h) (cl_q := 0) (sl_q := 0) rfl ?_
    refine fw_if_ne rfl rfl (by decide +kernel) (by decide +kernel) (fun hc5 => absurd hc5 (by decide +kernel)) (fun hc5 => ?_)
    refine ik_Wk 1 (pc_q := 24) (loc_q := [some (.ref 0), some (fI 0)]) (st_q := [.ref 0]) (h_q := h) (cl_q := 0) (sl_q := 0) rfl ?_
    refine fw_gf rfl rfl h0 rfl ?_
    refine fw_gf rfl rfl h14 rfl ?_
    refine ik_Wk 1 (pc_q := 31) (loc_q := [some (.ref 0), some (fI 0)]) (st_q := [fI 0, .ref 16]) (h_q := h) (cl_q := 0) (sl_q := 0) rfl ?_
    refine fw_ial (z := 0) rfl h16 (by decide +kernel) (Nat.le_of_ble_eq_true rfl) (by decide +kernel) ?_
    refine ik_Wk 0 (pc_q := 32) (loc_q := [some (.ref 0), some (fI 0)]) (st_q := [fI xa]) (h_q := h) (cl_q := 0) (sl_q := 0) rfl ?_
    exact ik_Wret rfl rfl ⟨_, _, rfl, rfl, rfl, rfl, ⟨(congrArg (fun z => [fI z]) (by (repeat' split) <;> first | rfl | omega)), (hfr_refl [] h)⟩⟩

theorem rp_where0 {h : List ik_E} {f : Nat → Int} {pl : Int} {xa : Int} {xb : Int} (q0 : 0 ≤ pl ∧ pl ≤ 12) (h66 : cE h 66 (.inr (10, (fI pl :: .ref 67 :: .ref 68 :: .ref 69 :: fI (f 4) :: .ref 70 :: .ref 71 :: fI (f 7) :: fI (f 8) :: .ref 72 :: fI (f 10) :: fI (f 11) :: fI (f 12) :: fJ (f 13) :: fI (f 14) :: fI (f 15) :: fI (f 16) :: fI (f 17) :: .ref 73 :: .ref 74 :: .ref 75 :: .ref 76 :: .ref 77 :: .ref 78 :: fI (f 24) :: .ref 79 :: .ref 80 :: .ref 81 :: .ref 82 :: .ref 83 :: .ref 84 :: .ref 85 :: fJ (f 32) :: fJ (f 33) :: .ref 86 :: .ref 87 :: fI (f 36) :: .ref 88 :: .ref 89 :: .ref 90 :: .ref 91 :: .ref 92 :: .ref 93 :: [])))) (h71 : cE h 71 (.inl (.int, fA [xa, xb]))) (hl : h.length = 94) : ik_F 200 [.ref 66, fI 0] h (fun rv h_q => rv = [fI (if 1 < pl then xa else -1000000003)] ∧ hfr [] h h_q) := by
  refine ik_Wk 1 (pc_q := 1) (loc_q := [some (.ref 66), some (fI 0)]) (st_q := [fI 0]) (h_q := h) (cl_q := 0) (sl_q := 0) rfl ?_
  refine ik_Wc 132 1 3 [fI 0] [] rfl rfl rfl (by decide +kernel) rfl rfl (fw_sta hl rfl (by decide +kernel)) ?_
  refine ik_Wk 0 (pc_q := 0) (loc_q := [some (fI 0)]) (st_q := []) (h_q := h) (cl_q := 0) (sl_q := 0) rfl ?_
  refine ik_Wk 1 (pc_q := 1) (loc_q := [some (fI 0)]) (st_q := [fI 0]) (h_q := h) (cl_q := 0) (sl_q := 0) rfl ?_
  refine fw_i2l rfl (by omega) (by omega) ?_
  refine fw_lc (z := 0) rfl (by decide +kernel) ?_
  refine fw_lc (z := 1) rfl (by decide +kernel) ?_
  refine fw_call 127 3 3 [fJ 0, fJ 0, fJ 1] [] rfl rfl rfl (Nat.le_of_ble_eq_true rfl) rfl rfl (fw_sta hl rfl (by decide +kernel)) (cr_in (v := 0) (a := 0) (b := 1) (by omega) (by omega) (by omega)  hl) ?_
  rintro _ h_467 (⟨rfl, p_467_0, F_467⟩ | ⟨rfl, p_467_0, F_467⟩)
  · have k_467 : cL h_467 := F_467.1.trans hl
    have fr_467 := hfr_cb (hfr_refl [] h) F_467 rfl
    have g_467_66 := (hfr_g F_467 66 rfl).trans h66
    have g_467_71 := (hfr_g F_467 71 rfl).trans h71
    refine ik_Wk 0 (pc_q := 7) (loc_q := [some (fI 0)]) (st_q := [fI 1]) (h_q := h_467) (cl_q := 0) (sl_q := 0) rfl ?_
    refine ik_Wret rfl rfl ⟨_, _, rfl, rfl, ?_⟩
    refine ik_Wk 0 (pc_q := 4) (loc_q := [some (.ref 66), some (fI 0)]) (st_q := [fI 1]) (h_q := h_467) (cl_q := 0) (sl_q := 0) rfl ?_
    refine fw_if_ne rfl rfl (by decide +kernel) (by decide +kernel) (fun hc1 => absurd hc1 (by decide +kernel)) (fun hc1 => ?_)
    refine ik_Wk 1 (pc_q := 11) (loc_q := [some (.ref 66), some (fI 0)]) (st_q := [.ref 66]) (h_q := h_467) (cl_q := 0) (sl_q := 0) rfl ?_
    refine ik_Wc 134 1 0 [.ref 66] [] rfl rfl rfl (by decide +kernel) rfl rfl (fw_rec k_467 rfl g_467_66 rfl (Nat.le_of_ble_eq_true rfl)) ?_
    refine ik_Wk 0 (pc_q := 0) (loc_q := [some (.ref 66)]) (st_q := []) (h_q := h_467) (cl_q := 0) (sl_q := 0) rfl ?_
    refine ik_Wk 1 (pc_q := 1) (loc_q := [some (.ref 66)]) (st_q := [.ref 66]) (h_q := h_467) (cl_q := 0) (sl_q := 0) rfl ?_
    refine fw_gf rfl rfl g_467_66 rfl ?_
    refine ik_Wk 1 (pc_q := 5) (loc_q := [some (.ref 66)]) (st_q := [fI 1, fI pl]) (h_q := h_467) (cl_q := 0) (sl_q := 0) rfl ?_
    refine fw_ic_le rfl rfl (by omega) (by omega) (by omega) (by omega) (fun hc2 => ?_) (fun hc2 => ?_)
    · refine ik_Wk 1 (pc_q := 13) (loc_q := [some (.ref 66)]) (st_q := [fI 0]) (h_q := h_467) (cl_q := 0) (sl_q := 0) rfl ?_
      refine ik_Wret rfl rfl ⟨_, _, rfl, rfl, ?_⟩
      refine ik_Wk 0 (pc_q := 14) (loc_q := [some (.ref 66), some (fI 0)]) (st_q := [fI 0]) (h_q := h_467) (cl_q := 0) (sl_q := 0) rfl ?_
      refine fw_if_eq rfl rfl (by decide +kernel) (by decide +kernel) (fun hc3 => ?_) (fun hc3 => absurd hc3 (by decide +kernel))
      refine fw_ld (-1000000003) rfl rfl (by decide +kernel) ?_
      exact ik_Wret rfl rfl ⟨_, _, rfl, rfl, rfl, rfl, ⟨(congrArg (fun z => [fI z]) (by (repeat' split) <;> first | rfl | omega)), fr_467⟩⟩
    · refine ik_Wk 2 (pc_q := 13) (loc_q := [some (.ref 66)]) (st_q := [fI 1]) (h_q := h_467) (cl_q := 0) (sl_q := 0) rfl ?_
      refine ik_Wret rfl rfl ⟨_, _, rfl, rfl, ?_⟩
      refine ik_Wk 0 (pc_q := 14) (loc_q := [some (.ref 66), some (fI 0)]) (st_q := [fI 1]) (h_q := h_467) (cl_q := 0) (sl_q := 0) rfl ?_
      refine fw_if_eq rfl rfl (by decide +kernel) (by decide +kernel) (fun hc4 => absurd hc4 (by decide +kernel)) (fun hc4 => ?_)
      refine ik_Wk 1 (pc_q := 18) (loc_q := [some (.ref 66), some (fI 0)]) (st_q := [.ref 66]) (h_q := h_467) (cl_q := 0) (sl_q := 0) rfl ?_
      refine fw_gf rfl rfl g_467_66 rfl ?_
      refine ik_Wk 1 (pc_q := 22) (loc_q := [some (.ref 66), some (fI 0)]) (st_q := [fI 0, .ref 71]) (h_q := h_467) (cl_q := 0) (sl_q := 0) rfl ?_
      refine fw_ial (z := 0) rfl g_467_71 (by decide +kernel) (Nat.le_of_ble_eq_true rfl) (by decide +kernel) ?_
      refine ik_Wk 0 (pc_q := 23) (loc_q := [some (.ref 66), some (fI 0)]) (st_q := [fI xa]) (h_q := h_467) (cl_q := 0) (sl_q := 0) rfl ?_
      refine ik_Wk 1 (pc_q := 28) (loc_q := [some (.ref 66), some (fI 0)]) (st_q := [fI xa]) (h_q := h_467) (cl_q := 0) (sl_q := 0) rfl ?_
      exact ik_Wret rfl rfl ⟨_, _, rfl, rfl, rfl, rfl, ⟨(congrArg (fun z => [fI z]) (by (repeat' split) <;> first | rfl | omega)), fr_467⟩⟩
  · have k_467 : cL h_467 := F_467.1.trans hl
    have fr_467 := hfr_cb (hfr_refl [] h) F_467 rfl
    have g_467_66 := (hfr_g F_467 66 rfl).trans h66
    have g_467_71 := (hfr_g F_467 71 rfl).trans h71
    omega

theorem cp_log0 {h : List ik_E} {pl : Int} {st : Int} {lo : Int} {p : Int} {n0 : Int} {n1 : Int} {lr : List Int} (q0 : 0 ≤ pl ∧ pl ≤ 12) (q1 : 0 ≤ n0 ∧ n0 ≤ 40) (q2 : -2147483648 ≤ p ∧ p < 2147483648) (h0 : cE h 0 (.inr (9, [.ref 1, .ref 7, .ref 14, .ref 17, .ref 45, .ref 51, .ref 54, .ref 57]))) (h7 : cE h 7 (.inr (0, [fI pl, fI st, fI lo, .ref 8, .ref 9, .ref 10, .ref 11, .ref 12, .ref 13]))) (h54 : cE h 54 (.inr (4, [.ref 55, .ref 56]))) (h55 : cE h 55 (.inl (.int, fA lr))) (n55 : lr.length = 80) (h56 : cE h 56 (.inl (.int, fA [n0, n1]))) (hl : h.length = 94) : ik_F 115 [.ref 0, fI 0, fI p] h (fun rv h_q => (rv = [fI (n0 + 1)] ∧ cE h_q 55 (.inl (.int, fA (lr.set (0 + n0).toNat p))) ∧ (lr.set (0 + n0).toNat p).length = 80 ∧ cE h_q 56 (.inl (.int, fA [n0 + 1, n1])) ∧ ((p = 12 ∨ (0 ≤ p ∧ p < pl)) ∧ n0 < 40) ∧ hfr [55, 56] h h_q) ∨ (rv = [fI (an_lg pl p)] ∧ cE h_q 55 (.inl (.int, fA lr)) ∧ lr.length = 80 ∧ cE h_q 56 (.inl (.int, fA [n0, n1])) ∧ (¬ ((p = 12 ∨ (0 ≤ p ∧ p < pl)) ∧ n0 < 40)) ∧ hfr [55, 56] h h_q)) := by
  refine ik_Wk 1 (pc_q := 1) (loc_q := [some (.ref 0), some (fI 0), some (fI p)]) (st_q := [fI 0]) (h_q := h) (cl_q := 0) (sl_q := 0) rfl ?_
  refine ik_Wc 121 1 3 [fI 0] [] rfl rfl rfl (by decide +kernel) rfl rfl (fw_sta hl rfl (by decide +kernel)) ?_
  refine ik_Wk 0 (pc_q := 0) (loc_q := [some (fI 0)]) (st_q := []) (h_q := h) (cl_q := 0) (sl_q := 0) rfl ?_
  refine ik_Wk 1 (pc_q := 1) (loc_q := [some (fI 0)]) (st_q := [fI 0]) (h_q := h) (cl_q := 0) (sl_q := 0) rfl ?_
  refine fw_if_eq rfl rfl (by decide +kernel) (by decide +kernel) (fun hc1 => ?_) (fun hc1 => absurd hc1 (by decide +kernel))
  refine ik_Wk 2 (pc_q := 14) (loc_q := [some (fI 0)]) (st_q := [fI 1]) (h_q := h) (cl_q := 0) (sl_q := 0) rfl ?_
  refine ik_Wret rfl rfl ⟨_, _, rfl, rfl, ?_⟩
  refine ik_Wk 0 (pc_q := 4) (loc_q := [some (.ref 0), some (fI 0), some (fI p)]) (st_q := [fI 1]) (h_q := h) (cl_q := 0) (sl_q := 0) rfl ?_
  refine fw_if_eq rfl rfl (by decide +kernel) (by decide +kernel) (fun hc2 => absurd hc2 (by decide +kernel)) (fun hc2 => ?_)
  refine ik_Wk 1 (pc_q := 8) (loc_q := [some (.ref 0), some (fI 0), some (fI p)]) (st_q := [fI p]) (h_q := h) (cl_q := 0) (sl_q := 0) rfl ?_
  refine fw_bi rfl (by decide +kernel) ?_
  refine fw_ic_eq rfl rfl (by omega) (by omega) (by omega) (by omega) (fun hc3 => ?_) (fun hc3 => ?_)
  · refine ik_Wk 1 (pc_q := 28) (loc_q := [some (.ref 0), some (fI 0), some (fI p)]) (st_q := [.ref 0]) (h_q := h) (cl_q := 0) (sl_q := 0) rfl ?_
    refine fw_gf rfl rfl h0 rfl ?_
    refine fw_gf rfl rfl h54 rfl ?_
    refine ik_Wk 1 (pc_q := 35) (loc_q := [some (.ref 0), some (fI 0), some (fI p)]) (st_q := [fI 0, .ref 56]) (h_q := h) (cl_q := 0) (sl_q := 0) rfl ?_
    refine fw_ial (z := 0) rfl h56 (by decide +kernel) (Nat.le_of_ble_eq_true rfl) (by decide +kernel) ?_
    refine ik_Wk 0 (pc_q := 36) (loc_q := [some (.ref 0), some (fI 0), some (fI p)]) (st_q := [fI n0]) (h_q := h) (cl_q := 0) (sl_q := 0) rfl ?_
    refine fw_bi rfl (by decide +kernel) ?_
    refine fw_ic_lt rfl rfl (by omega) (by omega) (by omega) (by omega) (fun hc4 => ?_) (fun hc4 => ?_)
    · refine ik_Wk 1 (pc_q := 45) (loc_q := [some (.ref 0), some (fI 0), some (fI p)]) (st_q := [.ref 0]) (h_q := h) (cl_q := 0) (sl_q := 0) rfl ?_
      refine fw_gf rfl rfl h0 rfl ?_
      refine ik_Wk 2 (pc_q := 50) (loc_q := [some (.ref 0), some (fI 0), some (fI p)]) (st_q := [fI p, fI 0, .ref 54]) (h_q := h) (cl_q := 0) (sl_q := 0) rfl ?_
      refine ik_Wc 38 3 0 [.ref 54, fI 0, fI p] [] rfl rfl rfl (by decide +kernel) rfl rfl (fw_rec hl rfl h54 rfl (Nat.le_of_ble_eq_true rfl)) ?_
      refine ik_Wk 0 (pc_q := 0) (loc_q := [some (.ref 54), some (fI 0), some (fI p)]) (st_q := []) (h_q := h) (cl_q := 0) (sl_q := 0) rfl ?_
      refine ik_Wk 1 (pc_q := 1) (loc_q := [some (.ref 54), some (fI 0), some (fI p)]) (st_q := [.ref 54]) (h_q := h) (cl_q := 0) (sl_q := 0) rfl ?_
      refine fw_gf rfl rfl h54 rfl ?_
      refine ik_Wk 1 (pc_q := 5) (loc_q := [some (.ref 54), some (fI 0), some (fI p)]) (st_q := [fI 0, .ref 55]) (h_q := h) (cl_q := 0) (sl_q := 0) rfl ?_
      refine fw_bi rfl (by decide +kernel) ?_
      refine fw_mul rfl ?_
      refine ik_Wk 1 (pc_q := 9) (loc_q := [some (.ref 54), some (fI 0), some (fI p)]) (st_q := [.ref 54, fI 0, .ref 55]) (h_q := h) (cl_q := 0) (sl_q := 0) rfl ?_
      refine fw_gf rfl rfl h54 rfl ?_
      refine ik_Wk 1 (pc_q := 13) (loc_q := [some (.ref 54), some (fI 0), some (fI p)]) (st_q := [fI 0, .ref 56, fI 0, .ref 55]) (h_q := h) (cl_q := 0) (sl_q := 0) rfl ?_
      refine fw_ial (z := 0) rfl h56 (by decide +kernel) (Nat.le_of_ble_eq_true rfl) (by decide +kernel) ?_
      refine ik_Wk 0 (pc_q := 14) (loc_q := [some (.ref 54), some (fI 0), some (fI p)]) (st_q := [fI n0, fI 0, .ref 55]) (h_q := h) (cl_q := 0) (sl_q := 0) rfl ?_
      refine fw_add rfl ?_
      refine ik_Wk 1 (pc_q := 16) (loc_q := [some (.ref 54), some (fI 0), some (fI p)]) (st_q := [fI p, fI (0 + n0), .ref 55]) (h_q := h) (cl_q := 0) (sl_q := 0) rfl ?_
      have hl5 : (lr.set (0 + n0).toNat p).length = 80 := (List.length_set ..).trans n55
      refine fx_ias rfl h55 (by omega) (by omega) (by omega) ?_
      intro h_468 e_468 f_468 l_468
      have k_468 : cL h_468 := l_468.trans hl
      have fr_468 := hfr_wb (hfr_refl [55, 56] h) f_468 l_468 rfl
      clear l_468
      have g_468_0 := (f_468 0 (Nat.ne_of_beq_eq_false rfl)).trans h0
      have g_468_7 := (f_468 7 (Nat.ne_of_beq_eq_false rfl)).trans h7
      have g_468_54 := (f_468 54 (Nat.ne_of_beq_eq_false rfl)).trans h54
      have g_468_56 := (f_468 56 (Nat.ne_of_beq_eq_false rfl)).trans h56
      have g_468_55 : cE h_468 55 (.inl (.int, fA (lr.set (0 + n0).toNat p))) := e_468
      refine ik_Wk 1 (pc_q := 18) (loc_q := [some (.ref 54), some (fI 0), some (fI p)]) (st_q := [.ref 54]) (h_q := h_468) (cl_q := 0) (sl_q := 0) rfl ?_
      refine fw_gf rfl rfl g_468_54 rfl ?_
      refine ik_Wk 2 (pc_q := 23) (loc_q := [some (.ref 54), some (fI 0), some (fI p)]) (st_q := [fI 0, .ref 56, fI 0, .ref 56]) (h_q := h_468) (cl_q := 0) (sl_q := 0) rfl ?_
      refine fw_ial (z := 0) rfl g_468_56 (by decide +kernel) (Nat.le_of_ble_eq_true rfl) (by decide +kernel) ?_
      refine ik_Wk 0 (pc_q := 24) (loc_q := [some (.ref 54), some (fI 0), some (fI p)]) (st_q := [fI n0, fI 0, .ref 56]) (h_q := h_468) (cl_q := 0) (sl_q := 0) rfl ?_
      refine ik_Wk 1 (pc_q := 25) (loc_q := [some (.ref 54), some (fI 0), some (fI p)]) (st_q := [fI 1, fI n0, fI 0, .ref 56]) (h_q := h_468) (cl_q := 0) (sl_q := 0) rfl ?_
      refine fw_add rfl ?_
      refine fx_ias (z := 0) rfl g_468_56 (by decide +kernel) (Nat.le_of_ble_eq_true rfl) (by decide +kernel) ?_
      intro h_469 e_469 f_469 l_469
      have k_469 : cL h_469 := l_469.trans k_468
      have fr_469 := hfr_wb fr_468 f_469 l_469 rfl
      clear l_469
      have g_469_0 := (f_469 0 (Nat.ne_of_beq_eq_false rfl)).trans g_468_0
      have g_469_7 := (f_469 7 (Nat.ne_of_beq_eq_false rfl)).trans g_468_7
      have g_469_54 := (f_469 54 (Nat.ne_of_beq_eq_false rfl)).trans g_468_54
      have g_469_55 := (f_469 55 (Nat.ne_of_beq_eq_false rfl)).trans g_468_55
      have g_469_56 : cE h_469 56 (.inl (.int, fA [n0 + 1, n1])) := e_469
      refine ik_Wk 1 (pc_q := 28) (loc_q := [some (.ref 54), some (fI 0), some (fI p)]) (st_q := [.ref 54]) (h_q := h_469) (cl_q := 0) (sl_q := 0) rfl ?_
      refine fw_gf rfl rfl g_469_54 rfl ?_
      refine ik_Wk 1 (pc_q := 32) (loc_q := [some (.ref 54), some (fI 0), some (fI p)]) (st_q := [fI 0, .ref 56]) (h_q := h_469) (cl_q := 0) (sl_q := 0) rfl ?_
      refine fw_ial (z := 0) rfl g_469_56 (by decide +kernel) (Nat.le_of_ble_eq_true rfl) (by decide +kernel) ?_
      refine ik_Wk 0 (pc_q := 33) (loc_q := [some (.ref 54), some (fI 0), some (fI p)]) (st_q := [fI (n0 + 1)]) (h_q := h_469) (cl_q := 0) (sl_q := 0) rfl ?_
      refine ik_Wret rfl rfl ⟨_, _, rfl, rfl, ?_⟩
      refine ik_Wk 0 (pc_q := 53) (loc_q := [some (.ref 0), some (fI 0), some (fI p)]) (st_q := [fI (n0 + 1)]) (h_q := h_469) (cl_q := 0) (sl_q := 0) rfl ?_
      exact ik_Wret rfl rfl ⟨_, _, rfl, rfl, rfl, rfl, Or.inl ⟨rfl, g_469_55, hl5, g_469_56, (by omega), fr_469⟩⟩
    · refine fw_ld (-1000000004) rfl rfl (by decide +kernel) ?_
      exact ik_Wret rfl rfl ⟨_, _, rfl, rfl, rfl, rfl, Or.inr ⟨(congrArg (fun z => [fI z]) (by unfold an_lg; (repeat' split) <;> first | rfl | omega)), h55, n55, h56, (by omega), (hfr_refl [55, 56] h)⟩⟩
  · refine ik_Wk 1 (pc_q := 14) (loc_q := [some (.ref 0), some (fI 0), some (fI p)]) (st_q := [.ref 0]) (h_q := h) (cl_q := 0) (sl_q := 0) rfl ?_
    refine fw_gf rfl rfl h0 rfl ?_
    refine ik_Wk 1 (pc_q := 18) (loc_q := [some (.ref 0), some (fI 0), some (fI p)]) (st_q := [fI p, .ref 7]) (h_q := h) (cl_q := 0) (sl_q := 0) rfl ?_
    refine ik_Wc 3 2 0 [.ref 7, fI p] [] rfl rfl rfl (by decide +kernel) rfl rfl (fw_rec hl rfl h7 rfl (Nat.le_of_ble_eq_true rfl)) ?_
    refine ik_Wk 0 (pc_q := 0) (loc_q := [some (.ref 7), some (fI p)]) (st_q := []) (h_q := h) (cl_q := 0) (sl_q := 0) rfl ?_
    refine ik_Wk 1 (pc_q := 1) (loc_q := [some (.ref 7), some (fI p)]) (st_q := [fI p]) (h_q := h) (cl_q := 0) (sl_q := 0) rfl ?_
    refine fw_if_lt rfl rfl (by omega) (by omega) (fun hc6 => ?_) (fun hc6 => ?_)
    · refine ik_Wk 1 (pc_q := 17) (loc_q := [some (.ref 7), some (fI p)]) (st_q := [fI 0]) (h_q := h) (cl_q := 0) (sl_q := 0) rfl ?_
      refine ik_Wret rfl rfl ⟨_, _, rfl, rfl, ?_⟩
      refine ik_Wk 0 (pc_q := 21) (loc_q := [some (.ref 0), some (fI 0), some (fI p)]) (st_q := [fI 0]) (h_q := h) (cl_q := 0) (sl_q := 0) rfl ?_
      refine fw_if_ne rfl rfl (by decide +kernel) (by decide +kernel) (fun hc7 => ?_) (fun hc7 => absurd hc7 (by decide +kernel))
      refine fw_ld (-1000000001) rfl rfl (by decide +kernel) ?_
      exact ik_Wret rfl rfl ⟨_, _, rfl, rfl, rfl, rfl, Or.inr ⟨(congrArg (fun z => [fI z]) (by unfold an_lg; (repeat' split) <;> first | rfl | omega)), h55, n55, h56, (by omega), (hfr_refl [55, 56] h)⟩⟩
    · refine ik_Wk 2 (pc_q := 6) (loc_q := [some (.ref 7), some (fI p)]) (st_q := [.ref 7, fI p]) (h_q := h) (cl_q := 0) (sl_q := 0) rfl ?_
      refine fw_gf rfl rfl h7 rfl ?_
      refine fw_ic_ge rfl rfl (by omega) (by omega) (by omega) (by omega) (fun hc8 => ?_) (fun hc8 => ?_)
      · refine ik_Wk 1 (pc_q := 17) (loc_q := [some (.ref 7), some (fI p)]) (st_q := [fI 0]) (h_q := h) (cl_q := 0) (sl_q := 0) rfl ?_
        refine ik_Wret rfl rfl ⟨_, _, rfl, rfl, ?_⟩
        refine ik_Wk 0 (pc_q := 21) (loc_q := [some (.ref 0), some (fI 0), some (fI p)]) (st_q := [fI 0]) (h_q := h) (cl_q := 0) (sl_q := 0) rfl ?_
        refine fw_if_ne rfl rfl (by decide +kernel) (by decide +kernel) (fun hc9 => ?_) (fun hc9 => absurd hc9 (by decide +kernel))
        refine fw_ld (-1000000001) rfl rfl (by decide +kernel) ?_
        exact ik_Wret rfl rfl ⟨_, _, rfl, rfl, rfl, rfl, Or.inr ⟨(congrArg (fun z => [fI z]) (by unfold an_lg; (repeat' split) <;> first | rfl | omega)), h55, n55, h56, (by omega), (hfr_refl [55, 56] h)⟩⟩
      · refine ik_Wk 2 (pc_q := 17) (loc_q := [some (.ref 7), some (fI p)]) (st_q := [fI 1]) (h_q := h) (cl_q := 0) (sl_q := 0) rfl ?_
        refine ik_Wret rfl rfl ⟨_, _, rfl, rfl, ?_⟩
        refine ik_Wk 0 (pc_q := 21) (loc_q := [some (.ref 0), some (fI 0), some (fI p)]) (st_q := [fI 1]) (h_q := h) (cl_q := 0) (sl_q := 0) rfl ?_
        refine fw_if_ne rfl rfl (by decide +kernel) (by decide +kernel) (fun hc10 => absurd hc10 (by decide +kernel)) (fun hc10 => ?_)
        refine ik_Wk 1 (pc_q := 28) (loc_q := [some (.ref 0), some (fI 0), some (fI p)]) (st_q := [.ref 0]) (h_q := h) (cl_q := 0) (sl_q := 0) rfl ?_
        refine fw_gf rfl rfl h0 rfl ?_
        refine fw_gf rfl rfl h54 rfl ?_
        refine ik_Wk 1 (pc_q := 35) (loc_q := [some (.ref 0), some (fI 0), some (fI p)]) (st_q := [fI 0, .ref 56]) (h_q := h) (cl_q := 0) (sl_q := 0) rfl ?_
        refine fw_ial (z := 0) rfl h56 (by decide +kernel) (Nat.le_of_ble_eq_true rfl) (by decide +kernel) ?_
        refine ik_Wk 0 (pc_q := 36) (loc_q := [some (.ref 0), some (fI 0), some (fI p)]) (st_q := [fI n0]) (h_q := h) (cl_q := 0) (sl_q := 0) rfl ?_
        refine fw_bi rfl (by decide +kernel) ?_
        refine fw_ic_lt rfl rfl (by omega) (by omega) (by omega) (by omega) (fun hc11 => ?_) (fun hc11 => ?_)
        · refine ik_Wk 1 (pc_q := 45) (loc_q := [some (.ref 0), some (fI 0), some (fI p)]) (st_q := [.ref 0]) (h_q := h) (cl_q := 0) (sl_q := 0) rfl ?_
          refine fw_gf rfl rfl h0 rfl ?_
          refine ik_Wk 2 (pc_q := 50) (loc_q := [some (.ref 0), some (fI 0), some (fI p)]) (st_q := [fI p, fI 0, .ref 54]) (h_q := h) (cl_q := 0) (sl_q := 0) rfl ?_
          refine ik_Wc 38 3 0 [.ref 54, fI 0, fI p] [] rfl rfl rfl (by decide +kernel) rfl rfl (fw_rec hl rfl h54 rfl (Nat.le_of_ble_eq_true rfl)) ?_
          refine ik_Wk 0 (pc_q := 0) (loc_q := [some (.ref 54), some (fI 0), some (fI p)]) (st_q := []) (h_q := h) (cl_q := 0) (sl_q := 0) rfl ?_
          refine ik_Wk 1 (pc_q := 1) (loc_q := [some (.ref 54), some (fI 0), some (fI p)]) (st_q := [.ref 54]) (h_q := h) (cl_q := 0) (sl_q := 0) rfl ?_
          refine fw_gf rfl rfl h54 rfl ?_
          refine ik_Wk 1 (pc_q := 5) (loc_q := [some (.ref 54), some (fI 0), some (fI p)]) (st_q := [fI 0, .ref 55]) (h_q := h) (cl_q := 0) (sl_q := 0) rfl ?_
          refine fw_bi rfl (by decide +kernel) ?_
          refine fw_mul rfl ?_
          refine ik_Wk 1 (pc_q := 9) (loc_q := [some (.ref 54), some (fI 0), some (fI p)]) (st_q := [.ref 54, fI 0, .ref 55]) (h_q := h) (cl_q := 0) (sl_q := 0) rfl ?_
          refine fw_gf rfl rfl h54 rfl ?_
          refine ik_Wk 1 (pc_q := 13) (loc_q := [some (.ref 54), some (fI 0), some (fI p)]) (st_q := [fI 0, .ref 56, fI 0, .ref 55]) (h_q := h) (cl_q := 0) (sl_q := 0) rfl ?_
          refine fw_ial (z := 0) rfl h56 (by decide +kernel) (Nat.le_of_ble_eq_true rfl) (by decide +kernel) ?_
          refine ik_Wk 0 (pc_q := 14) (loc_q := [some (.ref 54), some (fI 0), some (fI p)]) (st_q := [fI n0, fI 0, .ref 55]) (h_q := h) (cl_q := 0) (sl_q := 0) rfl ?_
          refine fw_add rfl ?_
          refine ik_Wk 1 (pc_q := 16) (loc_q := [some (.ref 54), some (fI 0), some (fI p)]) (st_q := [fI p, fI (0 + n0), .ref 55]) (h_q := h) (cl_q := 0) (sl_q := 0) rfl ?_
          have hl12 : (lr.set (0 + n0).toNat p).length = 80 := (List.length_set ..).trans n55
          refine fx_ias rfl h55 (by omega) (by omega) (by omega) ?_
          intro h_470 e_470 f_470 l_470
          have k_470 : cL h_470 := l_470.trans hl
          have fr_470 := hfr_wb (hfr_refl [55, 56] h) f_470 l_470 rfl
          clear l_470
          have g_470_0 := (f_470 0 (Nat.ne_of_beq_eq_false rfl)).trans h0
          have g_470_7 := (f_470 7 (Nat.ne_of_beq_eq_false rfl)).trans h7
          have g_470_54 := (f_470 54 (Nat.ne_of_beq_eq_false rfl)).trans h54
          have g_470_56 := (f_470 56 (Nat.ne_of_beq_eq_false rfl)).trans h56
          have g_470_55 : cE h_470 55 (.inl (.int, fA (lr.set (0 + n0).toNat p))) := e_470
          refine ik_Wk 1 (pc_q := 18) (loc_q := [some (.ref 54), some (fI 0), some (fI p)]) (st_q := [.ref 54]) (h_q := h_470) (cl_q := 0) (sl_q := 0) rfl ?_
          refine fw_gf rfl rfl g_470_54 rfl ?_
          refine ik_Wk 2 (pc_q := 23) (loc_q := [some (.ref 54), some (fI 0), some (fI p)]) (st_q := [fI 0, .ref 56, fI 0, .ref 56]) (h_q := h_470) (cl_q := 0) (sl_q := 0) rfl ?_
          refine fw_ial (z := 0) rfl g_470_56 (by decide +kernel) (Nat.le_of_ble_eq_true rfl) (by decide +kernel) ?_
          refine ik_Wk 0 (pc_q := 24) (loc_q := [some (.ref 54), some (fI 0), some (fI p)]) (st_q := [fI n0, fI 0, .ref 56]) (h_q := h_470) (cl_q := 0) (sl_q := 0) rfl ?_
          refine ik_Wk 1 (pc_q := 25) (loc_q := [some (.ref 54), some (fI 0), some (fI p)]) (st_q := [fI 1, fI n0, fI 0, .ref 56]) (h_q := h_470) (cl_q := 0) (sl_q := 0) rfl ?_
          refine fw_add rfl ?_
          refine fx_ias (z := 0) rfl g_470_56 (by decide +kernel) (Nat.le_of_ble_eq_true rfl) (by decide +kernel) ?_
          intro h_471 e_471 f_471 l_471
          have k_471 : cL h_471 := l_471.trans k_470
          have fr_471 := hfr_wb fr_470 f_471 l_471 rfl
          clear l_471
          have g_471_0 := (f_471 0 (Nat.ne_of_beq_eq_false rfl)).trans g_470_0
          have g_471_7 := (f_471 7 (Nat.ne_of_beq_eq_false rfl)).trans g_470_7
          have g_471_54 := (f_471 54 (Nat.ne_of_beq_eq_false rfl)).trans g_470_54
          have g_471_55 := (f_471 55 (Nat.ne_of_beq_eq_false rfl)).trans g_470_55
          have g_471_56 : cE h_471 56 (.inl (.int, fA [n0 + 1, n1])) := e_471
          refine ik_Wk 1 (pc_q := 28) (loc_q := [some (.ref 54), some (fI 0), some (fI p)]) (st_q := [.ref 54]) (h_q := h_471) (cl_q := 0) (sl_q := 0) rfl ?_
          refine fw_gf rfl rfl g_471_54 rfl ?_
          refine ik_Wk 1 (pc_q := 32) (loc_q := [some (.ref 54), some (fI 0), some (fI p)]) (st_q := [fI 0, .ref 56]) (h_q := h_471) (cl_q := 0) (sl_q := 0) rfl ?_
          refine fw_ial (z := 0) rfl g_471_56 (by decide +kernel) (Nat.le_of_ble_eq_true rfl) (by decide +kernel) ?_
          refine ik_Wk 0 (pc_q := 33) (loc_q := [some (.ref 54), some (fI 0), some (fI p)]) (st_q := [fI (n0 + 1)]) (h_q := h_471) (cl_q := 0) (sl_q := 0) rfl ?_
          refine ik_Wret rfl rfl ⟨_, _, rfl, rfl, ?_⟩
          refine ik_Wk 0 (pc_q := 53) (loc_q := [some (.ref 0), some (fI 0), some (fI p)]) (st_q := [fI (n0 + 1)]) (h_q := h_471) (cl_q := 0) (sl_q := 0) rfl ?_
          exact ik_Wret rfl rfl ⟨_, _, rfl, rfl, rfl, rfl, Or.inl ⟨rfl, g_471_55, hl12, g_471_56, (by omega), fr_471⟩⟩
        · refine fw_ld (-1000000004) rfl rfl (by decide +kernel) ?_
          exact ik_Wret rfl rfl ⟨_, _, rfl, rfl, rfl, rfl, Or.inr ⟨(congrArg (fun z => [fI z]) (by unfold an_lg; (repeat' split) <;> first | rfl | omega)), h55, n55, h56, (by omega), (hfr_refl [55, 56] h)⟩⟩

theorem rp_log0 {h : List ik_E} {f : Nat → Int} {pl : Int} {p : Int} {n0 : Int} {n1 : Int} {lr : List Int} (q0 : 0 ≤ pl ∧ pl ≤ 12) (q1 : 0 ≤ n0 ∧ n0 ≤ 40) (q2 : -2147483648 ≤ p ∧ p < 2147483648) (h66 : cE h 66 (.inr (10, (fI pl :: .ref 67 :: .ref 68 :: .ref 69 :: fI (f 4) :: .ref 70 :: .ref 71 :: fI (f 7) :: fI (f 8) :: .ref 72 :: fI (f 10) :: fI (f 11) :: fI (f 12) :: fJ (f 13) :: fI (f 14) :: fI (f 15) :: fI (f 16) :: fI (f 17) :: .ref 73 :: .ref 74 :: .ref 75 :: .ref 76 :: .ref 77 :: .ref 78 :: fI (f 24) :: .ref 79 :: .ref 80 :: .ref 81 :: .ref 82 :: .ref 83 :: .ref 84 :: .ref 85 :: fJ (f 32) :: fJ (f 33) :: .ref 86 :: .ref 87 :: fI (f 36) :: .ref 88 :: .ref 89 :: .ref 90 :: .ref 91 :: .ref 92 :: .ref 93 :: [])))) (h90 : cE h 90 (.inl (.int, fA [n0, n1]))) (h91 : cE h 91 (.inl (.int, fA lr))) (n91 : lr.length = 80) (hl : h.length = 94) : ik_F 203 [.ref 66, fI 0, fI p] h (fun rv h_q => (rv = [fI (n0 + 1)] ∧ cE h_q 91 (.inl (.int, fA (lr.set (0 + n0).toNat p))) ∧ (lr.set (0 + n0).toNat p).length = 80 ∧ cE h_q 90 (.inl (.int, fA [n0 + 1, n1])) ∧ ((p = 12 ∨ (0 ≤ p ∧ p < pl)) ∧ n0 < 40) ∧ hfr [90, 91] h h_q) ∨ (rv = [fI (an_lg pl p)] ∧ cE h_q 91 (.inl (.int, fA lr)) ∧ lr.length = 80 ∧ cE h_q 90 (.inl (.int, fA [n0, n1])) ∧ (¬ ((p = 12 ∨ (0 ≤ p ∧ p < pl)) ∧ n0 < 40)) ∧ hfr [90, 91] h h_q)) := by
  refine ik_Wk 1 (pc_q := 1) (loc_q := [some (.ref 66), some (fI 0), some (fI p)]) (st_q := [fI 0]) (h_q := h) (cl_q := 0) (sl_q := 0) rfl ?_
  refine ik_Wc 132 1 3 [fI 0] [] rfl rfl rfl (by decide +kernel) rfl rfl (fw_sta hl rfl (by decide +kernel)) ?_
  refine ik_Wk 0 (pc_q := 0) (loc_q := [some (fI 0)]) (st_q := []) (h_q := h) (cl_q := 0) (sl_q := 0) rfl ?_
  refine ik_Wk 1 (pc_q := 1) (loc_q := [some (fI 0)]) (st_q := [fI 0]) (h_q := h) (cl_q := 0) (sl_q := 0) rfl ?_
  refine fw_i2l rfl (by omega) (by omega) ?_
  refine fw_lc (z := 0) rfl (by decide +kernel) ?_
  refine fw_lc (z := 1) rfl (by decide +kernel) ?_
  refine fw_call 127 3 3 [fJ 0, fJ 0, fJ 1] [] rfl rfl rfl (Nat.le_of_ble_eq_true rfl) rfl rfl (fw_sta hl rfl (by decide +kernel)) (cr_in (v := 0) (a := 0) (b := 1) (by omega) (by omega) (by omega)  hl) ?_
  rintro _ h_472 (⟨rfl, p_472_0, F_472⟩ | ⟨rfl, p_472_0, F_472⟩)
  · have k_472 : cL h_472 := F_472.1.trans hl
    have fr_472 := hfr_cb (hfr_refl [90, 91] h) F_472 rfl
    have g_472_66 := (hfr_g F_472 66 rfl).trans h66
    have g_472_90 := (hfr_g F_472 90 rfl).trans h90
    have g_472_91 := (hfr_g F_472 91 rfl).trans h91
    refine ik_Wk 0 (pc_q := 7) (loc_q := [some (fI 0)]) (st_q := [fI 1]) (h_q := h_472) (cl_q := 0) (sl_q := 0) rfl ?_
    refine ik_Wret rfl rfl ⟨_, _, rfl, rfl, ?_⟩
    refine ik_Wk 0 (pc_q := 4) (loc_q := [some (.ref 66), some (fI 0), some (fI p)]) (st_q := [fI 1]) (h_q := h_472) (cl_q := 0) (sl_q := 0) rfl ?_
    refine fw_if_eq rfl rfl (by decide +kernel) (by decide +kernel) (fun hc1 => absurd hc1 (by decide +kernel)) (fun hc1 => ?_)
    refine ik_Wk 1 (pc_q := 8) (loc_q := [some (.ref 66), some (fI 0), some (fI p)]) (st_q := [fI p]) (h_q := h_472) (cl_q := 0) (sl_q := 0) rfl ?_
    refine fw_bi rfl (by decide +kernel) ?_
    refine fw_ic_eq rfl rfl (by omega) (by omega) (by omega) (by omega) (fun hc2 => ?_) (fun hc2 => ?_)
    · refine ik_Wk 1 (pc_q := 25) (loc_q := [some (.ref 66), some (fI 0), some (fI p)]) (st_q := [.ref 66]) (h_q := h_472) (cl_q := 0) (sl_q := 0) rfl ?_
      refine fw_gf rfl rfl g_472_66 rfl ?_
      refine ik_Wk 1 (pc_q := 29) (loc_q := [some (.ref 66), some (fI 0), some (fI p)]) (st_q := [fI 0, .ref 90]) (h_q := h_472) (cl_q := 0) (sl_q := 0) rfl ?_
      refine fw_ial (z := 0) rfl g_472_90 (by decide +kernel) (Nat.le_of_ble_eq_true rfl) (by decide +kernel) ?_
      refine ik_Wk 0 (pc_q := 30) (loc_q := [some (.ref 66), some (fI 0), some (fI p)]) (st_q := [fI n0]) (h_q := h_472) (cl_q := 0) (sl_q := 0) rfl ?_
      refine fw_bi rfl (by decide +kernel) ?_
      refine fw_ic_ne rfl rfl (by omega) (by omega) (by omega) (by omega) (fun hc3 => ?_) (fun hc3 => ?_)
      · refine fw_ld (-1000000004) rfl rfl (by decide +kernel) ?_
        exact ik_Wret rfl rfl ⟨_, _, rfl, rfl, rfl, rfl, Or.inr ⟨(congrArg (fun z => [fI z]) (by unfold an_lg; (repeat' split) <;> first | rfl | omega)), g_472_91, n91, g_472_90, (by omega), fr_472⟩⟩
      · refine ik_Wk 1 (pc_q := 39) (loc_q := [some (.ref 66), some (fI 0), some (fI p)]) (st_q := [.ref 66]) (h_q := h_472) (cl_q := 0) (sl_q := 0) rfl ?_
        refine fw_gf rfl rfl g_472_66 rfl ?_
        refine fw_bi rfl (by decide +kernel) ?_
        refine ik_Wk 1 (pc_q := 45) (loc_q := [some (.ref 66), some (fI 0), some (fI p)]) (st_q := [fI 0, fI 40, .ref 91]) (h_q := h_472) (cl_q := 0) (sl_q := 0) rfl ?_
        refine fw_mul rfl ?_
        refine ik_Wk 1 (pc_q := 47) (loc_q := [some (.ref 66), some (fI 0), some (fI p)]) (st_q := [.ref 66, fI 0, .ref 91]) (h_q := h_472) (cl_q := 0) (sl_q := 0) rfl ?_
        refine fw_gf rfl rfl g_472_66 rfl ?_
        refine ik_Wk 1 (pc_q := 51) (loc_q := [some (.ref 66), some (fI 0), some (fI p)]) (st_q := [fI 0, .ref 90, fI 0, .ref 91]) (h_q := h_472) (cl_q := 0) (sl_q := 0) rfl ?_
        refine fw_ial (z := 0) rfl g_472_90 (by decide +kernel) (Nat.le_of_ble_eq_true rfl) (by decide +kernel) ?_
        refine ik_Wk 0 (pc_q := 52) (loc_q := [some (.ref 66), some (fI 0), some (fI p)]) (st_q := [fI n0, fI 0, .ref 91]) (h_q := h_472) (cl_q := 0) (sl_q := 0) rfl ?_
        refine fw_add rfl ?_
        refine ik_Wk 1 (pc_q := 54) (loc_q := [some (.ref 66), some (fI 0), some (fI p)]) (st_q := [fI p, fI (0 + n0), .ref 91]) (h_q := h_472) (cl_q := 0) (sl_q := 0) rfl ?_
        have hl4 : (lr.set (0 + n0).toNat p).length = 80 := (List.length_set ..).trans n91
        refine fx_ias rfl g_472_91 (by omega) (by omega) (by omega) ?_
        intro h_473 e_473 f_473 l_473
        have k_473 : cL h_473 := l_473.trans k_472
        have fr_473 := hfr_wb fr_472 f_473 l_473 rfl
        clear l_473
        have g_473_66 := (f_473 66 (Nat.ne_of_beq_eq_false rfl)).trans g_472_66
        have g_473_90 := (f_473 90 (Nat.ne_of_beq_eq_false rfl)).trans g_472_90
        have g_473_91 : cE h_473 91 (.inl (.int, fA (lr.set (0 + n0).toNat p))) := e_473
        refine ik_Wk 1 (pc_q := 56) (loc_q := [some (.ref 66), some (fI 0), some (fI p)]) (st_q := [.ref 66]) (h_q := h_473) (cl_q := 0) (sl_q := 0) rfl ?_
        refine fw_gf rfl rfl g_473_66 rfl ?_
        refine ik_Wk 2 (pc_q := 61) (loc_q := [some (.ref 66), some (fI 0), some (fI p)]) (st_q := [fI 0, .ref 90, fI 0, .ref 90]) (h_q := h_473) (cl_q := 0) (sl_q := 0) rfl ?_
        refine fw_ial (z := 0) rfl g_473_90 (by decide +kernel) (Nat.le_of_ble_eq_true rfl) (by decide +kernel) ?_
        refine ik_Wk 0 (pc_q := 62) (loc_q := [some (.ref 66), some (fI 0), some (fI p)]) (st_q := [fI n0, fI 0, .ref 90]) (h_q := h_473) (cl_q := 0) (sl_q := 0) rfl ?_
        refine ik_Wk 1 (pc_q := 63) (loc_q := [some (.ref 66), some (fI 0), some (fI p)]) (st_q := [fI 1, fI n0, fI 0, .ref 90]) (h_q := h_473) (cl_q := 0) (sl_q := 0) rfl ?_
        refine fw_add rfl ?_
        refine fx_ias (z := 0) rfl g_473_90 (by decide +kernel) (Nat.le_of_ble_eq_true rfl) (by decide +kernel) ?_
        intro h_474 e_474 f_474 l_474
        have k_474 : cL h_474 := l_474.trans k_473
        have fr_474 := hfr_wb fr_473 f_474 l_474 rfl
        clear l_474
        have g_474_66 := (f_474 66 (Nat.ne_of_beq_eq_false rfl)).trans g_473_66
        have g_474_91 := (f_474 91 (Nat.ne_of_beq_eq_false rfl)).trans g_473_91
        have g_474_90 : cE h_474 90 (.inl (.int, fA [n0 + 1, n1])) := e_474
        refine ik_Wk 1 (pc_q := 66) (loc_q := [some (.ref 66), some (fI 0), some (fI p)]) (st_q := [.ref 66]) (h_q := h_474) (cl_q := 0) (sl_q := 0) rfl ?_
        refine fw_gf rfl rfl g_474_66 rfl ?_
        refine ik_Wk 1 (pc_q := 70) (loc_q := [some (.ref 66), some (fI 0), some (fI p)]) (st_q := [fI 0, .ref 90]) (h_q := h_474) (cl_q := 0) (sl_q := 0) rfl ?_
        refine fw_ial (z := 0) rfl g_474_90 (by decide +kernel) (Nat.le_of_ble_eq_true rfl) (by decide +kernel) ?_
        refine ik_Wk 0 (pc_q := 71) (loc_q := [some (.ref 66), some (fI 0), some (fI p)]) (st_q := [fI (n0 + 1)]) (h_q := h_474) (cl_q := 0) (sl_q := 0) rfl ?_
        exact ik_Wret rfl rfl ⟨_, _, rfl, rfl, rfl, rfl, Or.inl ⟨rfl, g_474_91, hl4, g_474_90, (by omega), fr_474⟩⟩
    · refine ik_Wk 2 (pc_q := 15) (loc_q := [some (.ref 66), some (fI 0), some (fI p)]) (st_q := [fI p, .ref 66]) (h_q := h_472) (cl_q := 0) (sl_q := 0) rfl ?_
      refine ik_Wc 129 2 0 [.ref 66, fI p] [] rfl rfl rfl (by decide +kernel) rfl rfl (fw_rec k_472 rfl g_472_66 rfl (Nat.le_of_ble_eq_true rfl)) ?_
      refine ik_Wk 0 (pc_q := 0) (loc_q := [some (.ref 66), some (fI p)]) (st_q := []) (h_q := h_472) (cl_q := 0) (sl_q := 0) rfl ?_
      refine ik_Wk 1 (pc_q := 1) (loc_q := [some (.ref 66), some (fI p)]) (st_q := [fI p]) (h_q := h_472) (cl_q := 0) (sl_q := 0) rfl ?_
      refine fw_i2l rfl (by omega) (by omega) ?_
      refine fw_lc (z := 0) rfl (by decide +kernel) ?_
      refine ik_Wk 1 (pc_q := 4) (loc_q := [some (.ref 66), some (fI p)]) (st_q := [.ref 66, fJ 0, fJ p]) (h_q := h_472) (cl_q := 0) (sl_q := 0) rfl ?_
      refine fw_gf rfl rfl g_472_66 rfl ?_
      refine ik_Wk 1 (pc_q := 8) (loc_q := [some (.ref 66), some (fI p)]) (st_q := [fI 1, fI pl, fJ 0, fJ p]) (h_q := h_472) (cl_q := 0) (sl_q := 0) rfl ?_
      refine fw_sub rfl ?_
      refine fw_i2l rfl (by omega) (by omega) ?_
      refine fw_call 127 3 3 [fJ p, fJ 0, fJ (pl - 1)] [] rfl rfl rfl (Nat.le_of_ble_eq_true rfl) rfl rfl (fw_sta k_472 rfl (by decide +kernel)) (cr_in (v := p) (a := 0) (b := pl - 1) (by omega) (by omega) (by omega)  k_472) ?_
      rintro _ h_475 (⟨rfl, p_475_0, F_475⟩ | ⟨rfl, p_475_0, F_475⟩)
      · have k_475 : cL h_475 := F_475.1.trans k_472
        have fr_475 := hfr_cb fr_472 F_475 rfl
        have g_475_66 := (hfr_g F_475 66 rfl).trans g_472_66
        have g_475_90 := (hfr_g F_475 90 rfl).trans g_472_90
        have g_475_91 := (hfr_g F_475 91 rfl).trans g_472_91
        refine ik_Wk 0 (pc_q := 13) (loc_q := [some (.ref 66), some (fI p)]) (st_q := [fI 1]) (h_q := h_475) (cl_q := 0) (sl_q := 0) rfl ?_
        refine ik_Wret rfl rfl ⟨_, _, rfl, rfl, ?_⟩
        refine ik_Wk 0 (pc_q := 18) (loc_q := [some (.ref 66), some (fI 0), some (fI p)]) (st_q := [fI 1]) (h_q := h_475) (cl_q := 0) (sl_q := 0) rfl ?_
        refine fw_if_ne rfl rfl (by decide +kernel) (by decide +kernel) (fun hc5 => absurd hc5 (by decide +kernel)) (fun hc5 => ?_)
        refine ik_Wk 1 (pc_q := 25) (loc_q := [some (.ref 66), some (fI 0), some (fI p)]) (st_q := [.ref 66]) (h_q := h_475) (cl_q := 0) (sl_q := 0) rfl ?_
        refine fw_gf rfl rfl g_475_66 rfl ?_
        refine ik_Wk 1 (pc_q := 29) (loc_q := [some (.ref 66), some (fI 0), some (fI p)]) (st_q := [fI 0, .ref 90]) (h_q := h_475) (cl_q := 0) (sl_q := 0) rfl ?_
        refine fw_ial (z := 0) rfl g_475_90 (by decide +kernel) (Nat.le_of_ble_eq_true rfl) (by decide +kernel) ?_
        refine ik_Wk 0 (pc_q := 30) (loc_q := [some (.ref 66), some (fI 0), some (fI p)]) (st_q := [fI n0]) (h_q := h_475) (cl_q := 0) (sl_q := 0) rfl ?_
        refine fw_bi rfl (by decide +kernel) ?_
        refine fw_ic_ne rfl rfl (by omega) (by omega) (by omega) (by omega) (fun hc6 => ?_) (fun hc6 => ?_)
        · refine fw_ld (-1000000004) rfl rfl (by decide +kernel) ?_
          exact ik_Wret rfl rfl ⟨_, _, rfl, rfl, rfl, rfl, Or.inr ⟨(congrArg (fun z => [fI z]) (by unfold an_lg; (repeat' split) <;> first | rfl | omega)), g_475_91, n91, g_475_90, (by omega), fr_475⟩⟩
        · refine ik_Wk 1 (pc_q := 39) (loc_q := [some (.ref 66), some (fI 0), some (fI p)]) (st_q := [.ref 66]) (h_q := h_475) (cl_q := 0) (sl_q := 0) rfl ?_
          refine fw_gf rfl rfl g_475_66 rfl ?_
          refine fw_bi rfl (by decide +kernel) ?_
          refine ik_Wk 1 (pc_q := 45) (loc_q := [some (.ref 66), some (fI 0), some (fI p)]) (st_q := [fI 0, fI 40, .ref 91]) (h_q := h_475) (cl_q := 0) (sl_q := 0) rfl ?_
          refine fw_mul rfl ?_
          refine ik_Wk 1 (pc_q := 47) (loc_q := [some (.ref 66), some (fI 0), some (fI p)]) (st_q := [.ref 66, fI 0, .ref 91]) (h_q := h_475) (cl_q := 0) (sl_q := 0) rfl ?_
          refine fw_gf rfl rfl g_475_66 rfl ?_
          refine ik_Wk 1 (pc_q := 51) (loc_q := [some (.ref 66), some (fI 0), some (fI p)]) (st_q := [fI 0, .ref 90, fI 0, .ref 91]) (h_q := h_475) (cl_q := 0) (sl_q := 0) rfl ?_
          refine fw_ial (z := 0) rfl g_475_90 (by decide +kernel) (Nat.le_of_ble_eq_true rfl) (by decide +kernel) ?_
          refine ik_Wk 0 (pc_q := 52) (loc_q := [some (.ref 66), some (fI 0), some (fI p)]) (st_q := [fI n0, fI 0, .ref 91]) (h_q := h_475) (cl_q := 0) (sl_q := 0) rfl ?_
          refine fw_add rfl ?_
          refine ik_Wk 1 (pc_q := 54) (loc_q := [some (.ref 66), some (fI 0), some (fI p)]) (st_q := [fI p, fI (0 + n0), .ref 91]) (h_q := h_475) (cl_q := 0) (sl_q := 0) rfl ?_
          have hl7 : (lr.set (0 + n0).toNat p).length = 80 := (List.length_set ..).trans n91
          refine fx_ias rfl g_475_91 (by omega) (by omega) (by omega) ?_
          intro h_476 e_476 f_476 l_476
          have k_476 : cL h_476 := l_476.trans k_475
          have fr_476 := hfr_wb fr_475 f_476 l_476 rfl
          clear l_476
          have g_476_66 := (f_476 66 (Nat.ne_of_beq_eq_false rfl)).trans g_475_66
          have g_476_90 := (f_476 90 (Nat.ne_of_beq_eq_false rfl)).trans g_475_90
          have g_476_91 : cE h_476 91 (.inl (.int, fA (lr.set (0 + n0).toNat p))) := e_476
          refine ik_Wk 1 (pc_q := 56) (loc_q := [some (.ref 66), some (fI 0), some (fI p)]) (st_q := [.ref 66]) (h_q := h_476) (cl_q := 0) (sl_q := 0) rfl ?_
          refine fw_gf rfl rfl g_476_66 rfl ?_
          refine ik_Wk 2 (pc_q := 61) (loc_q := [some (.ref 66), some (fI 0), some (fI p)]) (st_q := [fI 0, .ref 90, fI 0, .ref 90]) (h_q := h_476) (cl_q := 0) (sl_q := 0) rfl ?_
          refine fw_ial (z := 0) rfl g_476_90 (by decide +kernel) (Nat.le_of_ble_eq_true rfl) (by decide +kernel) ?_
          refine ik_Wk 0 (pc_q := 62) (loc_q := [some (.ref 66), some (fI 0), some (fI p)]) (st_q := [fI n0, fI 0, .ref 90]) (h_q := h_476) (cl_q := 0) (sl_q := 0) rfl ?_
          refine ik_Wk 1 (pc_q := 63) (loc_q := [some (.ref 66), some (fI 0), some (fI p)]) (st_q := [fI 1, fI n0, fI 0, .ref 90]) (h_q := h_476) (cl_q := 0) (sl_q := 0) rfl ?_
          refine fw_add rfl ?_
          refine fx_ias (z := 0) rfl g_476_90 (by decide +kernel) (Nat.le_of_ble_eq_true rfl) (by decide +kernel) ?_
          intro h_477 e_477 f_477 l_477
          have k_477 : cL h_477 := l_477.trans k_476
          have fr_477 := hfr_wb fr_476 f_477 l_477 rfl
          clear l_477
          have g_477_66 := (f_477 66 (Nat.ne_of_beq_eq_false rfl)).trans g_476_66
          have g_477_91 := (f_477 91 (Nat.ne_of_beq_eq_false rfl)).trans g_476_91
          have g_477_90 : cE h_477 90 (.inl (.int, fA [n0 + 1, n1])) := e_477
          refine ik_Wk 1 (pc_q := 66) (loc_q := [some (.ref 66), some (fI 0), some (fI p)]) (st_q := [.ref 66]) (h_q := h_477) (cl_q := 0) (sl_q := 0) rfl ?_
          refine fw_gf rfl rfl g_477_66 rfl ?_
          refine ik_Wk 1 (pc_q := 70) (loc_q := [some (.ref 66), some (fI 0), some (fI p)]) (st_q := [fI 0, .ref 90]) (h_q := h_477) (cl_q := 0) (sl_q := 0) rfl ?_
          refine fw_ial (z := 0) rfl g_477_90 (by decide +kernel) (Nat.le_of_ble_eq_true rfl) (by decide +kernel) ?_
          refine ik_Wk 0 (pc_q := 71) (loc_q := [some (.ref 66), some (fI 0), some (fI p)]) (st_q := [fI (n0 + 1)]) (h_q := h_477) (cl_q := 0) (sl_q := 0) rfl ?_
          exact ik_Wret rfl rfl ⟨_, _, rfl, rfl, rfl, rfl, Or.inl ⟨rfl, g_477_91, hl7, g_477_90, (by omega), fr_477⟩⟩
      · have k_475 : cL h_475 := F_475.1.trans k_472
        have fr_475 := hfr_cb fr_472 F_475 rfl
        have g_475_66 := (hfr_g F_475 66 rfl).trans g_472_66
        have g_475_90 := (hfr_g F_475 90 rfl).trans g_472_90
        have g_475_91 := (hfr_g F_475 91 rfl).trans g_472_91
        refine ik_Wk 0 (pc_q := 13) (loc_q := [some (.ref 66), some (fI p)]) (st_q := [fI 0]) (h_q := h_475) (cl_q := 0) (sl_q := 0) rfl ?_
        refine ik_Wret rfl rfl ⟨_, _, rfl, rfl, ?_⟩
        refine ik_Wk 0 (pc_q := 18) (loc_q := [some (.ref 66), some (fI 0), some (fI p)]) (st_q := [fI 0]) (h_q := h_475) (cl_q := 0) (sl_q := 0) rfl ?_
        refine fw_if_ne rfl rfl (by decide +kernel) (by decide +kernel) (fun hc8 => ?_) (fun hc8 => absurd hc8 (by decide +kernel))
        refine fw_ld (-1000000001) rfl rfl (by decide +kernel) ?_
        exact ik_Wret rfl rfl ⟨_, _, rfl, rfl, rfl, rfl, Or.inr ⟨(congrArg (fun z => [fI z]) (by unfold an_lg; (repeat' split) <;> first | rfl | omega)), g_475_91, n91, g_475_90, (by omega), fr_475⟩⟩
  · have k_472 : cL h_472 := F_472.1.trans hl
    have fr_472 := hfr_cb (hfr_refl [90, 91] h) F_472 rfl
    have g_472_66 := (hfr_g F_472 66 rfl).trans h66
    have g_472_90 := (hfr_g F_472 90 rfl).trans h90
    have g_472_91 := (hfr_g F_472 91 rfl).trans h91
    omega

theorem cp_where1 {h : List ik_E} {pl : Int} {st : Int} {lo : Int} {mi : Int} {dr : Int} {xa : Int} {xb : Int} (q0 : 0 ≤ pl ∧ pl ≤ 12) (h0 : cE h 0 (.inr (9, [.ref 1, .ref 7, .ref 14, .ref 17, .ref 45, .ref 51, .ref 54, .ref 57]))) (h7 : cE h 7 (.inr (0, [fI pl, fI st, fI lo, .ref 8, .ref 9, .ref 10, .ref 11, .ref 12, .ref 13]))) (h14 : cE h 14 (.inr (1, [.ref 7, .ref 15, .ref 16, fI mi, fJ dr]))) (h16 : cE h 16 (.inl (.int, fA [xa, xb]))) (hl : h.length = 94) : ik_F 112 [.ref 0, fI 1] h (fun rv h_q => rv = [fI (if 1 < pl then xb else -1000000003)] ∧ hfr [] h h_q) := by
  refine ik_Wk 1 (pc_q := 1) (loc_q := [some (.ref 0), some (fI 1)]) (st_q := [fI 1]) (h_q := h) (cl_q := 0) (sl_q := 0) rfl ?_
  refine ik_Wc 121 1 3 [fI 1] [] rfl rfl rfl (by decide +kernel) rfl rfl (fw_sta hl rfl (by decide +kernel)) ?_
  refine ik_Wk 0 (pc_q := 0) (loc_q := [some (fI 1)]) (st_q := []) (h_q := h) (cl_q := 0) (sl_q := 0) rfl ?_
  refine ik_Wk 1 (pc_q := 1) (loc_q := [some (fI 1)]) (st_q := [fI 1]) (h_q := h) (cl_q := 0) (sl_q := 0) rfl ?_
  refine fw_if_eq rfl rfl (by decide +kernel) (by decide +kernel) (fun hc1 => absurd hc1 (by decide +kernel)) (fun hc1 => ?_)
  refine ik_Wk 2 (pc_q := 6) (loc_q := [some (fI 1)]) (st_q := [fI 1, fI 1]) (h_q := h) (cl_q := 0) (sl_q := 0) rfl ?_
  refine fw_ic_ne rfl rfl (by decide +kernel) (by decide +kernel) (by decide +kernel) (by decide +kernel) (fun hc2 => ?_) (fun hc2 => absurd hc2 (by decide +kernel))
  refine ik_Wk 2 (pc_q := 14) (loc_q := [some (fI 1)]) (st_q := [fI 1]) (h_q := h) (cl_q := 0) (sl_q := 0) rfl ?_
  refine ik_Wret rfl rfl ⟨_, _, rfl, rfl, ?_⟩
  refine ik_Wk 0 (pc_q := 4) (loc_q := [some (.ref 0), some (fI 1)]) (st_q := [fI 1]) (h_q := h) (cl_q := 0) (sl_q := 0) rfl ?_
  refine fw_if_ne rfl rfl (by decide +kernel) (by decide +kernel) (fun hc3 => absurd hc3 (by decide +kernel)) (fun hc3 => ?_)
  refine ik_Wk 1 (pc_q := 11) (loc_q := [some (.ref 0), some (fI 1)]) (st_q := [.ref 0]) (h_q := h) (cl_q := 0) (sl_q := 0) rfl ?_
  refine fw_gf rfl rfl h0 rfl ?_
  refine ik_Wc 7 1 0 [.ref 7] [] rfl rfl rfl (by decide +kernel) rfl rfl (fw_rec hl rfl h7 rfl (Nat.le_of_ble_eq_true rfl)) ?_
  refine ik_Wk 0 (pc_q := 0) (loc_q := [some (.ref 7)]) (st_q := []) (h_q := h) (cl_q := 0) (sl_q := 0) rfl ?_
  refine ik_Wk 1 (pc_q := 1) (loc_q := [some (.ref 7)]) (st_q := [.ref 7]) (h_q := h) (cl_q := 0) (sl_q := 0) rfl ?_
  refine fw_gf rfl rfl h7 rfl ?_
  refine ik_Wk 1 (pc_q := 5) (loc_q := [some (.ref 7)]) (st_q := [fI 1, fI pl]) (h_q := h) (cl_q := 0) (sl_q := 0) rfl ?_
  refine fw_ic_le rfl rfl (by omega) (by omega) (by omega) (by omega) (fun hc4 => ?_) (fun hc4 => ?_)
  · refine ik_Wk 1 (pc_q := 13) (loc_q := [some (.ref 7)]) (st_q := [fI 0]) (h_q := h) (cl_q := 0) (sl_q := 0) rfl ?_
    refine ik_Wret rfl rfl ⟨_, _, rfl, rfl, ?_⟩
    refine ik_Wk 0 (pc_q := 17) (loc_q := [some (.ref 0), some (fI 1)]) (st_q := [fI 0]) (h_q := h) (cl_q := 0) (sl_q := 0) rfl ?_
    refine fw_if_ne rfl rfl (by decide +kernel) (by decide +kernel) (fun hc5 => ?_) (fun hc5 => absurd hc5 (by decide +kernel))
    refine fw_ld (-1000000003) rfl rfl (by decide +kernel) ?_
    exact ik_Wret rfl rfl ⟨_, _, rfl, rfl, rfl, rfl, ⟨(congrArg (fun z => [fI z]) (by (repeat' split) <;> first | rfl | omega)), (hfr_refl [] h)⟩⟩
  · refine ik_Wk 2 (pc_q := 13) (loc_q := [some (.ref 7)]) (st_q := [fI 1]) (h_q := h) (cl_q := 0) (sl_q := 0) rfl ?_
    refine ik_Wret rfl rfl ⟨_, _, rfl, rfl, ?_⟩
    refine ik_Wk 0 (pc_q := 17) (loc_q := [some (.ref 0), some (fI 1)]) (st_q := [fI 1]) (h_q := h) (cl_q := 0) (sl_q := 0) rfl ?_
    refine fw_if_ne rfl rfl (by decide +kernel) (by decide +kernel) (fun hc6 => absurd hc6 (by decide +kernel)) (fun hc6 => ?_)
    refine ik_Wk 1 (pc_q := 24) (loc_q := [some (.ref 0), some (fI 1)]) (st_q := [.ref 0]) (h_q := h) (cl_q := 0) (sl_q := 0) rfl ?_
    refine fw_gf rfl rfl h0 rfl ?_
    refine fw_gf rfl rfl h14 rfl ?_
    refine ik_Wk 1 (pc_q := 31) (loc_q := [some (.ref 0), some (fI 1)]) (st_q := [fI 1, .ref 16]) (h_q := h) (cl_q := 0) (sl_q := 0) rfl ?_
    refine fw_ial (z := 1) rfl h16 (by decide +kernel) (Nat.le_of_ble_eq_true rfl) (by decide +kernel) ?_
    refine ik_Wk 0 (pc_q := 32) (loc_q := [some (.ref 0), some (fI 1)]) (st_q := [fI xb]) (h_q := h) (cl_q := 0) (sl_q := 0) rfl ?_
    exact ik_Wret rfl rfl ⟨_, _, rfl, rfl, rfl, rfl, ⟨(congrArg (fun z => [fI z]) (by (repeat' split) <;> first | rfl | omega)), (hfr_refl [] h)⟩⟩

theorem rp_where1 {h : List ik_E} {f : Nat → Int} {pl : Int} {xa : Int} {xb : Int} (q0 : 0 ≤ pl ∧ pl ≤ 12) (h66 : cE h 66 (.inr (10, (fI pl :: .ref 67 :: .ref 68 :: .ref 69 :: fI (f 4) :: .ref 70 :: .ref 71 :: fI (f 7) :: fI (f 8) :: .ref 72 :: fI (f 10) :: fI (f 11) :: fI (f 12) :: fJ (f 13) :: fI (f 14) :: fI (f 15) :: fI (f 16) :: fI (f 17) :: .ref 73 :: .ref 74 :: .ref 75 :: .ref 76 :: .ref 77 :: .ref 78 :: fI (f 24) :: .ref 79 :: .ref 80 :: .ref 81 :: .ref 82 :: .ref 83 :: .ref 84 :: .ref 85 :: fJ (f 32) :: fJ (f 33) :: .ref 86 :: .ref 87 :: fI (f 36) :: .ref 88 :: .ref 89 :: .ref 90 :: .ref 91 :: .ref 92 :: .ref 93 :: [])))) (h71 : cE h 71 (.inl (.int, fA [xa, xb]))) (hl : h.length = 94) : ik_F 200 [.ref 66, fI 1] h (fun rv h_q => rv = [fI (if 1 < pl then xb else -1000000003)] ∧ hfr [] h h_q) := by
  refine ik_Wk 1 (pc_q := 1) (loc_q := [some (.ref 66), some (fI 1)]) (st_q := [fI 1]) (h_q := h) (cl_q := 0) (sl_q := 0) rfl ?_
  refine ik_Wc 132 1 3 [fI 1] [] rfl rfl rfl (by decide +kernel) rfl rfl (fw_sta hl rfl (by decide +kernel)) ?_
  refine ik_Wk 0 (pc_q := 0) (loc_q := [some (fI 1)]) (st_q := []) (h_q := h) (cl_q := 0) (sl_q := 0) rfl ?_
  refine ik_Wk 1 (pc_q := 1) (loc_q := [some (fI 1)]) (st_q := [fI 1]) (h_q := h) (cl_q := 0) (sl_q := 0) rfl ?_
  refine fw_i2l rfl (by omega) (by omega) ?_
  refine fw_lc (z := 0) rfl (by decide +kernel) ?_
  refine fw_lc (z := 1) rfl (by decide +kernel) ?_
  refine fw_call 127 3 3 [fJ 1, fJ 0, fJ 1] [] rfl rfl rfl (Nat.le_of_ble_eq_true rfl) rfl rfl (fw_sta hl rfl (by decide +kernel)) (cr_in (v := 1) (a := 0) (b := 1) (by omega) (by omega) (by omega)  hl) ?_
  rintro _ h_478 (⟨rfl, p_478_0, F_478⟩ | ⟨rfl, p_478_0, F_478⟩)
  · have k_478 : cL h_478 := F_478.1.trans hl
    have fr_478 := hfr_cb (hfr_refl [] h) F_478 rfl
    have g_478_66 := (hfr_g F_478 66 rfl).trans h66
    have g_478_71 := (hfr_g F_478 71 rfl).trans h71
    refine ik_Wk 0 (pc_q := 7) (loc_q := [some (fI 1)]) (st_q := [fI 1]) (h_q := h_478) (cl_q := 0) (sl_q := 0) rfl ?_
    refine ik_Wret rfl rfl ⟨_, _, rfl, rfl, ?_⟩
    refine ik_Wk 0 (pc_q := 4) (loc_q := [some (.ref 66), some (fI 1)]) (st_q := [fI 1]) (h_q := h_478) (cl_q := 0) (sl_q := 0) rfl ?_
    refine fw_if_ne rfl rfl (by decide +kernel) (by decide +kernel) (fun hc1 => absurd hc1 (by decide +kernel)) (fun hc1 => ?_)
    refine ik_Wk 1 (pc_q := 11) (loc_q := [some (.ref 66), some (fI 1)]) (st_q := [.ref 66]) (h_q := h_478) (cl_q := 0) (sl_q := 0) rfl ?_
    refine ik_Wc 134 1 0 [.ref 66] [] rfl rfl rfl (by decide +kernel) rfl rfl (fw_rec k_478 rfl g_478_66 rfl (Nat.le_of_ble_eq_true rfl)) ?_
    refine ik_Wk 0 (pc_q := 0) (loc_q := [some (.ref 66)]) (st_q := []) (h_q := h_478) (cl_q := 0) (sl_q := 0) rfl ?_
    refine ik_Wk 1 (pc_q := 1) (loc_q := [some (.ref 66)]) (st_q := [.ref 66]) (h_q := h_478) (cl_q := 0) (sl_q := 0) rfl ?_
    refine fw_gf rfl rfl g_478_66 rfl ?_
    refine ik_Wk 1 (pc_q := 5) (loc_q := [some (.ref 66)]) (st_q := [fI 1, fI pl]) (h_q := h_478) (cl_q := 0) (sl_q := 0) rfl ?_
    refine fw_ic_le rfl rfl (by omega) (by omega) (by omega) (by omega) (fun hc2 => ?_) (fun hc2 => ?_)
    · refine ik_Wk 1 (pc_q := 13) (loc_q := [some (.ref 66)]) (st_q := [fI 0]) (h_q := h_478) (cl_q := 0) (sl_q := 0) rfl ?_
      refine ik_Wret rfl rfl ⟨_, _, rfl, rfl, ?_⟩
      refine ik_Wk 0 (pc_q := 14) (loc_q := [some (.ref 66), some (fI 1)]) (st_q := [fI 0]) (h_q := h_478) (cl_q := 0) (sl_q := 0) rfl ?_
      refine fw_if_eq rfl rfl (by decide +kernel) (by decide +kernel) (fun hc3 => ?_) (fun hc3 => absurd hc3 (by decide +kernel))
      refine fw_ld (-1000000003) rfl rfl (by decide +kernel) ?_
      exact ik_Wret rfl rfl ⟨_, _, rfl, rfl, rfl, rfl, ⟨(congrArg (fun z => [fI z]) (by (repeat' split) <;> first | rfl | omega)), fr_478⟩⟩
    · refine ik_Wk 2 (pc_q := 13) (loc_q := [some (.ref 66)]) (st_q := [fI 1]) (h_q := h_478) (cl_q := 0) (sl_q := 0) rfl ?_
      refine ik_Wret rfl rfl ⟨_, _, rfl, rfl, ?_⟩
      refine ik_Wk 0 (pc_q := 14) (loc_q := [some (.ref 66), some (fI 1)]) (st_q := [fI 1]) (h_q := h_478) (cl_q := 0) (sl_q := 0) rfl ?_
      refine fw_if_eq rfl rfl (by decide +kernel) (by decide +kernel) (fun hc4 => absurd hc4 (by decide +kernel)) (fun hc4 => ?_)
      refine ik_Wk 1 (pc_q := 18) (loc_q := [some (.ref 66), some (fI 1)]) (st_q := [.ref 66]) (h_q := h_478) (cl_q := 0) (sl_q := 0) rfl ?_
      refine fw_gf rfl rfl g_478_66 rfl ?_
      refine ik_Wk 1 (pc_q := 22) (loc_q := [some (.ref 66), some (fI 1)]) (st_q := [fI 1, .ref 71]) (h_q := h_478) (cl_q := 0) (sl_q := 0) rfl ?_
      refine fw_ial (z := 1) rfl g_478_71 (by decide +kernel) (Nat.le_of_ble_eq_true rfl) (by decide +kernel) ?_
      refine ik_Wk 0 (pc_q := 23) (loc_q := [some (.ref 66), some (fI 1)]) (st_q := [fI xb]) (h_q := h_478) (cl_q := 0) (sl_q := 0) rfl ?_
      refine ik_Wk 1 (pc_q := 28) (loc_q := [some (.ref 66), some (fI 1)]) (st_q := [fI xb]) (h_q := h_478) (cl_q := 0) (sl_q := 0) rfl ?_
      exact ik_Wret rfl rfl ⟨_, _, rfl, rfl, rfl, rfl, ⟨(congrArg (fun z => [fI z]) (by (repeat' split) <;> first | rfl | omega)), fr_478⟩⟩
  · have k_478 : cL h_478 := F_478.1.trans hl
    have fr_478 := hfr_cb (hfr_refl [] h) F_478 rfl
    have g_478_66 := (hfr_g F_478 66 rfl).trans h66
    have g_478_71 := (hfr_g F_478 71 rfl).trans h71
    omega

theorem cp_log1 {h : List ik_E} {pl : Int} {st : Int} {lo : Int} {p : Int} {n0 : Int} {n1 : Int} {lr : List Int} (q0 : 0 ≤ pl ∧ pl ≤ 12) (q1 : 0 ≤ n1 ∧ n1 ≤ 40) (q2 : -2147483648 ≤ p ∧ p < 2147483648) (h0 : cE h 0 (.inr (9, [.ref 1, .ref 7, .ref 14, .ref 17, .ref 45, .ref 51, .ref 54, .ref 57]))) (h7 : cE h 7 (.inr (0, [fI pl, fI st, fI lo, .ref 8, .ref 9, .ref 10, .ref 11, .ref 12, .ref 13]))) (h54 : cE h 54 (.inr (4, [.ref 55, .ref 56]))) (h55 : cE h 55 (.inl (.int, fA lr))) (n55 : lr.length = 80) (h56 : cE h 56 (.inl (.int, fA [n0, n1]))) (hl : h.length = 94) : ik_F 115 [.ref 0, fI 1, fI p] h (fun rv h_q => (rv = [fI (n1 + 1)] ∧ cE h_q 55 (.inl (.int, fA (lr.set (40 + n1).toNat p))) ∧ (lr.set (40 + n1).toNat p).length = 80 ∧ cE h_q 56 (.inl (.int, fA [n0, n1 + 1])) ∧ ((p = 12 ∨ (0 ≤ p ∧ p < pl)) ∧ n1 < 40) ∧ hfr [55, 56] h h_q) ∨ (rv = [fI (an_lg pl p)] ∧ cE h_q 55 (.inl (.int, fA lr)) ∧ lr.length = 80 ∧ cE h_q 56 (.inl (.int, fA [n0, n1])) ∧ (¬ ((p = 12 ∨ (0 ≤ p ∧ p < pl)) ∧ n1 < 40)) ∧ hfr [55, 56] h h_q)) := by
  refine ik_Wk 1 (pc_q := 1) (loc_q := [some (.ref 0), some (fI 1), some (fI p)]) (st_q := [fI 1]) (h_q := h) (cl_q := 0) (sl_q := 0) rfl ?_
  refine ik_Wc 121 1 3 [fI 1] [] rfl rfl rfl (by decide +kernel) rfl rfl (fw_sta hl rfl (by decide +kernel)) ?_
  refine ik_Wk 0 (pc_q := 0) (loc_q := [some (fI 1)]) (st_q := []) (h_q := h) (cl_q := 0) (sl_q := 0) rfl ?_
  refine ik_Wk 1 (pc_q := 1) (loc_q := [some (fI 1)]) (st_q := [fI 1]) (h_q := h) (cl_q := 0) (sl_q := 0) rfl ?_
  refine fw_if_eq rfl rfl (by decide +kernel) (by decide +kernel) (fun hc1 => absurd hc1 (by decide +kernel)) (fun hc1 => ?_)
  refine ik_Wk 2 (pc_q := 6) (loc_q := [some (fI 1)]) (st_q := [fI 1, fI 1]) (h_q := h) (cl_q := 0) (sl_q := 0) rfl ?_
  refine fw_ic_ne rfl rfl (by decide +kernel) (by decide +kernel) (by decide +kernel) (by decide +kernel) (fun hc2 => ?_) (fun hc2 => absurd hc2 (by decide +kernel))
  refine ik_Wk 2 (pc_q := 14) (loc_q := [some (fI 1)]) (st_q := [fI 1]) (h_q := h) (cl_q := 0) (sl_q := 0) rfl ?_
  refine ik_Wret rfl rfl ⟨_, _, rfl, rfl, ?_⟩
  refine ik_Wk 0 (pc_q := 4) (loc_q := [some (.ref 0), some (fI 1), some (fI p)]) (st_q := [fI 1]) (h_q := h) (cl_q := 0) (sl_q := 0) rfl ?_
  refine fw_if_eq rfl rfl (by decide +kernel) (by decide +kernel) (fun hc3 => absurd hc3 (by decide +kernel)) (fun hc3 => ?_)
  refine ik_Wk 1 (pc_q := 8) (loc_q := [some (.ref 0), some (fI 1), some (fI p)]) (st_q := [fI p]) (h_q := h) (cl_q := 0) (sl_q := 0) rfl ?_
  refine fw_bi rfl (by decide +kernel) ?_
  refine fw_ic_eq rfl rfl (by omega) (by omega) (by omega) (by omega) (fun hc4 => ?_) (fun hc4 => ?_)
  · refine ik_Wk 1 (pc_q := 28) (loc_q := [some (.ref 0), some (fI 1), some (fI p)]) (st_q := [.ref 0]) (h_q := h) (cl_q := 0) (sl_q := 0) rfl ?_
    refine fw_gf rfl rfl h0 rfl ?_
    refine fw_gf rfl rfl h54 rfl ?_
    refine ik_Wk 1 (pc_q := 35) (loc_q := [some (.ref 0), some (fI 1), some (fI p)]) (st_q := [fI 1, .ref 56]) (h_q := h) (cl_q := 0) (sl_q := 0) rfl ?_
    refine fw_ial (z := 1) rfl h56 (by decide +kernel) (Nat.le_of_ble_eq_true rfl) (by decide +kernel) ?_
    refine ik_Wk 0 (pc_q := 36) (loc_q := [some (.ref 0), some (fI 1), some (fI p)]) (st_q := [fI n1]) (h_q := h) (cl_q := 0) (sl_q := 0) rfl ?_
    refine fw_bi rfl (by decide +kernel) ?_
    refine fw_ic_lt rfl rfl (by omega) (by omega) (by omega) (by omega) (fun hc5 => ?_) (fun hc5 => ?_)
    · refine ik_Wk 1 (pc_q := 45) (loc_q := [some (.ref 0), some (fI 1), some (fI p)]) (st_q := [.ref 0]) (h_q := h) (cl_q := 0) (sl_q := 0) rfl ?_
      refine fw_gf rfl rfl h0 rfl ?_
      refine ik_Wk 2 (pc_q := 50) (loc_q := [some (.ref 0), some (fI 1), some (fI p)]) (st_q := [fI p, fI 1, .ref 54]) (h_q := h) (cl_q := 0) (sl_q := 0) rfl ?_
      refine ik_Wc 38 3 0 [.ref 54, fI 1, fI p] [] rfl rfl rfl (by decide +kernel) rfl rfl (fw_rec hl rfl h54 rfl (Nat.le_of_ble_eq_true rfl)) ?_
      refine ik_Wk 0 (pc_q := 0) (loc_q := [some (.ref 54), some (fI 1), some (fI p)]) (st_q := []) (h_q := h) (cl_q := 0) (sl_q := 0) rfl ?_
      refine ik_Wk 1 (pc_q := 1) (loc_q := [some (.ref 54), some (fI 1), some (fI p)]) (st_q := [.ref 54]) (h_q := h) (cl_q := 0) (sl_q := 0) rfl ?_
      refine fw_gf rfl rfl h54 rfl ?_
      refine ik_Wk 1 (pc_q := 5) (loc_q := [some (.ref 54), some (fI 1), some (fI p)]) (st_q := [fI 1, .ref 55]) (h_q := h) (cl_q := 0) (sl_q := 0) rfl ?_
      refine fw_bi rfl (by decide +kernel) ?_
      refine fw_mul rfl ?_
      refine ik_Wk 1 (pc_q := 9) (loc_q := [some (.ref 54), some (fI 1), some (fI p)]) (st_q := [.ref 54, fI 40, .ref 55]) (h_q := h) (cl_q := 0) (sl_q := 0) rfl ?_
      refine fw_gf rfl rfl h54 rfl ?_
      refine ik_Wk 1 (pc_q := 13) (loc_q := [some (.ref 54), some (fI 1), some (fI p)]) (st_q := [fI 1, .ref 56, fI 40, .ref 55]) (h_q := h) (cl_q := 0) (sl_q := 0) rfl ?_
      refine fw_ial (z := 1) rfl h56 (by decide +kernel) (Nat.le_of_ble_eq_true rfl) (by decide +kernel) ?_
      refine ik_Wk 0 (pc_q := 14) (loc_q := [some (.ref 54), some (fI 1), some (fI p)]) (st_q := [fI n1, fI 40, .ref 55]) (h_q := h) (cl_q := 0) (sl_q := 0) rfl ?_
      refine fw_add rfl ?_
      refine ik_Wk 1 (pc_q := 16) (loc_q := [some (.ref 54), some (fI 1), some (fI p)]) (st_q := [fI p, fI (40 + n1), .ref 55]) (h_q := h) (cl_q := 0) (sl_q := 0) rfl ?_
      have hl6 : (lr.set (40 + n1).toNat p).length = 80 := (List.length_set ..).trans n55
      refine fx_ias rfl h55 (by omega) (by omega) (by omega) ?_
      intro h_479 e_479 f_479 l_479
      have k_479 : cL h_479 := l_479.trans hl
      have fr_479 := hfr_wb (hfr_refl [55, 56] h) f_479 l_479 rfl
      clear l_479
      have g_479_0 := (f_479 0 (Nat.ne_of_beq_eq_false rfl)).trans h0
      have g_479_7 := (f_479 7 (Nat.ne_of_beq_eq_false rfl)).trans h7
      have g_479_54 := (f_479 54 (Nat.ne_of_beq_eq_false rfl)).trans h54
      have g_479_56 := (f_479 56 (Nat.ne_of_beq_eq_false rfl)).trans h56
      have g_479_55 : cE h_479 55 (.inl (.int, fA (lr.set (40 + n1).toNat p))) := e_479
      refine ik_Wk 1 (pc_q := 18) (loc_q := [some (.ref 54), some (fI 1), some (fI p)]) (st_q := [.ref 54]) (h_q := h_479) (cl_q := 0) (sl_q := 0) rfl ?_
      refine fw_gf rfl rfl g_479_54 rfl ?_
      refine ik_Wk 2 (pc_q := 23) (loc_q := [some (.ref 54), some (fI 1), some (fI p)]) (st_q := [fI 1, .ref 56, fI 1, .ref 56]) (h_q := h_479) (cl_q := 0) (sl_q := 0) rfl ?_
      refine fw_ial (z := 1) rfl g_479_56 (by decide +kernel) (Nat.le_of_ble_eq_true rfl) (by decide +kernel) ?_
      refine ik_Wk 0 (pc_q := 24) (loc_q := [some (.ref 54), some (fI 1), some (fI p)]) (st_q := [fI n1, fI 1, .ref 56]) (h_q := h_479) (cl_q := 0) (sl_q := 0) rfl ?_
      refine ik_Wk 1 (pc_q := 25) (loc_q := [some (.ref 54), some (fI 1), some (fI p)]) (st_q := [fI 1, fI n1, fI 1, .ref 56]) (h_q := h_479) (cl_q := 0) (sl_q := 0) rfl ?_
      refine fw_add rfl ?_
      refine fx_ias (z := 1) rfl g_479_56 (by decide +kernel) (Nat.le_of_ble_eq_true rfl) (by decide +kernel) ?_
      intro h_480 e_480 f_480 l_480
      have k_480 : cL h_480 := l_480.trans k_479
      have fr_480 := hfr_wb fr_479 f_480 l_480 rfl
      clear l_480
      have g_480_0 := (f_480 0 (Nat.ne_of_beq_eq_false rfl)).trans g_479_0
      have g_480_7 := (f_480 7 (Nat.ne_of_beq_eq_false rfl)).trans g_479_7
      have g_480_54 := (f_480 54 (Nat.ne_of_beq_eq_false rfl)).trans g_479_54
      have g_480_55 := (f_480 55 (Nat.ne_of_beq_eq_false rfl)).trans g_479_55
      have g_480_56 : cE h_480 56 (.inl (.int, fA [n0, n1 + 1])) := e_480
      refine ik_Wk 1 (pc_q := 28) (loc_q := [some (.ref 54), some (fI 1), some (fI p)]) (st_q := [.ref 54]) (h_q := h_480) (cl_q := 0) (sl_q := 0) rfl ?_
      refine fw_gf rfl rfl g_480_54 rfl ?_
      refine ik_Wk 1 (pc_q := 32) (loc_q := [some (.ref 54), some (fI 1), some (fI p)]) (st_q := [fI 1, .ref 56]) (h_q := h_480) (cl_q := 0) (sl_q := 0) rfl ?_
      refine fw_ial (z := 1) rfl g_480_56 (by decide +kernel) (Nat.le_of_ble_eq_true rfl) (by decide +kernel) ?_
      refine ik_Wk 0 (pc_q := 33) (loc_q := [some (.ref 54), some (fI 1), some (fI p)]) (st_q := [fI (n1 + 1)]) (h_q := h_480) (cl_q := 0) (sl_q := 0) rfl ?_
      refine ik_Wret rfl rfl ⟨_, _, rfl, rfl, ?_⟩
      refine ik_Wk 0 (pc_q := 53) (loc_q := [some (.ref 0), some (fI 1), some (fI p)]) (st_q := [fI (n1 + 1)]) (h_q := h_480) (cl_q := 0) (sl_q := 0) rfl ?_
      exact ik_Wret rfl rfl ⟨_, _, rfl, rfl, rfl, rfl, Or.inl ⟨rfl, g_480_55, hl6, g_480_56, (by omega), fr_480⟩⟩
    · refine fw_ld (-1000000004) rfl rfl (by decide +kernel) ?_
      exact ik_Wret rfl rfl ⟨_, _, rfl, rfl, rfl, rfl, Or.inr ⟨(congrArg (fun z => [fI z]) (by unfold an_lg; (repeat' split) <;> first | rfl | omega)), h55, n55, h56, (by omega), (hfr_refl [55, 56] h)⟩⟩
  · refine ik_Wk 1 (pc_q := 14) (loc_q := [some (.ref 0), some (fI 1), some (fI p)]) (st_q := [.ref 0]) (h_q := h) (cl_q := 0) (sl_q := 0) rfl ?_
    refine fw_gf rfl rfl h0 rfl ?_
    refine ik_Wk 1 (pc_q := 18) (loc_q := [some (.ref 0), some (fI 1), some (fI p)]) (st_q := [fI p, .ref 7]) (h_q := h) (cl_q := 0) (sl_q := 0) rfl ?_
    refine ik_Wc 3 2 0 [.ref 7, fI p] [] rfl rfl rfl (by decide +kernel) rfl rfl (fw_rec hl rfl h7 rfl (Nat.le_of_ble_eq_true rfl)) ?_
    refine ik_Wk 0 (pc_q := 0) (loc_q := [some (.ref 7), some (fI p)]) (st_q := []) (h_q := h) (cl_q := 0) (sl_q := 0) rfl ?_
    refine ik_Wk 1 (pc_q := 1) (loc_q := [some (.ref 7), some (fI p)]) (st_q := [fI p]) (h_q := h) (cl_q := 0) (sl_q := 0) rfl ?_
    refine fw_if_lt rfl rfl (by omega) (by omega) (fun hc7 => ?_) (fun hc7 => ?_)
    · refine ik_Wk 1 (pc_q := 17) (loc_q := [some (.ref 7), some (fI p)]) (st_q := [fI 0]) (h_q := h) (cl_q := 0) (sl_q := 0) rfl ?_
      refine ik_Wret rfl rfl ⟨_, _, rfl, rfl, ?_⟩
      refine ik_Wk 0 (pc_q := 21) (loc_q := [some (.ref 0), some (fI 1), some (fI p)]) (st_q := [fI 0]) (h_q := h) (cl_q := 0) (sl_q := 0) rfl ?_
      refine fw_if_ne rfl rfl (by decide +kernel) (by decide +kernel) (fun hc8 => ?_) (fun hc8 => absurd hc8 (by decide +kernel))
      refine fw_ld (-1000000001) rfl rfl (by decide +kernel) ?_
      exact ik_Wret rfl rfl ⟨_, _, rfl, rfl, rfl, rfl, Or.inr ⟨(congrArg (fun z => [fI z]) (by unfold an_lg; (repeat' split) <;> first | rfl | omega)), h55, n55, h56, (by omega), (hfr_refl [55, 56] h)⟩⟩
    · refine ik_Wk 2 (pc_q := 6) (loc_q := [some (.ref 7), some (fI p)]) (st_q := [.ref 7, fI p]) (h_q := h) (cl_q := 0) (sl_q := 0) rfl ?_
      refine fw_gf rfl rfl h7 rfl ?_
      refine fw_ic_ge rfl rfl (by omega) (by omega) (by omega) (by omega) (fun hc9 => ?_) (fun hc9 => ?_)
      · refine ik_Wk 1 (pc_q := 17) (loc_q := [some (.ref 7), some (fI p)]) (st_q := [fI 0]) (h_q := h) (cl_q := 0) (sl_q := 0) rfl ?_
        refine ik_Wret rfl rfl ⟨_, _, rfl, rfl, ?_⟩
        refine ik_Wk 0 (pc_q := 21) (loc_q := [some (.ref 0), some (fI 1), some (fI p)]) (st_q := [fI 0]) (h_q := h) (cl_q := 0) (sl_q := 0) rfl ?_
        refine fw_if_ne rfl rfl (by decide +kernel) (by decide +kernel) (fun hc10 => ?_) (fun hc10 => absurd hc10 (by decide +kernel))
        refine fw_ld (-1000000001) rfl rfl (by decide +kernel) ?_
        exact ik_Wret rfl rfl ⟨_, _, rfl, rfl, rfl, rfl, Or.inr ⟨(congrArg (fun z => [fI z]) (by unfold an_lg; (repeat' split) <;> first | rfl | omega)), h55, n55, h56, (by omega), (hfr_refl [55, 56] h)⟩⟩
      · refine ik_Wk 2 (pc_q := 17) (loc_q := [some (.ref 7), some (fI p)]) (st_q := [fI 1]) (h_q := h) (cl_q := 0) (sl_q := 0) rfl ?_
        refine ik_Wret rfl rfl ⟨_, _, rfl, rfl, ?_⟩
        refine ik_Wk 0 (pc_q := 21) (loc_q := [some (.ref 0), some (fI 1), some (fI p)]) (st_q := [fI 1]) (h_q := h) (cl_q := 0) (sl_q := 0) rfl ?_
        refine fw_if_ne rfl rfl (by decide +kernel) (by decide +kernel) (fun hc11 => absurd hc11 (by decide +kernel)) (fun hc11 => ?_)
        refine ik_Wk 1 (pc_q := 28) (loc_q := [some (.ref 0), some (fI 1), some (fI p)]) (st_q := [.ref 0]) (h_q := h) (cl_q := 0) (sl_q := 0) rfl ?_
        refine fw_gf rfl rfl h0 rfl ?_
        refine fw_gf rfl rfl h54 rfl ?_
        refine ik_Wk 1 (pc_q := 35) (loc_q := [some (.ref 0), some (fI 1), some (fI p)]) (st_q := [fI 1, .ref 56]) (h_q := h) (cl_q := 0) (sl_q := 0) rfl ?_
        refine fw_ial (z := 1) rfl h56 (by decide +kernel) (Nat.le_of_ble_eq_true rfl) (by decide +kernel) ?_
        refine ik_Wk 0 (pc_q := 36) (loc_q := [some (.ref 0), some (fI 1), some (fI p)]) (st_q := [fI n1]) (h_q := h) (cl_q := 0) (sl_q := 0) rfl ?_
        refine fw_bi rfl (by decide +kernel) ?_
        refine fw_ic_lt rfl rfl (by omega) (by omega) (by omega) (by omega) (fun hc12 => ?_) (fun hc12 => ?_)
        · refine ik_Wk 1 (pc_q := 45) (loc_q := [some (.ref 0), some (fI 1), some (fI p)]) (st_q := [.ref 0]) (h_q := h) (cl_q := 0) (sl_q := 0) rfl ?_
          refine fw_gf rfl rfl h0 rfl ?_
          refine ik_Wk 2 (pc_q := 50) (loc_q := [some (.ref 0), some (fI 1), some (fI p)]) (st_q := [fI p, fI 1, .ref 54]) (h_q := h) (cl_q := 0) (sl_q := 0) rfl ?_
          refine ik_Wc 38 3 0 [.ref 54, fI 1, fI p] [] rfl rfl rfl (by decide +kernel) rfl rfl (fw_rec hl rfl h54 rfl (Nat.le_of_ble_eq_true rfl)) ?_
          refine ik_Wk 0 (pc_q := 0) (loc_q := [some (.ref 54), some (fI 1), some (fI p)]) (st_q := []) (h_q := h) (cl_q := 0) (sl_q := 0) rfl ?_
          refine ik_Wk 1 (pc_q := 1) (loc_q := [some (.ref 54), some (fI 1), some (fI p)]) (st_q := [.ref 54]) (h_q := h) (cl_q := 0) (sl_q := 0) rfl ?_
          refine fw_gf rfl rfl h54 rfl ?_
          refine ik_Wk 1 (pc_q := 5) (loc_q := [some (.ref 54), some (fI 1), some (fI p)]) (st_q := [fI 1, .ref 55]) (h_q := h) (cl_q := 0) (sl_q := 0) rfl ?_
          refine fw_bi rfl (by decide +kernel) ?_
          refine fw_mul rfl ?_
          refine ik_Wk 1 (pc_q := 9) (loc_q := [some (.ref 54), some (fI 1), some (fI p)]) (st_q := [.ref 54, fI 40, .ref 55]) (h_q := h) (cl_q := 0) (sl_q := 0) rfl ?_
          refine fw_gf rfl rfl h54 rfl ?_
          refine ik_Wk 1 (pc_q := 13) (loc_q := [some (.ref 54), some (fI 1), some (fI p)]) (st_q := [fI 1, .ref 56, fI 40, .ref 55]) (h_q := h) (cl_q := 0) (sl_q := 0) rfl ?_
          refine fw_ial (z := 1) rfl h56 (by decide +kernel) (Nat.le_of_ble_eq_true rfl) (by decide +kernel) ?_
          refine ik_Wk 0 (pc_q := 14) (loc_q := [some (.ref 54), some (fI 1), some (fI p)]) (st_q := [fI n1, fI 40, .ref 55]) (h_q := h) (cl_q := 0) (sl_q := 0) rfl ?_
          refine fw_add rfl ?_
          refine ik_Wk 1 (pc_q := 16) (loc_q := [some (.ref 54), some (fI 1), some (fI p)]) (st_q := [fI p, fI (40 + n1), .ref 55]) (h_q := h) (cl_q := 0) (sl_q := 0) rfl ?_
          have hl13 : (lr.set (40 + n1).toNat p).length = 80 := (List.length_set ..).trans n55
          refine fx_ias rfl h55 (by omega) (by omega) (by omega) ?_
          intro h_481 e_481 f_481 l_481
          have k_481 : cL h_481 := l_481.trans hl
          have fr_481 := hfr_wb (hfr_refl [55, 56] h) f_481 l_481 rfl
          clear l_481
          have g_481_0 := (f_481 0 (Nat.ne_of_beq_eq_false rfl)).trans h0
          have g_481_7 := (f_481 7 (Nat.ne_of_beq_eq_false rfl)).trans h7
          have g_481_54 := (f_481 54 (Nat.ne_of_beq_eq_false rfl)).trans h54
          have g_481_56 := (f_481 56 (Nat.ne_of_beq_eq_false rfl)).trans h56
          have g_481_55 : cE h_481 55 (.inl (.int, fA (lr.set (40 + n1).toNat p))) := e_481
          refine ik_Wk 1 (pc_q := 18) (loc_q := [some (.ref 54), some (fI 1), some (fI p)]) (st_q := [.ref 54]) (h_q := h_481) (cl_q := 0) (sl_q := 0) rfl ?_
          refine fw_gf rfl rfl g_481_54 rfl ?_
          refine ik_Wk 2 (pc_q := 23) (loc_q := [some (.ref 54), some (fI 1), some (fI p)]) (st_q := [fI 1, .ref 56, fI 1, .ref 56]) (h_q := h_481) (cl_q := 0) (sl_q := 0) rfl ?_
          refine fw_ial (z := 1) rfl g_481_56 (by decide +kernel) (Nat.le_of_ble_eq_true rfl) (by decide +kernel) ?_
          refine ik_Wk 0 (pc_q := 24) (loc_q := [some (.ref 54), some (fI 1), some (fI p)]) (st_q := [fI n1, fI 1, .ref 56]) (h_q := h_481) (cl_q := 0) (sl_q := 0) rfl ?_
          refine ik_Wk 1 (pc_q := 25) (loc_q := [some (.ref 54), some (fI 1), some (fI p)]) (st_q := [fI 1, fI n1, fI 1, .ref 56]) (h_q := h_481) (cl_q := 0) (sl_q := 0) rfl ?_
          refine fw_add rfl ?_
          refine fx_ias (z := 1) rfl g_481_56 (by decide +kernel) (Nat.le_of_ble_eq_true rfl) (by decide +kernel) ?_
          intro h_482 e_482 f_482 l_482
          have k_482 : cL h_482 := l_482.trans k_481
          have fr_482 := hfr_wb fr_481 f_482 l_482 rfl
          clear l_482
          have g_482_0 := (f_482 0 (Nat.ne_of_beq_eq_false rfl)).trans g_481_0
          have g_482_7 := (f_482 7 (Nat.ne_of_beq_eq_false rfl)).trans g_481_7
          have g_482_54 := (f_482 54 (Nat.ne_of_beq_eq_false rfl)).trans g_481_54
          have g_482_55 := (f_482 55 (Nat.ne_of_beq_eq_false rfl)).trans g_481_55
          have g_482_56 : cE h_482 56 (.inl (.int, fA [n0, n1 + 1])) := e_482
          refine ik_Wk 1 (pc_q := 28) (loc_q := [some (.ref 54), some (fI 1), some (fI p)]) (st_q := [.ref 54]) (h_q := h_482) (cl_q := 0) (sl_q := 0) rfl ?_
          refine fw_gf rfl rfl g_482_54 rfl ?_
          refine ik_Wk 1 (pc_q := 32) (loc_q := [some (.ref 54), some (fI 1), some (fI p)]) (st_q := [fI 1, .ref 56]) (h_q := h_482) (cl_q := 0) (sl_q := 0) rfl ?_
          refine fw_ial (z := 1) rfl g_482_56 (by decide +kernel) (Nat.le_of_ble_eq_true rfl) (by decide +kernel) ?_
          refine ik_Wk 0 (pc_q := 33) (loc_q := [some (.ref 54), some (fI 1), some (fI p)]) (st_q := [fI (n1 + 1)]) (h_q := h_482) (cl_q := 0) (sl_q := 0) rfl ?_
          refine ik_Wret rfl rfl ⟨_, _, rfl, rfl, ?_⟩
          refine ik_Wk 0 (pc_q := 53) (loc_q := [some (.ref 0), some (fI 1), some (fI p)]) (st_q := [fI (n1 + 1)]) (h_q := h_482) (cl_q := 0) (sl_q := 0) rfl ?_
          exact ik_Wret rfl rfl ⟨_, _, rfl, rfl, rfl, rfl, Or.inl ⟨rfl, g_482_55, hl13, g_482_56, (by omega), fr_482⟩⟩
        · refine fw_ld (-1000000004) rfl rfl (by decide +kernel) ?_
          exact ik_Wret rfl rfl ⟨_, _, rfl, rfl, rfl, rfl, Or.inr ⟨(congrArg (fun z => [fI z]) (by unfold an_lg; (repeat' split) <;> first | rfl | omega)), h55, n55, h56, (by omega), (hfr_refl [55, 56] h)⟩⟩

theorem rp_log1 {h : List ik_E} {f : Nat → Int} {pl : Int} {p : Int} {n0 : Int} {n1 : Int} {lr : List Int} (q0 : 0 ≤ pl ∧ pl ≤ 12) (q1 : 0 ≤ n1 ∧ n1 ≤ 40) (q2 : -2147483648 ≤ p ∧ p < 2147483648) (h66 : cE h 66 (.inr (10, (fI pl :: .ref 67 :: .ref 68 :: .ref 69 :: fI (f 4) :: .ref 70 :: .ref 71 :: fI (f 7) :: fI (f 8) :: .ref 72 :: fI (f 10) :: fI (f 11) :: fI (f 12) :: fJ (f 13) :: fI (f 14) :: fI (f 15) :: fI (f 16) :: fI (f 17) :: .ref 73 :: .ref 74 :: .ref 75 :: .ref 76 :: .ref 77 :: .ref 78 :: fI (f 24) :: .ref 79 :: .ref 80 :: .ref 81 :: .ref 82 :: .ref 83 :: .ref 84 :: .ref 85 :: fJ (f 32) :: fJ (f 33) :: .ref 86 :: .ref 87 :: fI (f 36) :: .ref 88 :: .ref 89 :: .ref 90 :: .ref 91 :: .ref 92 :: .ref 93 :: [])))) (h90 : cE h 90 (.inl (.int, fA [n0, n1]))) (h91 : cE h 91 (.inl (.int, fA lr))) (n91 : lr.length = 80) (hl : h.length = 94) : ik_F 203 [.ref 66, fI 1, fI p] h (fun rv h_q => (rv = [fI (n1 + 1)] ∧ cE h_q 91 (.inl (.int, fA (lr.set (40 + n1).toNat p))) ∧ (lr.set (40 + n1).toNat p).length = 80 ∧ cE h_q 90 (.inl (.int, fA [n0, n1 + 1])) ∧ ((p = 12 ∨ (0 ≤ p ∧ p < pl)) ∧ n1 < 40) ∧ hfr [90, 91] h h_q) ∨ (rv = [fI (an_lg pl p)] ∧ cE h_q 91 (.inl (.int, fA lr)) ∧ lr.length = 80 ∧ cE h_q 90 (.inl (.int, fA [n0, n1])) ∧ (¬ ((p = 12 ∨ (0 ≤ p ∧ p < pl)) ∧ n1 < 40)) ∧ hfr [90, 91] h h_q)) := by
  refine ik_Wk 1 (pc_q := 1) (loc_q := [some (.ref 66), some (fI 1), some (fI p)]) (st_q := [fI 1]) (h_q := h) (cl_q := 0) (sl_q := 0) rfl ?_
  refine ik_Wc 132 1 3 [fI 1] [] rfl rfl rfl (by decide +kernel) rfl rfl (fw_sta hl rfl (by decide +kernel)) ?_
  refine ik_Wk 0 (pc_q := 0) (loc_q := [some (fI 1)]) (st_q := []) (h_q := h) (cl_q := 0) (sl_q := 0) rfl ?_
  refine ik_Wk 1 (pc_q := 1) (loc_q := [some (fI 1)]) (st_q := [fI 1]) (h_q := h) (cl_q := 0) (sl_q := 0) rfl ?_
  refine fw_i2l rfl (by omega) (by omega) ?_
  refine fw_lc (z := 0) rfl (by decide +kernel) ?_
  refine fw_lc (z := 1) rfl (by decide +kernel) ?_
  refine fw_call 127 3 3 [fJ 1, fJ 0, fJ 1] [] rfl rfl rfl (Nat.le_of_ble_eq_true rfl) rfl rfl (fw_sta hl rfl (by decide +kernel)) (cr_in (v := 1) (a := 0) (b := 1) (by omega) (by omega) (by omega)  hl) ?_
  rintro _ h_483 (⟨rfl, p_483_0, F_483⟩ | ⟨rfl, p_483_0, F_483⟩)
  · have k_483 : cL h_483 := F_483.1.trans hl
    have fr_483 := hfr_cb (hfr_refl [90, 91] h) F_483 rfl
    have g_483_66 := (hfr_g F_483 66 rfl).trans h66
    have g_483_90 := (hfr_g F_483 90 rfl).trans h90
    have g_483_91 := (hfr_g F_483 91 rfl).trans h91
    refine ik_Wk 0 (pc_q := 7) (loc_q := [some (fI 1)]) (st_q := [fI 1]) (h_q := h_483) (cl_q := 0) (sl_q := 0) rfl ?_
    refine ik_Wret rfl rfl ⟨_, _, rfl, rfl, ?_⟩
    refine ik_Wk 0 (pc_q := 4) (loc_q := [some (.ref 66), some (fI 1), some (fI p)]) (st_q := [fI 1]) (h_q := h_483) (cl_q := 0) (sl_q := 0) rfl ?_
    refine fw_if_eq rfl rfl (by decide +kernel) (by decide +kernel) (fun hc1 => absurd hc1 (by decide +kernel)) (fun hc1 => ?_)
    refine ik_Wk 1 (pc_q := 8) (loc_q := [some (.ref 66), some (fI 1), some (fI p)]) (st_q := [fI p]) (h_q := h_483) (cl_q := 0) (sl_q := 0) rfl ?_
    refine fw_bi rfl (by decide +kernel) ?_
    refine fw_ic_eq rfl rfl (by omega) (by omega) (by omega) (by omega) (fun hc2 => ?_) (fun hc2 => ?_)
    · refine ik_Wk 1 (pc_q := 25) (loc_q := [some (.ref 66), some (fI 1), some (fI p)]) (st_q := [.ref 66]) (h_q := h_483) (cl_q := 0) (sl_q := 0) rfl ?_
      refine fw_gf rfl rfl g_483_66 rfl ?_
      refine ik_Wk 1 (pc_q := 29) (loc_q := [some (.ref 66), some (fI 1), some (fI p)]) (st_q := [fI 1, .ref 90]) (h_q := h_483) (cl_q := 0) (sl_q := 0) rfl ?_
      refine fw_ial (z := 1) rfl g_483_90 (by decide +kernel) (Nat.le_of_ble_eq_true rfl) (by decide +kernel) ?_
      refine ik_Wk 0 (pc_q := 30) (loc_q := [some (.ref 66), some (fI 1), some (fI p)]) (st_q := [fI n1]) (h_q := h_483) (cl_q := 0) (sl_q := 0) rfl ?_
      refine fw_bi rfl (by decide +kernel) ?_
      refine fw_ic_ne rfl rfl (by omega) (by omega) (by omega) (by omega) (fun hc3 => ?_) (fun hc3 => ?_)
      · refine fw_ld (-1000000004) rfl rfl (by decide +kernel) ?_
        exact ik_Wret rfl rfl ⟨_, _, rfl, rfl, rfl, rfl, Or.inr ⟨(congrArg (fun z => [fI z]) (by unfold an_lg; (repeat' split) <;> first | rfl | omega)), g_483_91, n91, g_483_90, (by omega), fr_483⟩⟩
      · refine ik_Wk 1 (pc_q := 39) (loc_q := [some (.ref 66), some (fI 1), some (fI p)]) (st_q := [.ref 66]) (h_q := h_483) (cl_q := 0) (sl_q := 0) rfl ?_
        refine fw_gf rfl rfl g_483_66 rfl ?_
        refine fw_bi rfl (by decide +kernel) ?_
        refine ik_Wk 1 (pc_q := 45) (loc_q := [some (.ref 66), some (fI 1), some (fI p)]) (st_q := [fI 1, fI 40, .ref 91]) (h_q := h_483) (cl_q := 0) (sl_q := 0) rfl ?_
        refine fw_mul rfl ?_
        refine ik_Wk 1 (pc_q := 47) (loc_q := [some (.ref 66), some (fI 1), some (fI p)]) (st_q := [.ref 66, fI 40, .ref 91]) (h_q := h_483) (cl_q := 0) (sl_q := 0) rfl ?_
        refine fw_gf rfl rfl g_483_66 rfl ?_
        refine ik_Wk 1 (pc_q := 51) (loc_q := [some (.ref 66), some (fI 1), some (fI p)]) (st_q := [fI 1, .ref 90, fI 40, .ref 91]) (h_q := h_483) (cl_q := 0) (sl_q := 0) rfl ?_
        refine fw_ial (z := 1) rfl g_483_90 (by decide +kernel) (Nat.le_of_ble_eq_true rfl) (by decide +kernel) ?_
        refine ik_Wk 0 (pc_q := 52) (loc_q := [some (.ref 66), some (fI 1), some (fI p)]) (st_q := [fI n1, fI 40, .ref 91]) (h_q := h_483) (cl_q := 0) (sl_q := 0) rfl ?_
        refine fw_add rfl ?_
        refine ik_Wk 1 (pc_q := 54) (loc_q := [some (.ref 66), some (fI 1), some (fI p)]) (st_q := [fI p, fI (40 + n1), .ref 91]) (h_q := h_483) (cl_q := 0) (sl_q := 0) rfl ?_
        have hl4 : (lr.set (40 + n1).toNat p).length = 80 := (List.length_set ..).trans n91
        refine fx_ias rfl g_483_91 (by omega) (by omega) (by omega) ?_
        intro h_484 e_484 f_484 l_484
        have k_484 : cL h_484 := l_484.trans k_483
        have fr_484 := hfr_wb fr_483 f_484 l_484 rfl
        clear l_484
        have g_484_66 := (f_484 66 (Nat.ne_of_beq_eq_false rfl)).trans g_483_66
        have g_484_90 := (f_484 90 (Nat.ne_of_beq_eq_false rfl)).trans g_483_90
        have g_484_91 : cE h_484 91 (.inl (.int, fA (lr.set (40 + n1).toNat p))) := e_484
        refine ik_Wk 1 (pc_q := 56) (loc_q := [some (.ref 66), some (fI 1), some (fI p)]) (st_q := [.ref 66]) (h_q := h_484) (cl_q := 0) (sl_q := 0) rfl ?_
        refine fw_gf rfl rfl g_484_66 rfl ?_
        refine ik_Wk 2 (pc_q := 61) (loc_q := [some (.ref 66), some (fI 1), some (fI p)]) (st_q := [fI 1, .ref 90, fI 1, .ref 90]) (h_q := h_484) (cl_q := 0) (sl_q := 0) rfl ?_
        refine fw_ial (z := 1) rfl g_484_90 (by decide +kernel) (Nat.le_of_ble_eq_true rfl) (by decide +kernel) ?_
        refine ik_Wk 0 (pc_q := 62) (loc_q := [some (.ref 66), some (fI 1), some (fI p)]) (st_q := [fI n1, fI 1, .ref 90]) (h_q := h_484) (cl_q := 0) (sl_q := 0) rfl ?_
        refine ik_Wk 1 (pc_q := 63) (loc_q := [some (.ref 66), some (fI 1), some (fI p)]) (st_q := [fI 1, fI n1, fI 1, .ref 90]) (h_q := h_484) (cl_q := 0) (sl_q := 0) rfl ?_
        refine fw_add rfl ?_
        refine fx_ias (z := 1) rfl g_484_90 (by decide +kernel) (Nat.le_of_ble_eq_true rfl) (by decide +kernel) ?_
        intro h_485 e_485 f_485 l_485
        have k_485 : cL h_485 := l_485.trans k_484
        have fr_485 := hfr_wb fr_484 f_485 l_485 rfl
        clear l_485
        have g_485_66 := (f_485 66 (Nat.ne_of_beq_eq_false rfl)).trans g_484_66
        have g_485_91 := (f_485 91 (Nat.ne_of_beq_eq_false rfl)).trans g_484_91
        have g_485_90 : cE h_485 90 (.inl (.int, fA [n0, n1 + 1])) := e_485
        refine ik_Wk 1 (pc_q := 66) (loc_q := [some (.ref 66), some (fI 1), some (fI p)]) (st_q := [.ref 66]) (h_q := h_485) (cl_q := 0) (sl_q := 0) rfl ?_
        refine fw_gf rfl rfl g_485_66 rfl ?_
        refine ik_Wk 1 (pc_q := 70) (loc_q := [some (.ref 66), some (fI 1), some (fI p)]) (st_q := [fI 1, .ref 90]) (h_q := h_485) (cl_q := 0) (sl_q := 0) rfl ?_
        refine fw_ial (z := 1) rfl g_485_90 (by decide +kernel) (Nat.le_of_ble_eq_true rfl) (by decide +kernel) ?_
        refine ik_Wk 0 (pc_q := 71) (loc_q := [some (.ref 66), some (fI 1), some (fI p)]) (st_q := [fI (n1 + 1)]) (h_q := h_485) (cl_q := 0) (sl_q := 0) rfl ?_
        exact ik_Wret rfl rfl ⟨_, _, rfl, rfl, rfl, rfl, Or.inl ⟨rfl, g_485_91, hl4, g_485_90, (by omega), fr_485⟩⟩
    · refine ik_Wk 2 (pc_q := 15) (loc_q := [some (.ref 66), some (fI 1), some (fI p)]) (st_q := [fI p, .ref 66]) (h_q := h_483) (cl_q := 0) (sl_q := 0) rfl ?_
      refine ik_Wc 129 2 0 [.ref 66, fI p] [] rfl rfl rfl (by decide +kernel) rfl rfl (fw_rec k_483 rfl g_483_66 rfl (Nat.le_of_ble_eq_true rfl)) ?_
      refine ik_Wk 0 (pc_q := 0) (loc_q := [some (.ref 66), some (fI p)]) (st_q := []) (h_q := h_483) (cl_q := 0) (sl_q := 0) rfl ?_
      refine ik_Wk 1 (pc_q := 1) (loc_q := [some (.ref 66), some (fI p)]) (st_q := [fI p]) (h_q := h_483) (cl_q := 0) (sl_q := 0) rfl ?_
      refine fw_i2l rfl (by omega) (by omega) ?_
      refine fw_lc (z := 0) rfl (by decide +kernel) ?_
      refine ik_Wk 1 (pc_q := 4) (loc_q := [some (.ref 66), some (fI p)]) (st_q := [.ref 66, fJ 0, fJ p]) (h_q := h_483) (cl_q := 0) (sl_q := 0) rfl ?_
      refine fw_gf rfl rfl g_483_66 rfl ?_
      refine ik_Wk 1 (pc_q := 8) (loc_q := [some (.ref 66), some (fI p)]) (st_q := [fI 1, fI pl, fJ 0, fJ p]) (h_q := h_483) (cl_q := 0) (sl_q := 0) rfl ?_
      refine fw_sub rfl ?_
      refine fw_i2l rfl (by omega) (by omega) ?_
      refine fw_call 127 3 3 [fJ p, fJ 0, fJ (pl - 1)] [] rfl rfl rfl (Nat.le_of_ble_eq_true rfl) rfl rfl (fw_sta k_483 rfl (by decide +kernel)) (cr_in (v := p) (a := 0) (b := pl - 1) (by omega) (by omega) (by omega)  k_483) ?_
      rintro _ h_486 (⟨rfl, p_486_0, F_486⟩ | ⟨rfl, p_486_0, F_486⟩)
      · have k_486 : cL h_486 := F_486.1.trans k_483
        have fr_486 := hfr_cb fr_483 F_486 rfl
        have g_486_66 := (hfr_g F_486 66 rfl).trans g_483_66
        have g_486_90 := (hfr_g F_486 90 rfl).trans g_483_90
        have g_486_91 := (hfr_g F_486 91 rfl).trans g_483_91
        refine ik_Wk 0 (pc_q := 13) (loc_q := [some (.ref 66), some (fI p)]) (st_q := [fI 1]) (h_q := h_486) (cl_q := 0) (sl_q := 0) rfl ?_
        refine ik_Wret rfl rfl ⟨_, _, rfl, rfl, ?_⟩
        refine ik_Wk 0 (pc_q := 18) (loc_q := [some (.ref 66), some (fI 1), some (fI p)]) (st_q := [fI 1]) (h_q := h_486) (cl_q := 0) (sl_q := 0) rfl ?_
        refine fw_if_ne rfl rfl (by decide +kernel) (by decide +kernel) (fun hc5 => absurd hc5 (by decide +kernel)) (fun hc5 => ?_)
        refine ik_Wk 1 (pc_q := 25) (loc_q := [some (.ref 66), some (fI 1), some (fI p)]) (st_q := [.ref 66]) (h_q := h_486) (cl_q := 0) (sl_q := 0) rfl ?_
        refine fw_gf rfl rfl g_486_66 rfl ?_
        refine ik_Wk 1 (pc_q := 29) (loc_q := [some (.ref 66), some (fI 1), some (fI p)]) (st_q := [fI 1, .ref 90]) (h_q := h_486) (cl_q := 0) (sl_q := 0) rfl ?_
        refine fw_ial (z := 1) rfl g_486_90 (by decide +kernel) (Nat.le_of_ble_eq_true rfl) (by decide +kernel) ?_
        refine ik_Wk 0 (pc_q := 30) (loc_q := [some (.ref 66), some (fI 1), some (fI p)]) (st_q := [fI n1]) (h_q := h_486) (cl_q := 0) (sl_q := 0) rfl ?_
        refine fw_bi rfl (by decide +kernel) ?_
        refine fw_ic_ne rfl rfl (by omega) (by omega) (by omega) (by omega) (fun hc6 => ?_) (fun hc6 => ?_)
        · refine fw_ld (-1000000004) rfl rfl (by decide +kernel) ?_
          exact ik_Wret rfl rfl ⟨_, _, rfl, rfl, rfl, rfl, Or.inr ⟨(congrArg (fun z => [fI z]) (by unfold an_lg; (repeat' split) <;> first | rfl | omega)), g_486_91, n91, g_486_90, (by omega), fr_486⟩⟩
        · refine ik_Wk 1 (pc_q := 39) (loc_q := [some (.ref 66), some (fI 1), some (fI p)]) (st_q := [.ref 66]) (h_q := h_486) (cl_q := 0) (sl_q := 0) rfl ?_
          refine fw_gf rfl rfl g_486_66 rfl ?_
          refine fw_bi rfl (by decide +kernel) ?_
          refine ik_Wk 1 (pc_q := 45) (loc_q := [some (.ref 66), some (fI 1), some (fI p)]) (st_q := [fI 1, fI 40, .ref 91]) (h_q := h_486) (cl_q := 0) (sl_q := 0) rfl ?_
          refine fw_mul rfl ?_
          refine ik_Wk 1 (pc_q := 47) (loc_q := [some (.ref 66), some (fI 1), some (fI p)]) (st_q := [.ref 66, fI 40, .ref 91]) (h_q := h_486) (cl_q := 0) (sl_q := 0) rfl ?_
          refine fw_gf rfl rfl g_486_66 rfl ?_
          refine ik_Wk 1 (pc_q := 51) (loc_q := [some (.ref 66), some (fI 1), some (fI p)]) (st_q := [fI 1, .ref 90, fI 40, .ref 91]) (h_q := h_486) (cl_q := 0) (sl_q := 0) rfl ?_
          refine fw_ial (z := 1) rfl g_486_90 (by decide +kernel) (Nat.le_of_ble_eq_true rfl) (by decide +kernel) ?_
          refine ik_Wk 0 (pc_q := 52) (loc_q := [some (.ref 66), some (fI 1), some (fI p)]) (st_q := [fI n1, fI 40, .ref 91]) (h_q := h_486) (cl_q := 0) (sl_q := 0) rfl ?_
          refine fw_add rfl ?_
          refine ik_Wk 1 (pc_q := 54) (loc_q := [some (.ref 66), some (fI 1), some (fI p)]) (st_q := [fI p, fI (40 + n1), .ref 91]) (h_q := h_486) (cl_q := 0) (sl_q := 0) rfl ?_
          have hl7 : (lr.set (40 + n1).toNat p).length = 80 := (List.length_set ..).trans n91
          refine fx_ias rfl g_486_91 (by omega) (by omega) (by omega) ?_
          intro h_487 e_487 f_487 l_487
          have k_487 : cL h_487 := l_487.trans k_486
          have fr_487 := hfr_wb fr_486 f_487 l_487 rfl
          clear l_487
          have g_487_66 := (f_487 66 (Nat.ne_of_beq_eq_false rfl)).trans g_486_66
          have g_487_90 := (f_487 90 (Nat.ne_of_beq_eq_false rfl)).trans g_486_90
          have g_487_91 : cE h_487 91 (.inl (.int, fA (lr.set (40 + n1).toNat p))) := e_487
          refine ik_Wk 1 (pc_q := 56) (loc_q := [some (.ref 66), some (fI 1), some (fI p)]) (st_q := [.ref 66]) (h_q := h_487) (cl_q := 0) (sl_q := 0) rfl ?_
          refine fw_gf rfl rfl g_487_66 rfl ?_
          refine ik_Wk 2 (pc_q := 61) (loc_q := [some (.ref 66), some (fI 1), some (fI p)]) (st_q := [fI 1, .ref 90, fI 1, .ref 90]) (h_q := h_487) (cl_q := 0) (sl_q := 0) rfl ?_
          refine fw_ial (z := 1) rfl g_487_90 (by decide +kernel) (Nat.le_of_ble_eq_true rfl) (by decide +kernel) ?_
          refine ik_Wk 0 (pc_q := 62) (loc_q := [some (.ref 66), some (fI 1), some (fI p)]) (st_q := [fI n1, fI 1, .ref 90]) (h_q := h_487) (cl_q := 0) (sl_q := 0) rfl ?_
          refine ik_Wk 1 (pc_q := 63) (loc_q := [some (.ref 66), some (fI 1), some (fI p)]) (st_q := [fI 1, fI n1, fI 1, .ref 90]) (h_q := h_487) (cl_q := 0) (sl_q := 0) rfl ?_
          refine fw_add rfl ?_
          refine fx_ias (z := 1) rfl g_487_90 (by decide +kernel) (Nat.le_of_ble_eq_true rfl) (by decide +kernel) ?_
          intro h_488 e_488 f_488 l_488
          have k_488 : cL h_488 := l_488.trans k_487
          have fr_488 := hfr_wb fr_487 f_488 l_488 rfl
          clear l_488
          have g_488_66 := (f_488 66 (Nat.ne_of_beq_eq_false rfl)).trans g_487_66
          have g_488_91 := (f_488 91 (Nat.ne_of_beq_eq_false rfl)).trans g_487_91
          have g_488_90 : cE h_488 90 (.inl (.int, fA [n0, n1 + 1])) := e_488
          refine ik_Wk 1 (pc_q := 66) (loc_q := [some (.ref 66), some (fI 1), some (fI p)]) (st_q := [.ref 66]) (h_q := h_488) (cl_q := 0) (sl_q := 0) rfl ?_
          refine fw_gf rfl rfl g_488_66 rfl ?_
          refine ik_Wk 1 (pc_q := 70) (loc_q := [some (.ref 66), some (fI 1), some (fI p)]) (st_q := [fI 1, .ref 90]) (h_q := h_488) (cl_q := 0) (sl_q := 0) rfl ?_
          refine fw_ial (z := 1) rfl g_488_90 (by decide +kernel) (Nat.le_of_ble_eq_true rfl) (by decide +kernel) ?_
          refine ik_Wk 0 (pc_q := 71) (loc_q := [some (.ref 66), some (fI 1), some (fI p)]) (st_q := [fI (n1 + 1)]) (h_q := h_488) (cl_q := 0) (sl_q := 0) rfl ?_
          exact ik_Wret rfl rfl ⟨_, _, rfl, rfl, rfl, rfl, Or.inl ⟨rfl, g_488_91, hl7, g_488_90, (by omega), fr_488⟩⟩
      · have k_486 : cL h_486 := F_486.1.trans k_483
        have fr_486 := hfr_cb fr_483 F_486 rfl
        have g_486_66 := (hfr_g F_486 66 rfl).trans g_483_66
        have g_486_90 := (hfr_g F_486 90 rfl).trans g_483_90
        have g_486_91 := (hfr_g F_486 91 rfl).trans g_483_91
        refine ik_Wk 0 (pc_q := 13) (loc_q := [some (.ref 66), some (fI p)]) (st_q := [fI 0]) (h_q := h_486) (cl_q := 0) (sl_q := 0) rfl ?_
        refine ik_Wret rfl rfl ⟨_, _, rfl, rfl, ?_⟩
        refine ik_Wk 0 (pc_q := 18) (loc_q := [some (.ref 66), some (fI 1), some (fI p)]) (st_q := [fI 0]) (h_q := h_486) (cl_q := 0) (sl_q := 0) rfl ?_
        refine fw_if_ne rfl rfl (by decide +kernel) (by decide +kernel) (fun hc8 => ?_) (fun hc8 => absurd hc8 (by decide +kernel))
        refine fw_ld (-1000000001) rfl rfl (by decide +kernel) ?_
        exact ik_Wret rfl rfl ⟨_, _, rfl, rfl, rfl, rfl, Or.inr ⟨(congrArg (fun z => [fI z]) (by unfold an_lg; (repeat' split) <;> first | rfl | omega)), g_486_91, n91, g_486_90, (by omega), fr_486⟩⟩
  · have k_483 : cL h_483 := F_483.1.trans hl
    have fr_483 := hfr_cb (hfr_refl [90, 91] h) F_483 rfl
    have g_483_66 := (hfr_g F_483 66 rfl).trans h66
    have g_483_90 := (hfr_g F_483 90 rfl).trans h90
    have g_483_91 := (hfr_g F_483 91 rfl).trans h91
    omega

theorem cp_begin {h : List ik_E} {ka : Int} {pa : Int} {fa : Int} {kb : Int} {pb : Int} {fb : Int} {xa : Int} {xb : Int} {mi : Int} {dr : Int} (q0 : 0 ≤ fa ∧ fa ≤ 30) (q1 : 0 ≤ fb ∧ fb ≤ 30) (h0 : cE h 0 (.inr (9, [.ref 1, .ref 7, .ref 14, .ref 17, .ref 45, .ref 51, .ref 54, .ref 57]))) (h14 : cE h 14 (.inr (1, [.ref 7, .ref 15, .ref 16, fI mi, fJ dr]))) (h15 : cE h 15 (.inl (.int, fA [ka, pa, fa, kb, pb, fb]))) (h16 : cE h 16 (.inl (.int, fA [xa, xb]))) (hl : h.length = 94) : ik_F 113 [.ref 0] h (fun rv h_q => rv = [fI mi] ∧ cE h_q 14 (.inr (1, [.ref 7, .ref 15, .ref 16, fI 0, fJ dr])) ∧ cE h_q 16 (.inl (.int, fA [mx_sp pa fa, mx_sp pb fb])) ∧ hfr [14, 16] h h_q) := by
  refine ik_Wk 1 (pc_q := 1) (loc_q := [some (.ref 0), none]) (st_q := [.ref 0]) (h_q := h) (cl_q := 0) (sl_q := 0) rfl ?_
  refine fw_gf rfl rfl h0 rfl ?_
  refine fw_gf rfl rfl h14 rfl ?_
  refine ik_Wk 2 (pc_q := 9) (loc_q := [some (.ref 0), some (fI mi)]) (st_q := [.ref 0]) (h_q := h) (cl_q := 0) (sl_q := 0) rfl ?_
  refine fw_gf rfl rfl h0 rfl ?_
  refine fw_call 23 1 0 [.ref 14] [] rfl rfl rfl (Nat.le_of_ble_eq_true rfl) rfl rfl (fw_rec hl rfl h14 rfl (Nat.le_of_ble_eq_true rfl)) (cs_restart (mi := mi) (ka := ka) (pa := pa) (fa := fa) (kb := kb) (pb := pb) (fb := fb) (xa := xa) (xb := xb) (sd := dr) (by omega) (by omega) h14 h15 h16 hl) ?_
  rintro _ h_489 ⟨rfl, e_489_14, e_489_16, F_489⟩
  have k_489 : cL h_489 := F_489.1.trans hl
  have fr_489 := hfr_cb (hfr_refl [14, 16] h) F_489 rfl
  have g_489_0 := (hfr_g F_489 0 rfl).trans h0
  have g_489_15 := (hfr_g F_489 15 rfl).trans h15
  have g_489_14 : cE h_489 14 (.inr (1, [.ref 7, .ref 15, .ref 16, fI 0, fJ dr])) := e_489_14
  have g_489_16 : cE h_489 16 (.inl (.int, fA [mx_sp pa fa, mx_sp pb fb])) := e_489_16
  refine ik_Wk 0 (pc_q := 15) (loc_q := [some (.ref 0), some (fI mi)]) (st_q := []) (h_q := h_489) (cl_q := 0) (sl_q := 0) rfl ?_
  refine ik_Wk 1 (pc_q := 16) (loc_q := [some (.ref 0), some (fI mi)]) (st_q := [fI mi]) (h_q := h_489) (cl_q := 0) (sl_q := 0) rfl ?_
  exact ik_Wret rfl rfl ⟨_, _, rfl, rfl, rfl, rfl, ⟨rfl, g_489_14, g_489_16, fr_489⟩⟩

theorem rp_begin {h : List ik_E} {ka : Int} {pa : Int} {fa : Int} {kb : Int} {pb : Int} {fb : Int} {xa : Int} {xb : Int} {mi : Int} {f : Nat → Int} (q0 : 0 ≤ fa ∧ fa ≤ 30) (q1 : 0 ≤ fb ∧ fb ≤ 30) (h66 : cE h 66 (.inr (10, (fI (f 0) :: .ref 67 :: .ref 68 :: .ref 69 :: fI (f 4) :: .ref 70 :: .ref 71 :: fI mi :: fI (f 8) :: .ref 72 :: fI (f 10) :: fI (f 11) :: fI (f 12) :: fJ (f 13) :: fI (f 14) :: fI (f 15) :: fI (f 16) :: fI (f 17) :: .ref 73 :: .ref 74 :: .ref 75 :: .ref 76 :: .ref 77 :: .ref 78 :: fI (f 24) :: .ref 79 :: .ref 80 :: .ref 81 :: .ref 82 :: .ref 83 :: .ref 84 :: .ref 85 :: fJ (f 32) :: fJ (f 33) :: .ref 86 :: .ref 87 :: fI (f 36) :: .ref 88 :: .ref 89 :: .ref 90 :: .ref 91 :: .ref 92 :: .ref 93 :: [])))) (h70 : cE h 70 (.inl (.int, fA [ka, pa, fa, kb, pb, fb]))) (h71 : cE h 71 (.inl (.int, fA [xa, xb]))) (hl : h.length = 94) : ik_F 201 [.ref 66] h (fun rv h_q => rv = [fI mi] ∧ cE h_q 66 (.inr (10, (fI (f 0) :: .ref 67 :: .ref 68 :: .ref 69 :: fI (f 4) :: .ref 70 :: .ref 71 :: fI 0 :: fI (f 8) :: .ref 72 :: fI (f 10) :: fI (f 11) :: fI (f 12) :: fJ (f 13) :: fI (f 14) :: fI (f 15) :: fI (f 16) :: fI (f 17) :: .ref 73 :: .ref 74 :: .ref 75 :: .ref 76 :: .ref 77 :: .ref 78 :: fI (f 24) :: .ref 79 :: .ref 80 :: .ref 81 :: .ref 82 :: .ref 83 :: .ref 84 :: .ref 85 :: fJ (f 32) :: fJ (f 33) :: .ref 86 :: .ref 87 :: fI (f 36) :: .ref 88 :: .ref 89 :: .ref 90 :: .ref 91 :: .ref 92 :: .ref 93 :: []))) ∧ cE h_q 71 (.inl (.int, fA [mx_sp pa fa, mx_sp pb fb])) ∧ hfr [66, 71] h h_q) := by
  refine ik_Wk 1 (pc_q := 1) (loc_q := [some (.ref 66), none]) (st_q := [.ref 66]) (h_q := h) (cl_q := 0) (sl_q := 0) rfl ?_
  refine fw_gf rfl rfl h66 rfl ?_
  refine ik_Wk 2 (pc_q := 6) (loc_q := [some (.ref 66), some (fI mi)]) (st_q := [.ref 66]) (h_q := h) (cl_q := 0) (sl_q := 0) rfl ?_
  refine fw_call 194 1 0 [.ref 66] [] rfl rfl rfl (Nat.le_of_ble_eq_true rfl) rfl rfl (fw_rec hl rfl h66 rfl (Nat.le_of_ble_eq_true rfl)) (cr_begin (mi := mi) (ka := ka) (pa := pa) (fa := fa) (kb := kb) (pb := pb) (fb := fb) (xa := xa) (xb := xb) (f := fun j => ((f 0 :: 0 :: 0 :: 0 :: f 4 :: 0 :: 0 :: 0 :: f 8 :: 0 :: f 10 :: f 11 :: f 12 :: f 13 :: f 14 :: f 15 :: f 16 :: f 17 :: 0 :: 0 :: 0 :: 0 :: 0 :: 0 :: f 24 :: 0 :: 0 :: 0 :: 0 :: 0 :: 0 :: 0 :: f 32 :: f 33 :: 0 :: 0 :: f 36 :: 0 :: 0 :: 0 :: 0 :: 0 :: 0 :: []) : List Int).getD j 0) (by omega) (by omega) h66 h70 h71 hl) ?_
  rintro _ h_490 ⟨rfl, e_490_66, e_490_71, F_490⟩
  have k_490 : cL h_490 := F_490.1.trans hl
  have fr_490 := hfr_cb (hfr_refl [66, 71] h) F_490 rfl
  have g_490_70 := (hfr_g F_490 70 rfl).trans h70
  have g_490_66 : cE h_490 66 (.inr (10, (fI (f 0) :: .ref 67 :: .ref 68 :: .ref 69 :: fI (f 4) :: .ref 70 :: .ref 71 :: fI 0 :: fI (f 8) :: .ref 72 :: fI (f 10) :: fI (f 11) :: fI (f 12) :: fJ (f 13) :: fI (f 14) :: fI (f 15) :: fI (f 16) :: fI (f 17) :: .ref 73 :: .ref 74 :: .ref 75 :: .ref 76 :: .ref 77 :: .ref 78 :: fI (f 24) :: .ref 79 :: .ref 80 :: .ref 81 :: .ref 82 :: .ref 83 :: .ref 84 :: .ref 85 :: fJ (f 32) :: fJ (f 33) :: .ref 86 :: .ref 87 :: fI (f 36) :: .ref 88 :: .ref 89 :: .ref 90 :: .ref 91 :: .ref 92 :: .ref 93 :: []))) := e_490_66
  have g_490_71 : cE h_490 71 (.inl (.int, fA [mx_sp pa fa, mx_sp pb fb])) := e_490_71
  refine ik_Wk 0 (pc_q := 9) (loc_q := [some (.ref 66), some (fI mi)]) (st_q := []) (h_q := h_490) (cl_q := 0) (sl_q := 0) rfl ?_
  refine ik_Wk 1 (pc_q := 10) (loc_q := [some (.ref 66), some (fI mi)]) (st_q := [fI mi]) (h_q := h_490) (cl_q := 0) (sl_q := 0) rfl ?_
  exact ik_Wret rfl rfl ⟨_, _, rfl, rfl, rfl, rfl, ⟨rfl, g_490_66, g_490_71, fr_490⟩⟩

theorem cp_clear {h : List ik_E} {n0 : Int} {n1 : Int}  (h0 : cE h 0 (.inr (9, [.ref 1, .ref 7, .ref 14, .ref 17, .ref 45, .ref 51, .ref 54, .ref 57]))) (h54 : cE h 54 (.inr (4, [.ref 55, .ref 56]))) (h56 : cE h 56 (.inl (.int, fA [n0, n1]))) (hl : h.length = 94) : ik_F 116 [.ref 0] h (fun rv h_q => rv = [fI (n0 + n1)] ∧ cE h_q 56 (.inl (.int, fA [0, 0])) ∧ hfr [56] h h_q) := by
  refine ik_Wk 1 (pc_q := 1) (loc_q := [some (.ref 0), none]) (st_q := [.ref 0]) (h_q := h) (cl_q := 0) (sl_q := 0) rfl ?_
  refine fw_gf rfl rfl h0 rfl ?_
  refine fw_gf rfl rfl h54 rfl ?_
  refine ik_Wk 1 (pc_q := 8) (loc_q := [some (.ref 0), none]) (st_q := [fI 0, .ref 56]) (h_q := h) (cl_q := 0) (sl_q := 0) rfl ?_
  refine fw_ial (z := 0) rfl h56 (by decide +kernel) (Nat.le_of_ble_eq_true rfl) (by decide +kernel) ?_
  refine ik_Wk 0 (pc_q := 9) (loc_q := [some (.ref 0), none]) (st_q := [fI n0]) (h_q := h) (cl_q := 0) (sl_q := 0) rfl ?_
  refine ik_Wk 1 (pc_q := 10) (loc_q := [some (.ref 0), none]) (st_q := [.ref 0, fI n0]) (h_q := h) (cl_q := 0) (sl_q := 0) rfl ?_
  refine fw_gf rfl rfl h0 rfl ?_
  refine fw_gf rfl rfl h54 rfl ?_
  refine ik_Wk 1 (pc_q := 17) (loc_q := [some (.ref 0), none]) (st_q := [fI 1, .ref 56, fI n0]) (h_q := h) (cl_q := 0) (sl_q := 0) rfl ?_
  refine fw_ial (z := 1) rfl h56 (by decide +kernel) (Nat.le_of_ble_eq_true rfl) (by decide +kernel) ?_
  refine ik_Wk 0 (pc_q := 18) (loc_q := [some (.ref 0), none]) (st_q := [fI n1, fI n0]) (h_q := h) (cl_q := 0) (sl_q := 0) rfl ?_
  refine fw_add rfl ?_
  refine ik_Wk 2 (pc_q := 21) (loc_q := [some (.ref 0), some (fI (n0 + n1))]) (st_q := [.ref 0]) (h_q := h) (cl_q := 0) (sl_q := 0) rfl ?_
  refine fw_gf rfl rfl h0 rfl ?_
  refine ik_Wc 37 1 0 [.ref 54] [] rfl rfl rfl (by decide +kernel) rfl rfl (fw_rec hl rfl h54 rfl (Nat.le_of_ble_eq_true rfl)) ?_
  refine ik_Wk 0 (pc_q := 0) (loc_q := [some (.ref 54)]) (st_q := []) (h_q := h) (cl_q := 0) (sl_q := 0) rfl ?_
  refine ik_Wk 1 (pc_q := 1) (loc_q := [some (.ref 54)]) (st_q := [.ref 54]) (h_q := h) (cl_q := 0) (sl_q := 0) rfl ?_
  refine fw_gf rfl rfl h54 rfl ?_
  refine ik_Wk 2 (pc_q := 6) (loc_q := [some (.ref 54)]) (st_q := [fI 0, fI 0, .ref 56]) (h_q := h) (cl_q := 0) (sl_q := 0) rfl ?_
  refine fx_ias (z := 0) rfl h56 (by decide +kernel) (Nat.le_of_ble_eq_true rfl) (by decide +kernel) ?_
  intro h_491 e_491 f_491 l_491
  have k_491 : cL h_491 := l_491.trans hl
  have fr_491 := hfr_wb (hfr_refl [56] h) f_491 l_491 rfl
  clear l_491
  have g_491_0 := (f_491 0 (Nat.ne_of_beq_eq_false rfl)).trans h0
  have g_491_54 := (f_491 54 (Nat.ne_of_beq_eq_false rfl)).trans h54
  have g_491_56 : cE h_491 56 (.inl (.int, fA [0, n1])) := e_491
  refine ik_Wk 1 (pc_q := 8) (loc_q := [some (.ref 54)]) (st_q := [.ref 54]) (h_q := h_491) (cl_q := 0) (sl_q := 0) rfl ?_
  refine fw_gf rfl rfl g_491_54 rfl ?_
  refine ik_Wk 2 (pc_q := 13) (loc_q := [some (.ref 54)]) (st_q := [fI 0, fI 1, .ref 56]) (h_q := h_491) (cl_q := 0) (sl_q := 0) rfl ?_
  refine fx_ias (z := 1) rfl g_491_56 (by decide +kernel) (Nat.le_of_ble_eq_true rfl) (by decide +kernel) ?_
  intro h_492 e_492 f_492 l_492
  have k_492 : cL h_492 := l_492.trans k_491
  have fr_492 := hfr_wb fr_491 f_492 l_492 rfl
  clear l_492
  have g_492_0 := (f_492 0 (Nat.ne_of_beq_eq_false rfl)).trans g_491_0
  have g_492_54 := (f_492 54 (Nat.ne_of_beq_eq_false rfl)).trans g_491_54
  have g_492_56 : cE h_492 56 (.inl (.int, fA [0, 0])) := e_492
  refine ik_Wret rfl rfl ⟨_, _, rfl, rfl, ?_⟩
  refine ik_Wk 0 (pc_q := 27) (loc_q := [some (.ref 0), some (fI (n0 + n1))]) (st_q := []) (h_q := h_492) (cl_q := 0) (sl_q := 0) rfl ?_
  refine ik_Wk 1 (pc_q := 28) (loc_q := [some (.ref 0), some (fI (n0 + n1))]) (st_q := [fI (n0 + n1)]) (h_q := h_492) (cl_q := 0) (sl_q := 0) rfl ?_
  exact ik_Wret rfl rfl ⟨_, _, rfl, rfl, rfl, rfl, ⟨rfl, g_492_56, fr_492⟩⟩

theorem rp_clear {h : List ik_E} {f : Nat → Int} {n0 : Int} {n1 : Int}  (h66 : cE h 66 (.inr (10, (fI (f 0) :: .ref 67 :: .ref 68 :: .ref 69 :: fI (f 4) :: .ref 70 :: .ref 71 :: fI (f 7) :: fI (f 8) :: .ref 72 :: fI (f 10) :: fI (f 11) :: fI (f 12) :: fJ (f 13) :: fI (f 14) :: fI (f 15) :: fI (f 16) :: fI (f 17) :: .ref 73 :: .ref 74 :: .ref 75 :: .ref 76 :: .ref 77 :: .ref 78 :: fI (f 24) :: .ref 79 :: .ref 80 :: .ref 81 :: .ref 82 :: .ref 83 :: .ref 84 :: .ref 85 :: fJ (f 32) :: fJ (f 33) :: .ref 86 :: .ref 87 :: fI (f 36) :: .ref 88 :: .ref 89 :: .ref 90 :: .ref 91 :: .ref 92 :: .ref 93 :: [])))) (h90 : cE h 90 (.inl (.int, fA [n0, n1]))) (hl : h.length = 94) : ik_F 204 [.ref 66] h (fun rv h_q => rv = [fI (n0 + n1)] ∧ cE h_q 90 (.inl (.int, fA [0, 0])) ∧ hfr [90] h h_q) := by
  refine ik_Wk 1 (pc_q := 1) (loc_q := [some (.ref 66), none]) (st_q := [.ref 66]) (h_q := h) (cl_q := 0) (sl_q := 0) rfl ?_
  refine fw_gf rfl rfl h66 rfl ?_
  refine ik_Wk 1 (pc_q := 5) (loc_q := [some (.ref 66), none]) (st_q := [fI 0, .ref 90]) (h_q := h) (cl_q := 0) (sl_q := 0) rfl ?_
  refine fw_ial (z := 0) rfl h90 (by decide +kernel) (Nat.le_of_ble_eq_true rfl) (by decide +kernel) ?_
  refine ik_Wk 0 (pc_q := 6) (loc_q := [some (.ref 66), none]) (st_q := [fI n0]) (h_q := h) (cl_q := 0) (sl_q := 0) rfl ?_
  refine ik_Wk 1 (pc_q := 7) (loc_q := [some (.ref 66), none]) (st_q := [.ref 66, fI n0]) (h_q := h) (cl_q := 0) (sl_q := 0) rfl ?_
  refine fw_gf rfl rfl h66 rfl ?_
  refine ik_Wk 1 (pc_q := 11) (loc_q := [some (.ref 66), none]) (st_q := [fI 1, .ref 90, fI n0]) (h_q := h) (cl_q := 0) (sl_q := 0) rfl ?_
  refine fw_ial (z := 1) rfl h90 (by decide +kernel) (Nat.le_of_ble_eq_true rfl) (by decide +kernel) ?_
  refine ik_Wk 0 (pc_q := 12) (loc_q := [some (.ref 66), none]) (st_q := [fI n1, fI n0]) (h_q := h) (cl_q := 0) (sl_q := 0) rfl ?_
  refine fw_add rfl ?_
  refine ik_Wk 2 (pc_q := 15) (loc_q := [some (.ref 66), some (fI (n0 + n1))]) (st_q := [.ref 66]) (h_q := h) (cl_q := 0) (sl_q := 0) rfl ?_
  refine fw_gf rfl rfl h66 rfl ?_
  refine ik_Wk 2 (pc_q := 20) (loc_q := [some (.ref 66), some (fI (n0 + n1))]) (st_q := [fI 0, fI 0, .ref 90]) (h_q := h) (cl_q := 0) (sl_q := 0) rfl ?_
  refine fx_ias (z := 0) rfl h90 (by decide +kernel) (Nat.le_of_ble_eq_true rfl) (by decide +kernel) ?_
  intro h_493 e_493 f_493 l_493
  have k_493 : cL h_493 := l_493.trans hl
  have fr_493 := hfr_wb (hfr_refl [90] h) f_493 l_493 rfl
  clear l_493
  have g_493_66 := (f_493 66 (Nat.ne_of_beq_eq_false rfl)).trans h66
  have g_493_90 : cE h_493 90 (.inl (.int, fA [0, n1])) := e_493
  refine ik_Wk 1 (pc_q := 22) (loc_q := [some (.ref 66), some (fI (n0 + n1))]) (st_q := [.ref 66]) (h_q := h_493) (cl_q := 0) (sl_q := 0) rfl ?_
  refine fw_gf rfl rfl g_493_66 rfl ?_
  refine ik_Wk 2 (pc_q := 27) (loc_q := [some (.ref 66), some (fI (n0 + n1))]) (st_q := [fI 0, fI 1, .ref 90]) (h_q := h_493) (cl_q := 0) (sl_q := 0) rfl ?_
  refine fx_ias (z := 1) rfl g_493_90 (by decide +kernel) (Nat.le_of_ble_eq_true rfl) (by decide +kernel) ?_
  intro h_494 e_494 f_494 l_494
  have k_494 : cL h_494 := l_494.trans k_493
  have fr_494 := hfr_wb fr_493 f_494 l_494 rfl
  clear l_494
  have g_494_66 := (f_494 66 (Nat.ne_of_beq_eq_false rfl)).trans g_493_66
  have g_494_90 : cE h_494 90 (.inl (.int, fA [0, 0])) := e_494
  refine ik_Wk 1 (pc_q := 29) (loc_q := [some (.ref 66), some (fI (n0 + n1))]) (st_q := [fI (n0 + n1)]) (h_q := h_494) (cl_q := 0) (sl_q := 0) rfl ?_
  exact ik_Wret rfl rfl ⟨_, _, rfl, rfl, rfl, rfl, ⟨rfl, g_494_90, fr_494⟩⟩

theorem cp_seed {h : List ik_E} {mi : Int} {sd : Int} {v : Int} (q0 : -2147483648 ≤ v ∧ v < 2147483648) (h0 : cE h 0 (.inr (9, [.ref 1, .ref 7, .ref 14, .ref 17, .ref 45, .ref 51, .ref 54, .ref 57]))) (h14 : cE h 14 (.inr (1, [.ref 7, .ref 15, .ref 16, fI mi, fJ sd]))) (hl : h.length = 94) : ik_F 118 [.ref 0, fI v] h (fun rv h_q => (rv = [fI sd] ∧ cE h_q 14 (.inr (1, [.ref 7, .ref 15, .ref 16, fI mi, fJ v])) ∧ (0 ≤ v) ∧ hfr [14] h h_q) ∨ (rv = [fI (-1000000002)] ∧ cE h_q 14 (.inr (1, [.ref 7, .ref 15, .ref 16, fI mi, fJ sd])) ∧ (v < 0) ∧ hfr [14] h h_q)) := by
  refine ik_Wk 1 (pc_q := 1) (loc_q := [some (.ref 0), some (fI v), none]) (st_q := [fI v]) (h_q := h) (cl_q := 0) (sl_q := 0) rfl ?_
  refine fw_if_ge rfl rfl (by omega) (by omega) (fun hc1 => ?_) (fun hc1 => ?_)
  · refine ik_Wk 1 (pc_q := 8) (loc_q := [some (.ref 0), some (fI v), none]) (st_q := [.ref 0]) (h_q := h) (cl_q := 0) (sl_q := 0) rfl ?_
    refine fw_gf rfl rfl h0 rfl ?_
    refine fw_gf rfl rfl h14 rfl ?_
    refine fx_l2i rfl ?_
    refine ik_Wk 2 (pc_q := 17) (loc_q := [some (.ref 0), some (fI v), some (fI sd)]) (st_q := [.ref 0]) (h_q := h) (cl_q := 0) (sl_q := 0) rfl ?_
    refine fw_gf rfl rfl h0 rfl ?_
    refine ik_Wk 1 (pc_q := 21) (loc_q := [some (.ref 0), some (fI v), some (fI sd)]) (st_q := [fI v, .ref 14]) (h_q := h) (cl_q := 0) (sl_q := 0) rfl ?_
    refine fw_i2l rfl (by omega) (by omega) ?_
    refine fx_pf rfl rfl h14 (Nat.le_of_ble_eq_true rfl) rfl rfl ?_
    intro h_495 e_495 f_495 l_495
    have k_495 : cL h_495 := l_495.trans hl
    have fr_495 := hfr_wb (hfr_refl [14] h) f_495 l_495 rfl
    clear l_495
    have g_495_0 := (f_495 0 (Nat.ne_of_beq_eq_false rfl)).trans h0
    have g_495_14 : cE h_495 14 (.inr (1, [.ref 7, .ref 15, .ref 16, fI mi, fJ v])) := e_495
    refine ik_Wk 1 (pc_q := 26) (loc_q := [some (.ref 0), some (fI v), some (fI sd)]) (st_q := [fI sd]) (h_q := h_495) (cl_q := 0) (sl_q := 0) rfl ?_
    exact ik_Wret rfl rfl ⟨_, _, rfl, rfl, rfl, rfl, Or.inl ⟨rfl, g_495_14, (by omega), fr_495⟩⟩
  · refine fw_ld (-1000000002) rfl rfl (by decide +kernel) ?_
    exact ik_Wret rfl rfl ⟨_, _, rfl, rfl, rfl, rfl, Or.inr ⟨(congrArg (fun z => [fI z]) (by (repeat' split) <;> first | rfl | omega)), h14, (by omega), (hfr_refl [14] h)⟩⟩

theorem rp_seed {h : List ik_E} {f : Nat → Int} {sd : Int} {v : Int} (q0 : -2147483648 ≤ v ∧ v < 2147483648) (h66 : cE h 66 (.inr (10, (fI (f 0) :: .ref 67 :: .ref 68 :: .ref 69 :: fI (f 4) :: .ref 70 :: .ref 71 :: fI (f 7) :: fI sd :: .ref 72 :: fI (f 10) :: fI (f 11) :: fI (f 12) :: fJ (f 13) :: fI (f 14) :: fI (f 15) :: fI (f 16) :: fI (f 17) :: .ref 73 :: .ref 74 :: .ref 75 :: .ref 76 :: .ref 77 :: .ref 78 :: fI (f 24) :: .ref 79 :: .ref 80 :: .ref 81 :: .ref 82 :: .ref 83 :: .ref 84 :: .ref 85 :: fJ (f 32) :: fJ (f 33) :: .ref 86 :: .ref 87 :: fI (f 36) :: .ref 88 :: .ref 89 :: .ref 90 :: .ref 91 :: .ref 92 :: .ref 93 :: [])))) (hl : h.length = 94) : ik_F 208 [.ref 66, fI v] h (fun rv h_q => (rv = [fI sd] ∧ cE h_q 66 (.inr (10, (fI (f 0) :: .ref 67 :: .ref 68 :: .ref 69 :: fI (f 4) :: .ref 70 :: .ref 71 :: fI (f 7) :: fI v :: .ref 72 :: fI (f 10) :: fI (f 11) :: fI (f 12) :: fJ (f 13) :: fI (f 14) :: fI (f 15) :: fI (f 16) :: fI (f 17) :: .ref 73 :: .ref 74 :: .ref 75 :: .ref 76 :: .ref 77 :: .ref 78 :: fI (f 24) :: .ref 79 :: .ref 80 :: .ref 81 :: .ref 82 :: .ref 83 :: .ref 84 :: .ref 85 :: fJ (f 32) :: fJ (f 33) :: .ref 86 :: .ref 87 :: fI (f 36) :: .ref 88 :: .ref 89 :: .ref 90 :: .ref 91 :: .ref 92 :: .ref 93 :: []))) ∧ (0 ≤ v) ∧ hfr [66] h h_q) ∨ (rv = [fI (-1000000002)] ∧ cE h_q 66 (.inr (10, (fI (f 0) :: .ref 67 :: .ref 68 :: .ref 69 :: fI (f 4) :: .ref 70 :: .ref 71 :: fI (f 7) :: fI sd :: .ref 72 :: fI (f 10) :: fI (f 11) :: fI (f 12) :: fJ (f 13) :: fI (f 14) :: fI (f 15) :: fI (f 16) :: fI (f 17) :: .ref 73 :: .ref 74 :: .ref 75 :: .ref 76 :: .ref 77 :: .ref 78 :: fI (f 24) :: .ref 79 :: .ref 80 :: .ref 81 :: .ref 82 :: .ref 83 :: .ref 84 :: .ref 85 :: fJ (f 32) :: fJ (f 33) :: .ref 86 :: .ref 87 :: fI (f 36) :: .ref 88 :: .ref 89 :: .ref 90 :: .ref 91 :: .ref 92 :: .ref 93 :: []))) ∧ (v < 0) ∧ hfr [66] h h_q)) := by
  refine ik_Wk 1 (pc_q := 1) (loc_q := [some (.ref 66), some (fI v), none]) (st_q := [fI v]) (h_q := h) (cl_q := 0) (sl_q := 0) rfl ?_
  refine fw_if_ge rfl rfl (by omega) (by omega) (fun hc1 => ?_) (fun hc1 => ?_)
  · refine ik_Wk 1 (pc_q := 8) (loc_q := [some (.ref 66), some (fI v), none]) (st_q := [.ref 66]) (h_q := h) (cl_q := 0) (sl_q := 0) rfl ?_
    refine fw_gf rfl rfl h66 rfl ?_
    refine ik_Wk 3 (pc_q := 14) (loc_q := [some (.ref 66), some (fI v), some (fI sd)]) (st_q := [fI v, .ref 66]) (h_q := h) (cl_q := 0) (sl_q := 0) rfl ?_
    refine fx_pf rfl rfl h66 (Nat.le_of_ble_eq_true rfl) rfl rfl ?_
    intro h_496 e_496 f_496 l_496
    have k_496 : cL h_496 := l_496.trans hl
    have fr_496 := hfr_wb (hfr_refl [66] h) f_496 l_496 rfl
    clear l_496
    have g_496_66 : cE h_496 66 (.inr (10, (fI (f 0) :: .ref 67 :: .ref 68 :: .ref 69 :: fI (f 4) :: .ref 70 :: .ref 71 :: fI (f 7) :: fI v :: .ref 72 :: fI (f 10) :: fI (f 11) :: fI (f 12) :: fJ (f 13) :: fI (f 14) :: fI (f 15) :: fI (f 16) :: fI (f 17) :: .ref 73 :: .ref 74 :: .ref 75 :: .ref 76 :: .ref 77 :: .ref 78 :: fI (f 24) :: .ref 79 :: .ref 80 :: .ref 81 :: .ref 82 :: .ref 83 :: .ref 84 :: .ref 85 :: fJ (f 32) :: fJ (f 33) :: .ref 86 :: .ref 87 :: fI (f 36) :: .ref 88 :: .ref 89 :: .ref 90 :: .ref 91 :: .ref 92 :: .ref 93 :: []))) := e_496
    refine ik_Wk 1 (pc_q := 18) (loc_q := [some (.ref 66), some (fI v), some (fI sd)]) (st_q := [fI sd]) (h_q := h_496) (cl_q := 0) (sl_q := 0) rfl ?_
    exact ik_Wret rfl rfl ⟨_, _, rfl, rfl, rfl, rfl, Or.inl ⟨rfl, g_496_66, (by omega), fr_496⟩⟩
  · refine fw_ld (-1000000002) rfl rfl (by decide +kernel) ?_
    exact ik_Wret rfl rfl ⟨_, _, rfl, rfl, rfl, rfl, Or.inr ⟨(congrArg (fun z => [fI z]) (by (repeat' split) <;> first | rfl | omega)), h66, (by omega), (hfr_refl [66] h)⟩⟩

end

/-! 38zu.parse -/
noncomputable section
/-! what is read of a text is a stream: a hundred at each place, goals are places -/
def zsum (r : List zM) : Int := (r.map fun m => m.2.1).sum
theorem zsum_app (r : List zM) (m : zM) : zsum (r ++ [m]) = zsum r + m.2.1 := by
  unfold zsum
  rw [List.map_append, List.sum_append]
  show _ + (m.2.1 + 0) = _
  rw [Int.add_zero]
theorem zmv_ok {y : Int → Int} {n : Int} : ∀ (k : Nat) (r : List zM) (sum cur : Int) (r' : List zM) (c : Int), sum = zsum r → zmv y n k r sum cur = .inr (r', c) → r' ≠ [] ∧ zsum r' = 100 := by
  intro k
  induction k with
  | zero => intro r sum cur r' c _ h; rw [zmv] at h; cases h
  | succ k ih =>
    intro r sum cur r' c hs h
    rw [zmv] at h
    split at h
    · split at h
      · cases h
      · split at h
        · split at h
          · cases h
          · split at h
            · split at h
              · cases h
              · exact ih _ _ _ _ _ (by rw [zsum_app, hs]) h
            · cases h
        · cases h
    · split at h
      · rename_i q
        split at h
        · rename_i q2
          injection h with h
          injection h with h1 h2
          subst h1
          exact ⟨q.1, by rw [← hs]; exact q2⟩
        · cases h
      · cases h
theorem zps_ok {y : Int → Int} {n : Int} : ∀ (k : Nat) (rs : List (List zM)) (cur : Int) (rs' : List (List zM)), (∀ r, r ∈ rs → r ≠ [] ∧ zsum r = 100) → zps y n k rs cur = .inr rs' → ∀ r, r ∈ rs' → r ≠ [] ∧ zsum r = 100 := by
  intro k
  induction k with
  | zero => intro rs cur rs' _ h; rw [zps] at h; cases h
  | succ k ih =>
    intro rs cur rs' hr h
    rw [zps] at h
    split at h
    · split at h
      · injection h with h; subst h; exact hr
      · cases h
    · split at h
      · split at h
        · cases h
        · split at h
          · cases h
          · rename_i r c e
            refine ih _ _ _ ?_ h
            intro r0 m0
            rcases List.mem_append.mp m0 with w | w
            · exact hr r0 w
            · rw [List.mem_singleton.mp w]; exact zmv_ok 5 [] 0 _ r c rfl e
      · cases h
theorem zall_ok {y : Int → Int} {n pl : Int} {rs : List (List zM)} (h : zall y n = .inr (pl, rs)) : (pl = 0 ∧ rs = []) ∨ (pl = (rs.length : Int) + 1 ∧ ∀ r, r ∈ rs → (r ≠ [] ∧ zsum r = 100) ∧ ∀ m, m ∈ r → m.1 < pl) := by
  unfold zall at h
  split at h
  · split at h
    · cases h
    · rename_i rs0 e
      split at h
      · cases h
      · rename_i e2
        injection h with h
        injection h with h1 h2
        subst h2
        refine Or.inr ⟨h1.symm, fun r hr => ⟨zps_ok 12 [] _ _ (fun r q => by simp at q) e r hr, fun m hm => ?_⟩⟩
        unfold zck at e2
        have := List.find?_eq_none.mp e2 m (List.mem_flatten.mpr ⟨r, hr, hm⟩)
        have w : ¬ ((rs0.length : Int) + 1 ≤ m.1) := fun z => this (decide_eq_true z)
        omega
  · injection h with h
    injection h with h1 h2
    exact Or.inl ⟨h1.symm, h2.symm⟩
theorem zh_sum {G P B : List Int} {p : Nat} {r : List zM} (h : zh G P B p r) : ∀ n : Nat, n ≤ r.length → mx_sm P (p : Nat) n = zsum (r.take n) := by
  intro n
  induction n with
  | zero => intro _; rfl
  | succ n ih =>
    intro hn
    have e := (h n (r[n]'(by omega)) (List.getElem?_eq_getElem (by omega))).2.1
    show mx_sm P (p : Nat) n + P.getD (4 * ((p : Nat) : Int) + (n : Nat)).toNat 0 = _
    rw [ih (by omega), show (4 * ((p : Nat) : Int) + (n : Nat)).toNat = 4 * p + n by omega, e]
    rw [List.take_succ, List.getElem?_eq_getElem (by omega)]
    exact (zsum_app _ _).symm
/-- rows that hold what was read are rows of a stream -/
theorem mx_rw_z {y : Int → Int} {n pl : Int} {rs : List (List zM)} {C G P B : List Int} (h : zall y n = .inr (pl, rs)) (hz : zrows rs) (hH : zH C G P B rs) : mx_rw pl C G P := by
  rcases zall_ok h with ⟨e, _⟩ | ⟨e, hr⟩
  · intro x h0 h1; omega
  · intro x h0 h1
    have hp : x.toNat < rs.length := by omega
    have hm : rs[x.toNat] ∈ rs := List.getElem_mem hp
    have a := hH x.toNat rs[x.toNat] (List.getElem?_eq_getElem hp)
    have b := hr _ hm
    have c := hz.2 _ hm
    have hl : 0 < rs[x.toNat].length := List.length_pos_iff.mpr b.1.1
    refine ⟨by omega, fun i i0 i1 => ?_, ?_⟩
    · have hi : i.toNat < rs[x.toNat].length := by omega
      have mm : rs[x.toNat][i.toNat] ∈ rs[x.toNat] := List.getElem_mem hi
      have z := a.2.2 i.toNat _ (List.getElem?_eq_getElem hi)
      have w := c _ mm
      have v := b.2 _ mm
      rw [show (4 * x + i).toNat = 4 * x.toNat + i.toNat by omega, z.1, z.2.1]
      omega
    · have s := zh_sum a.2.2 rs[x.toNat].length (Nat.le_refl _)
      rw [List.take_length, Int.toNat_of_nonneg h0] at s
      rw [show (C.getD x.toNat 0).toNat = rs[x.toNat].length by omega, s]
      exact b.1.2
/-- rows of two readers: alike before the bridge -/
def mx_al (pl : Int) (cn go ch cn' go' ch' : List Int) : Prop := ∀ x : Int, 0 ≤ x → x < pl - 1 → cn'.getD x.toNat 0 = cn.getD x.toNat 0 ∧ ∀ i : Int, 0 ≤ i → i < cn.getD x.toNat 0 → go'.getD (4 * x + i).toNat 0 = go.getD (4 * x + i).toNat 0 ∧ ch'.getD (4 * x + i).toNat 0 = ch.getD (4 * x + i).toNat 0
theorem mx_al_z {pl : Int} {rs : List (List zM)} {C G P B C' G' P' B' : List Int} (e : pl = (rs.length : Int) + 1) (h : zH C G P B rs) (h_q : zH C' G' P' B' rs) : mx_al pl C G P C' G' P' := by
  intro x h0 h1
  have hp : x.toNat < rs.length := by omega
  have a := h x.toNat rs[x.toNat] (List.getElem?_eq_getElem hp)
  have b := h_q x.toNat rs[x.toNat] (List.getElem?_eq_getElem hp)
  refine ⟨by rw [a.1, b.1], fun i i0 i1 => ?_⟩
  have hi : i.toNat < rs[x.toNat].length := by omega
  have za := a.2.2 i.toNat _ (List.getElem?_eq_getElem hi)
  have zb := b.2.2 i.toNat _ (List.getElem?_eq_getElem hi)
  rw [show (4 * x + i).toNat = 4 * x.toNat + i.toNat by omega, za.1, zb.1, za.2.1, zb.2.1]
  exact ⟨rfl, rfl⟩
theorem mx_al_w {pl : Int} {cn go ch cn' go' ch' : List Int} (hr : mx_rw pl cn go ch) (h : mx_al pl cn go ch cn' go' ch') (t : Nat) : ∀ x : Int, (0 : Int) ≤ x → x < pl - 1 → mx_w cn' go' ch' t x = mx_w cn go ch t x := by
  intro x h0 h1
  have a := h x h0 h1
  have r := (hr x h0 h1).1
  have e0 := (a.2 0 (by omega) (by omega)).2
  rw [Int.add_zero] at e0
  have eg : mx_g ch' t x = mx_g ch t x := by unfold mx_g; rw [e0]
  unfold mx_w
  rw [eg, a.1]
  have er : mx_wr go' ch' (mx_g ch t x) x (cn.getD x.toNat 0).toNat = mx_wr go ch (mx_g ch t x) x (cn.getD x.toNat 0).toNat := by
    unfold mx_wr
    refine List.map_congr_left fun i hi => ?_
    have hi2 := List.mem_range.mp hi
    have z := a.2 (i : Nat) (by omega) (by omega)
    unfold mx_wi
    rw [z.1, z.2]
  rw [er]
theorem mx_al_rw {pl : Int} {cn go ch cn' go' ch' : List Int} (hr : mx_rw pl cn go ch) (h : mx_al pl cn go ch cn' go' ch') : mx_rw pl cn' go' ch' := by
  intro x h0 h1
  have a := h x h0 h1
  have r := hr x h0 h1
  rw [a.1]
  refine ⟨r.1, fun i i0 i1 => ?_, ?_⟩
  · have z := a.2 i i0 i1
    rw [z.1, z.2]
    exact r.2.1 i i0 i1
  · rw [← r.2.2]
    have : ∀ n : Nat, (n : Int) ≤ cn.getD x.toNat 0 → mx_sm ch' x n = mx_sm ch x n := by
      intro n
      induction n with
      | zero => intro _; rfl
      | succ n ih => intro hn; show mx_sm ch' x n + ch'.getD (4 * x + (n : Nat)).toNat 0 = mx_sm ch x n + ch.getD (4 * x + (n : Nat)).toNat 0; rw [ih (by omega), (a.2 (n : Nat) (by omega) (by omega)).2]
    exact this _ (by omega)
theorem mx_al_sh {pl p a b n : Int} {cn go ch cn' go' ch' : List Int} (h : mx_al pl cn go ch cn' go' ch') (hr : mx_rw pl cn go ch) (hpl : pl ≤ 12) (hp : 0 ≤ p ∧ p < pl - 1) (ha : 0 ≤ a ∧ a < cn.getD p.toNat 0) (hb : 0 ≤ b ∧ b < cn.getD p.toNat 0) (hl : ch.length = 48) (hl' : ch'.length = 48) : mx_al pl cn go (mx_sh ch p a b n) cn' go' (mx_sh ch' p a b n) := by
  intro x h0 h1
  have z := h x h0 h1
  have zp := h p hp.1 hp.2
  have r := (hr x h0 h1).1
  have rp := (hr p hp.1 hp.2).1
  refine ⟨z.1, fun i i0 i1 => ⟨(z.2 i i0 i1).1, ?_⟩⟩
  rw [mx_sh_get (by omega) (by omega), mx_sh_get (by omega) (by omega), (z.2 i i0 i1).2, (zp.2 a ha.1 ha.2).2, (zp.2 b hb.1 hb.2).2]
theorem mx_al_cm {pl : Int} {cn go ch cn' go' ch' : List Int} (hr : mx_rw pl cn go ch) (h : mx_al pl cn go ch cn' go' ch') (t : Nat) : mf_cm (fun x => mx_w cn' go' ch' t x) (pl - 1) = mf_cm (fun x => mx_w cn go ch t x) (pl - 1) := mf_cm_c fun x h0 h1 => mx_al_w hr h t x h0 h1
theorem mx_al_lw {pl : Int} {cn go ch cn' go' ch' : List Int} (hr : mx_rw pl cn go ch) (h : mx_al pl cn go ch cn' go' ch') (t : Nat) (ka pa fa kb pb fb k : Int) : mk_lw cn' go' ch' t pl ka pa fa kb pb fb k = mk_lw cn go ch t pl ka pa fa kb pb fb k := by
  unfold mk_lw
  rw [mx_al_cm hr h t]
theorem mx_al_vm {pl : Int} {cn go ch cn' go' ch' : List Int} (hr : mx_rw pl cn go ch) (h : mx_al pl cn go ch cn' go' ch') (s : Nat) (ka pa fa kb pb fb k : Int) : mk_vm cn' go' ch' s pl ka pa fa kb pb fb k = mk_vm cn go ch s pl ka pa fa kb pb fb k := by
  funext p
  unfold mk_vm
  rw [mx_al_lw hr h, mx_al_lw hr h]
theorem mx_al_fv {pl r : Int} {cn go ch cn' go' ch' rp rt rp' rt' : List Int} (hr : mx_rw pl cn go ch) (h : mx_al pl cn go ch cn' go' ch') (hp : ∀ i : Nat, (i : Int) < r → rp'.getD i 0 = rp.getD i 0 ∧ rt'.getD i 0 = rt.getD i 0) (t : Nat) : mk_fv cn' go' ch' t pl rp' rt' r = mk_fv cn go ch t pl rp rt r := by
  unfold mk_fv
  refine mk_ft_c _ fun i hi => ?_
  unfold mk_J
  rw [mx_al_cm hr h t, (hp i (by omega)).1, (hp i (by omega)).2]
theorem mx_al_vs {pl r : Int} {cn go ch cn' go' ch' rp rt rp' rt' : List Int} (hr : mx_rw pl cn go ch) (h : mx_al pl cn go ch cn' go' ch') (hp : ∀ i : Nat, (i : Int) < r → rp'.getD i 0 = rp.getD i 0 ∧ rt'.getD i 0 = rt.getD i 0) (s : Nat) : mk_vs cn' go' ch' s pl rp' rt' r = mk_vs cn go ch s pl rp rt r := by
  funext p
  unfold mk_vs
  exact mx_al_fv hr h hp _
theorem mx_al_gap {pl : Int} {cn go ch cn' go' ch' : List Int} (hr : mx_rw pl cn go ch) (h : mx_al pl cn go ch cn' go' ch') (t : Nat) (ka pa fa kb pb fb : Int) : mk_gap cn' go' ch' t pl ka pa fa kb pb fb = mk_gap cn go ch t pl ka pa fa kb pb fb := by
  unfold mk_gap
  rw [mx_al_lw hr h, mx_al_lw hr h]
theorem mk_c1_c {g g' : Int → Int → Int → Bool} {n p : Int} : ∀ (f : Nat) (k z : Int), (0 : Int) ≤ k → k + f ≤ 16 → (∀ j : Int, (0 : Int) ≤ j → j < (16 : Int) → g' n p j = g n p j) → mk_c1 g' n p f k z = mk_c1 g n p f k z := by
  intro f
  induction f with
  | zero => intro k z _ _ _; rfl
  | succ f ih =>
    intro k z h0 h1 h
    rw [mk_c1_s, mk_c1_s, h k (by omega) (by omega), ih (k + 1) z (by omega) (by omega) h]
theorem mk_c2_c {g g' : Int → Int → Int → Bool} {n m : Int} : ∀ (f : Nat) (p z : Int), (0 : Int) ≤ p → p + f ≤ m → (∀ q j : Int, (0 : Int) ≤ q → q < m → (0 : Int) ≤ j → j < (16 : Int) → g' n q j = g n q j) → mk_c2 g' n f p z = mk_c2 g n f p z := by
  intro f
  induction f with
  | zero => intro p z _ _ _; rfl
  | succ f ih =>
    intro p z h0 h1 h
    rw [mk_c2_s, mk_c2_s, ih (p + 1) z (by omega) (by omega) h, mk_c1_c 16 0 _ (by omega) (by omega) (fun j j0 j1 => h p j h0 (by omega) j0 j1)]
theorem mk_c3_c {g g' : Int → Int → Int → Bool} {m : Nat} : ∀ (f : Nat) (n : Int), (1 : Int) ≤ n → (∀ i q j : Int, (1 : Int) ≤ i → (0 : Int) ≤ q → q < (m : Int) → (0 : Int) ≤ j → j < (16 : Int) → g' i q j = g i q j) → mk_c3 g' m f n = mk_c3 g m f n := by
  intro f
  induction f with
  | zero => intro n _ _; rfl
  | succ f ih =>
    intro n h0 h
    rw [mk_c3_s, mk_c3_s, ih (n + 1) (by omega) h, mk_c2_c (m := (m : Int)) m 0 _ (by omega) (by omega) (fun q j q0 q1 j0 j1 => h n q j h0 q0 q1 j0 j1)]
theorem mx_al_fz {pl e : Int} {cn go ch cn' go' ch' : List Int} (hr : mx_rw pl cn go ch) (h : mx_al pl cn go ch cn' go' ch') (hpl : pl ≤ 12) (hl : ch.length = 48) (hl' : ch'.length = 48) (t : Nat) (ka pa fa kb pb fb : Int) : mk_fz cn' go' ch' t pl ka pa fa kb pb fb e = mk_fz cn go ch t pl ka pa fa kb pb fb e := by
  unfold mk_fz
  rw [mx_al_gap hr h]
  split
  · rfl
  · refine mk_c3_c 20 1 (by omega) fun n p k n1 p0 p1 k0 k1 => ?_
    have z := h p p0 (by omega)
    have r := (hr p p0 (by omega)).1
    unfold mk_gg
    rw [z.1]
    by_cases q : (k / 4 < cn.getD p.toNat 0 ∧ k % 4 < cn.getD p.toNat 0 ∧ ¬ k / 4 = k % 4 ∧ n < ch.getD (4 * p + k / 4).toNat 0)
    · have c := (z.2 (k / 4) (by omega) q.1).2
      rw [c, mx_al_gap (mx_rw_sh hr hpl ⟨p0, by omega⟩ ⟨by omega, q.1⟩ ⟨by omega, q.2.1⟩ q.2.2.1 hl (by omega) (by omega)) (mx_al_sh h hr hpl ⟨p0, by omega⟩ ⟨by omega, q.1⟩ ⟨by omega, q.2.1⟩ hl hl')]
    · by_cases w : k / 4 < cn.getD p.toNat 0
      · have c := (z.2 (k / 4) (by omega) w).2
        rw [c, decide_eq_false (fun v => q ⟨v.1, v.2.1, v.2.2.1, v.2.2.2.1⟩), decide_eq_false (fun v => q ⟨v.1, v.2.1, v.2.2.1, v.2.2.2.1⟩)]
      · rw [decide_eq_false (fun v => w v.1), decide_eq_false (fun v => w v.1)]
end
