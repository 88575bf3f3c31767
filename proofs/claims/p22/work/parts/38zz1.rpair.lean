noncomputable section
theorem cr_fitsJ {h : List ik_E} {f : Nat → Int} {n : Int} {fr : List Int} {so : List Int} {sw : List Int} {ro : List Int} {cl : List Int} {va : Nat} {vb : Nat} (q0 : 1 ≤ n ∧ n ≤ 3) (q1 : va < 8) (q2 : vb < 8) (q3 : ∀ i : Int, (0 : Int) ≤ i → i < (3 : Int) → 0 ≤ ro.getD i.toNat 0 ∧ ro.getD i.toNat 0 ≤ 2) (q4 : ∀ i : Int, (0 : Int) ≤ i → i < (3 : Int) → 0 ≤ cl.getD i.toNat 0 ∧ cl.getD i.toNat 0 ≤ 2) (sz : Int) (hsz : (0 : Int) ≤ sz ∧ sz ≤ (3 : Int)) (r1 : List Int) (c1 : List Int) (hr1 : ∀ i : Int, (0 : Int) ≤ i → i < (3 : Int) → 0 ≤ r1.getD i.toNat 0 ∧ r1.getD i.toNat 0 ≤ 2) (hcl : ∀ i : Int, (0 : Int) ≤ i → i < (3 : Int) → 0 ≤ c1.getD i.toNat 0 ∧ c1.getD i.toNat 0 ≤ 2) (i : Int) (hi : (0 : Int) ≤ i ∧ i < sz) {R : List Value → List ik_E → Prop} (K : ∀ (w : List ik_E) (j2 : Int) (sb : Int) (wa : Int) (s1 : List Int) (t1 : List Int) (x7 : Option Value) (w66 : cE w 66 (.inr (10, (fI (f 0) :: .ref 67 :: .ref 68 :: .ref 69 :: fI (f 4) :: .ref 70 :: .ref 71 :: fI (f 7) :: fI (f 8) :: .ref 72 :: fI (f 10) :: fI (f 11) :: fI (f 12) :: fJ (f 13) :: fI (f 14) :: fI (f 15) :: fI (f 16) :: fI (f 17) :: .ref 73 :: .ref 74 :: .ref 75 :: .ref 76 :: .ref 77 :: .ref 78 :: fI (f 24) :: .ref 79 :: .ref 80 :: .ref 81 :: .ref 82 :: .ref 83 :: .ref 84 :: .ref 85 :: fJ sb :: fJ wa :: .ref 86 :: .ref 87 :: fI (f 36) :: .ref 88 :: .ref 89 :: .ref 90 :: .ref 91 :: .ref 92 :: .ref 93 :: [])))) (w83 : cE w 83 (.inl (.long, fL fr))) (nw_83 : fr.length = (9 : Nat)) (w84 : cE w 84 (.inl (.long, fL s1))) (nw_84 : s1.length = (3 : Nat)) (w85 : cE w 85 (.inl (.long, fL t1))) (nw_85 : t1.length = (3 : Nat)) (w86 : cE w 86 (.inl (.int, fA r1))) (nw_86 : r1.length = (3 : Nat)) (w87 : cE w 87 (.inl (.int, fA c1))) (nw_87 : c1.length = (3 : Nat)) (wl : w.length = (94 : Nat)) (F : hfr [66, 84, 85, 86, 87] h w) (w7 : ik_wl 94 x7 = true), ik_G 176 172 [some (.ref 66), some (fI n), some (fI ((va : Nat) : Int)), some (fI ((vb : Nat) : Int)), some (fI sz), some (fI i), some (fI j2), x7, none] [] w R) : ∀ (k : Nat) (j : Int) (sb : Int) (wa : Int) (s1 : List Int) (t1 : List Int) (x7 : Option Value) (u : List ik_E) (u66 : cE u 66 (.inr (10, (fI (f 0) :: .ref 67 :: .ref 68 :: .ref 69 :: fI (f 4) :: .ref 70 :: .ref 71 :: fI (f 7) :: fI (f 8) :: .ref 72 :: fI (f 10) :: fI (f 11) :: fI (f 12) :: fJ (f 13) :: fI (f 14) :: fI (f 15) :: fI (f 16) :: fI (f 17) :: .ref 73 :: .ref 74 :: .ref 75 :: .ref 76 :: .ref 77 :: .ref 78 :: fI (f 24) :: .ref 79 :: .ref 80 :: .ref 81 :: .ref 82 :: .ref 83 :: .ref 84 :: .ref 85 :: fJ sb :: fJ wa :: .ref 86 :: .ref 87 :: fI (f 36) :: .ref 88 :: .ref 89 :: .ref 90 :: .ref 91 :: .ref 92 :: .ref 93 :: [])))) (u83 : cE u 83 (.inl (.long, fL fr))) (n83 : fr.length = (9 : Nat)) (u84 : cE u 84 (.inl (.long, fL s1))) (n84 : s1.length = (3 : Nat)) (u85 : cE u 85 (.inl (.long, fL t1))) (n85 : t1.length = (3 : Nat)) (u86 : cE u 86 (.inl (.int, fA r1))) (n86 : r1.length = (3 : Nat)) (u87 : cE u 87 (.inl (.int, fA c1))) (n87 : c1.length = (3 : Nat)) (ul : u.length = (94 : Nat)) (F : hfr [66, 84, 85, 86, 87] h u) (hj : (0 : Int) ≤ j ∧ j ≤ sz) (w7 : ik_wl 94 x7 = true) (hk : sz - j < (k : Int)), ik_G 176 102 [some (.ref 66), some (fI n), some (fI ((va : Nat) : Int)), some (fI ((vb : Nat) : Int)), some (fI sz), some (fI i), some (fI j), x7, none] [] u R := by
  intro k
  induction k with
  | zero => intro j sb wa s1 t1 x7 u u66 u83 n83 u84 n84 u85 n85 u86 n86 u87 n87 ul F hj w7 hk; omega
  | succ k ih =>
    intro j sb wa s1 t1 x7 u u66 u83 n83 u84 n84 u85 n85 u86 n86 u87 n87 ul F hj w7 hk
    refine ik_Wk 2 (pc_q := 106) (loc_q := [some (.ref 66), some (fI n), some (fI ((va : Nat) : Int)), some (fI ((vb : Nat) : Int)), some (fI sz), some (fI i), some (fI j), x7, none]) (st_q := [fI sz, fI j]) (h_q := u) (cl_q := 0) (sl_q := 0) rfl ?_
    refine fw_ic_ge rfl rfl (by omega) (by omega) (by omega) (by omega) (fun hc1 => ?_) (fun hc1 => ?_)
    · exact K u j sb wa s1 t1 x7 u66 u83 n83 u84 n84 u85 n85 u86 n86 u87 n87 ul F w7
    · refine ik_Wk 4 (pc_q := 116) (loc_q := [some (.ref 66), some (fI n), some (fI ((va : Nat) : Int)), some (fI ((vb : Nat) : Int)), some (fI sz), some (fI i), some (fI j), x7, none]) (st_q := [fI j, fI i, fI sz, .ref 66]) (h_q := u) (cl_q := 0) (sl_q := 0) rfl ?_
      refine fw_call 175 4 0 [.ref 66, fI sz, fI i, fI j] [] rfl rfl rfl (Nat.le_of_ble_eq_true rfl) rfl rfl (fw_rec ul (fw_ftx rfl wv_n (wl_c rfl (wl_c rfl (wl_c rfl (wl_c rfl (wl_c rfl (wl_c rfl (wl_c rfl (wl_c w7 (wl_c rfl wl_n)))))))))) u66 rfl (by decide +kernel)) (cr_without (f := fun j => ((f 0 :: 0 :: 0 :: 0 :: f 4 :: 0 :: 0 :: f 7 :: f 8 :: 0 :: f 10 :: f 11 :: f 12 :: f 13 :: f 14 :: f 15 :: f 16 :: f 17 :: 0 :: 0 :: 0 :: 0 :: 0 :: 0 :: f 24 :: 0 :: 0 :: 0 :: 0 :: 0 :: 0 :: 0 :: sb :: wa :: 0 :: 0 :: f 36 :: 0 :: 0 :: 0 :: 0 :: 0 :: 0 :: []) : List Int).getD j 0) (fr := fr) (ro := r1) (cl := c1) (sz := sz) (i := i) (j := j) (by omega) (by omega) (by omega) hr1 hcl u66 u83 n83 u86 n86 u87 n87 ul) ?_
      rintro _ h_869 ⟨z_869, rfl, F_869⟩
      have k_869 : cL h_869 := F_869.1.trans ul
      have fr_869 := hfr_cb F F_869 rfl
      have g_869_66 := (hfr_g F_869 66 rfl).trans u66
      have g_869_83 := (hfr_g F_869 83 rfl).trans u83
      have g_869_84 := (hfr_g F_869 84 rfl).trans u84
      have g_869_85 := (hfr_g F_869 85 rfl).trans u85
      have g_869_86 := (hfr_g F_869 86 rfl).trans u86
      have g_869_87 := (hfr_g F_869 87 rfl).trans u87
      refine ik_Wk 0 (pc_q := 119) (loc_q := [some (.ref 66), some (fI n), some (fI ((va : Nat) : Int)), some (fI ((vb : Nat) : Int)), some (fI sz), some (fI i), some (fI j), x7, none]) (st_q := [fJ z_869]) (h_q := h_869) (cl_q := 0) (sl_q := 0) rfl ?_
      refine ik_Wk 3 (pc_q := 123) (loc_q := [some (.ref 66), some (fI n), some (fI ((va : Nat) : Int)), some (fI ((vb : Nat) : Int)), some (fI sz), some (fI i), some (fI j), some (fJ z_869), none]) (st_q := [.ref 66, .ref 66]) (h_q := h_869) (cl_q := 0) (sl_q := 0) rfl ?_
      refine fw_gf rfl rfl g_869_66 rfl ?_
      refine ik_Wk 1 (pc_q := 128) (loc_q := [some (.ref 66), some (fI n), some (fI ((va : Nat) : Int)), some (fI ((vb : Nat) : Int)), some (fI sz), some (fI i), some (fI j), some (fJ z_869), none]) (st_q := [fJ z_869, fJ sb, .ref 66]) (h_q := h_869) (cl_q := 0) (sl_q := 0) rfl ?_
      refine fw_ladd rfl ?_
      refine fx_pf rfl rfl g_869_66 (Nat.le_of_ble_eq_true rfl) rfl rfl ?_
      intro h_870 e_870 f_870 l_870
      have k_870 : cL h_870 := l_870.trans k_869
      have fr_870 := hfr_wb fr_869 f_870 l_870 rfl
      clear l_870
      have g_870_83 := (f_870 83 (Nat.ne_of_beq_eq_false rfl)).trans g_869_83
      have g_870_84 := (f_870 84 (Nat.ne_of_beq_eq_false rfl)).trans g_869_84
      have g_870_85 := (f_870 85 (Nat.ne_of_beq_eq_false rfl)).trans g_869_85
      have g_870_86 := (f_870 86 (Nat.ne_of_beq_eq_false rfl)).trans g_869_86
      have g_870_87 := (f_870 87 (Nat.ne_of_beq_eq_false rfl)).trans g_869_87
      have g_870_66 : cE h_870 66 (.inr (10, (fI (f 0) :: .ref 67 :: .ref 68 :: .ref 69 :: fI (f 4) :: .ref 70 :: .ref 71 :: fI (f 7) :: fI (f 8) :: .ref 72 :: fI (f 10) :: fI (f 11) :: fI (f 12) :: fJ (f 13) :: fI (f 14) :: fI (f 15) :: fI (f 16) :: fI (f 17) :: .ref 73 :: .ref 74 :: .ref 75 :: .ref 76 :: .ref 77 :: .ref 78 :: fI (f 24) :: .ref 79 :: .ref 80 :: .ref 81 :: .ref 82 :: .ref 83 :: .ref 84 :: .ref 85 :: fJ (sb + z_869) :: fJ wa :: .ref 86 :: .ref 87 :: fI (f 36) :: .ref 88 :: .ref 89 :: .ref 90 :: .ref 91 :: .ref 92 :: .ref 93 :: []))) := e_870
      refine ik_Wk 1 (pc_q := 133) (loc_q := [some (.ref 66), some (fI n), some (fI ((va : Nat) : Int)), some (fI ((vb : Nat) : Int)), some (fI sz), some (fI i), some (fI j), some (fJ z_869), none]) (st_q := [.ref 66]) (h_q := h_870) (cl_q := 0) (sl_q := 0) rfl ?_
      refine fw_gf rfl rfl g_870_66 rfl ?_
      refine ik_Wk 1 (pc_q := 137) (loc_q := [some (.ref 66), some (fI n), some (fI ((va : Nat) : Int)), some (fI ((vb : Nat) : Int)), some (fI sz), some (fI i), some (fI j), some (fJ z_869), none]) (st_q := [.ref 66, .ref 84]) (h_q := h_870) (cl_q := 0) (sl_q := 0) rfl ?_
      refine fw_gf rfl rfl g_870_66 rfl ?_
      refine ik_Wk 1 (pc_q := 142) (loc_q := [some (.ref 66), some (fI n), some (fI ((va : Nat) : Int)), some (fI ((vb : Nat) : Int)), some (fI sz), some (fI i), some (fI j), some (fJ z_869), none]) (st_q := [fI i, .ref 86, .ref 84]) (h_q := h_870) (cl_q := 0) (sl_q := 0) rfl ?_
      refine fw_ial rfl g_870_86 (by omega) (by omega) (by omega) ?_
      have hz2 := hr1 i (by omega) (by omega)
      refine ik_Wk 1 (pc_q := 144) (loc_q := [some (.ref 66), some (fI n), some (fI ((va : Nat) : Int)), some (fI ((vb : Nat) : Int)), some (fI sz), some (fI i), some (fI j), some (fJ z_869), none]) (st_q := [fI (r1.getD i.toNat 0), .ref 84, fI (r1.getD i.toNat 0), .ref 84]) (h_q := h_870) (cl_q := 0) (sl_q := 0) rfl ?_
      refine fx_lal rfl g_870_84 (by omega) (by omega) (by omega) ?_
      refine ik_Wk 1 (pc_q := 147) (loc_q := [some (.ref 66), some (fI n), some (fI ((va : Nat) : Int)), some (fI ((vb : Nat) : Int)), some (fI sz), some (fI i), some (fI j), some (fJ z_869), none]) (st_q := [fJ z_869, fJ (s1.getD (r1.getD i.toNat 0).toNat 0), fI (r1.getD i.toNat 0), .ref 84]) (h_q := h_870) (cl_q := 0) (sl_q := 0) rfl ?_
      refine fw_ladd rfl ?_
      have hl3 : (s1.set (r1.getD i.toNat 0).toNat ((s1.getD (r1.getD i.toNat 0).toNat 0) + z_869)).length = 3 := (List.length_set ..).trans n84
      refine fx_las rfl g_870_84 (by omega) (by omega) (by omega) ?_
      intro h_871 e_871 f_871 l_871
      have k_871 : cL h_871 := l_871.trans k_870
      have fr_871 := hfr_wb fr_870 f_871 l_871 rfl
      clear l_871
      have g_871_66 := (f_871 66 (Nat.ne_of_beq_eq_false rfl)).trans g_870_66
      have g_871_83 := (f_871 83 (Nat.ne_of_beq_eq_false rfl)).trans g_870_83
      have g_871_85 := (f_871 85 (Nat.ne_of_beq_eq_false rfl)).trans g_870_85
      have g_871_86 := (f_871 86 (Nat.ne_of_beq_eq_false rfl)).trans g_870_86
      have g_871_87 := (f_871 87 (Nat.ne_of_beq_eq_false rfl)).trans g_870_87
      have g_871_84 : cE h_871 84 (.inl (.long, fL (s1.set (r1.getD i.toNat 0).toNat ((s1.getD (r1.getD i.toNat 0).toNat 0) + z_869)))) := e_871
      refine ik_Wk 1 (pc_q := 150) (loc_q := [some (.ref 66), some (fI n), some (fI ((va : Nat) : Int)), some (fI ((vb : Nat) : Int)), some (fI sz), some (fI i), some (fI j), some (fJ z_869), none]) (st_q := [.ref 66]) (h_q := h_871) (cl_q := 0) (sl_q := 0) rfl ?_
      refine fw_gf rfl rfl g_871_66 rfl ?_
      refine ik_Wk 1 (pc_q := 154) (loc_q := [some (.ref 66), some (fI n), some (fI ((va : Nat) : Int)), some (fI ((vb : Nat) : Int)), some (fI sz), some (fI i), some (fI j), some (fJ z_869), none]) (st_q := [.ref 66, .ref 85]) (h_q := h_871) (cl_q := 0) (sl_q := 0) rfl ?_
      refine fw_gf rfl rfl g_871_66 rfl ?_
      refine ik_Wk 1 (pc_q := 159) (loc_q := [some (.ref 66), some (fI n), some (fI ((va : Nat) : Int)), some (fI ((vb : Nat) : Int)), some (fI sz), some (fI i), some (fI j), some (fJ z_869), none]) (st_q := [fI j, .ref 87, .ref 85]) (h_q := h_871) (cl_q := 0) (sl_q := 0) rfl ?_
      refine fw_ial rfl g_871_87 (by omega) (by omega) (by omega) ?_
      have hz4 := hcl j (by omega) (by omega)
      refine ik_Wk 1 (pc_q := 161) (loc_q := [some (.ref 66), some (fI n), some (fI ((va : Nat) : Int)), some (fI ((vb : Nat) : Int)), some (fI sz), some (fI i), some (fI j), some (fJ z_869), none]) (st_q := [fI (c1.getD j.toNat 0), .ref 85, fI (c1.getD j.toNat 0), .ref 85]) (h_q := h_871) (cl_q := 0) (sl_q := 0) rfl ?_
      refine fx_lal rfl g_871_85 (by omega) (by omega) (by omega) ?_
      refine ik_Wk 1 (pc_q := 164) (loc_q := [some (.ref 66), some (fI n), some (fI ((va : Nat) : Int)), some (fI ((vb : Nat) : Int)), some (fI sz), some (fI i), some (fI j), some (fJ z_869), none]) (st_q := [fJ z_869, fJ (t1.getD (c1.getD j.toNat 0).toNat 0), fI (c1.getD j.toNat 0), .ref 85]) (h_q := h_871) (cl_q := 0) (sl_q := 0) rfl ?_
      refine fw_ladd rfl ?_
      have hl5 : (t1.set (c1.getD j.toNat 0).toNat ((t1.getD (c1.getD j.toNat 0).toNat 0) + z_869)).length = 3 := (List.length_set ..).trans n85
      refine fx_las rfl g_871_85 (by omega) (by omega) (by omega) ?_
      intro h_872 e_872 f_872 l_872
      have k_872 : cL h_872 := l_872.trans k_871
      have fr_872 := hfr_wb fr_871 f_872 l_872 rfl
      clear l_872
      have g_872_66 := (f_872 66 (Nat.ne_of_beq_eq_false rfl)).trans g_871_66
      have g_872_83 := (f_872 83 (Nat.ne_of_beq_eq_false rfl)).trans g_871_83
      have g_872_84 := (f_872 84 (Nat.ne_of_beq_eq_false rfl)).trans g_871_84
      have g_872_86 := (f_872 86 (Nat.ne_of_beq_eq_false rfl)).trans g_871_86
      have g_872_87 := (f_872 87 (Nat.ne_of_beq_eq_false rfl)).trans g_871_87
      have g_872_85 : cE h_872 85 (.inl (.long, fL (t1.set (c1.getD j.toNat 0).toNat ((t1.getD (c1.getD j.toNat 0).toNat 0) + z_869)))) := e_872
      refine fw_inc (a := j) (loc_q := [some (.ref 66), some (fI n), some (fI ((va : Nat) : Int)), some (fI ((vb : Nat) : Int)), some (fI sz), some (fI i), some (fI (j + 1)), some (fJ z_869), none]) rfl rfl (Nat.le_of_ble_eq_true rfl) rfl ?_
      refine ik_Wk 1 (pc_q := 102) (loc_q := [some (.ref 66), some (fI n), some (fI ((va : Nat) : Int)), some (fI ((vb : Nat) : Int)), some (fI sz), some (fI i), some (fI (j + 1)), some (fJ z_869), none]) (st_q := []) (h_q := h_872) (cl_q := 0) (sl_q := 0) rfl ?_
      exact ih (j + 1) (sb + z_869) wa (s1.set (r1.getD i.toNat 0).toNat ((s1.getD (r1.getD i.toNat 0).toNat 0) + z_869)) (t1.set (c1.getD j.toNat 0).toNat ((t1.getD (c1.getD j.toNat 0).toNat 0) + z_869)) (some (fJ z_869)) h_872 g_872_66 g_872_83 n83 g_872_84 hl3 g_872_85 hl5 g_872_86 n86 g_872_87 n87 k_872 fr_872 (by omega) rfl (by omega)

theorem cr_fitsI {h : List ik_E} {f : Nat → Int} {n : Int} {fr : List Int} {so : List Int} {sw : List Int} {ro : List Int} {cl : List Int} {va : Nat} {vb : Nat} (q0 : 1 ≤ n ∧ n ≤ 3) (q1 : va < 8) (q2 : vb < 8) (q3 : ∀ i : Int, (0 : Int) ≤ i → i < (3 : Int) → 0 ≤ ro.getD i.toNat 0 ∧ ro.getD i.toNat 0 ≤ 2) (q4 : ∀ i : Int, (0 : Int) ≤ i → i < (3 : Int) → 0 ≤ cl.getD i.toNat 0 ∧ cl.getD i.toNat 0 ≤ 2) (sz : Int) (hsz : (0 : Int) ≤ sz ∧ sz ≤ (3 : Int)) (r1 : List Int) (c1 : List Int) (hr1 : ∀ i : Int, (0 : Int) ≤ i → i < (3 : Int) → 0 ≤ r1.getD i.toNat 0 ∧ r1.getD i.toNat 0 ≤ 2) (hcl : ∀ i : Int, (0 : Int) ≤ i → i < (3 : Int) → 0 ≤ c1.getD i.toNat 0 ∧ c1.getD i.toNat 0 ≤ 2) : ∀ (k : Nat) (i : Int) (sb : Int) (wa : Int) (s1 : List Int) (t1 : List Int) (x6 : Option Value) (x7 : Option Value) (u : List ik_E) (u66 : cE u 66 (.inr (10, (fI (f 0) :: .ref 67 :: .ref 68 :: .ref 69 :: fI (f 4) :: .ref 70 :: .ref 71 :: fI (f 7) :: fI (f 8) :: .ref 72 :: fI (f 10) :: fI (f 11) :: fI (f 12) :: fJ (f 13) :: fI (f 14) :: fI (f 15) :: fI (f 16) :: fI (f 17) :: .ref 73 :: .ref 74 :: .ref 75 :: .ref 76 :: .ref 77 :: .ref 78 :: fI (f 24) :: .ref 79 :: .ref 80 :: .ref 81 :: .ref 82 :: .ref 83 :: .ref 84 :: .ref 85 :: fJ sb :: fJ wa :: .ref 86 :: .ref 87 :: fI (f 36) :: .ref 88 :: .ref 89 :: .ref 90 :: .ref 91 :: .ref 92 :: .ref 93 :: [])))) (u83 : cE u 83 (.inl (.long, fL fr))) (n83 : fr.length = (9 : Nat)) (u84 : cE u 84 (.inl (.long, fL s1))) (n84 : s1.length = (3 : Nat)) (u85 : cE u 85 (.inl (.long, fL t1))) (n85 : t1.length = (3 : Nat)) (u86 : cE u 86 (.inl (.int, fA r1))) (n86 : r1.length = (3 : Nat)) (u87 : cE u 87 (.inl (.int, fA c1))) (n87 : c1.length = (3 : Nat)) (ul : u.length = (94 : Nat)) (F : hfr [66, 84, 85, 86, 87] h u) (hi : (0 : Int) ≤ i ∧ i ≤ sz) (w6 : ik_wl 94 x6 = true) (w7 : ik_wl 94 x7 = true) (hk : sz - i < (k : Int)), ik_G 176 66 [some (.ref 66), some (fI n), some (fI ((va : Nat) : Int)), some (fI ((vb : Nat) : Int)), some (fI sz), some (fI i), x6, x7, none] [] u (fun rv h_q => ∃ (sb' : Int) (wa' : Int) (so' : List Int) (sw' : List Int) (ro' : List Int) (cl_q : List Int) (b : Int), rv = [fI b] ∧ cE h_q 66 (.inr (10, (fI (f 0) :: .ref 67 :: .ref 68 :: .ref 69 :: fI (f 4) :: .ref 70 :: .ref 71 :: fI (f 7) :: fI (f 8) :: .ref 72 :: fI (f 10) :: fI (f 11) :: fI (f 12) :: fJ (f 13) :: fI (f 14) :: fI (f 15) :: fI (f 16) :: fI (f 17) :: .ref 73 :: .ref 74 :: .ref 75 :: .ref 76 :: .ref 77 :: .ref 78 :: fI (f 24) :: .ref 79 :: .ref 80 :: .ref 81 :: .ref 82 :: .ref 83 :: .ref 84 :: .ref 85 :: fJ sb' :: fJ wa' :: .ref 86 :: .ref 87 :: fI (f 36) :: .ref 88 :: .ref 89 :: .ref 90 :: .ref 91 :: .ref 92 :: .ref 93 :: []))) ∧ cE h_q 84 (.inl (.long, fL so')) ∧ so'.length = (3 : Nat) ∧ cE h_q 85 (.inl (.long, fL sw')) ∧ sw'.length = (3 : Nat) ∧ cE h_q 86 (.inl (.int, fA ro')) ∧ ro'.length = (3 : Nat) ∧ cE h_q 87 (.inl (.int, fA cl_q)) ∧ cl_q.length = (3 : Nat) ∧ (∀ i : Int, (0 : Int) ≤ i → i < (3 : Int) → 0 ≤ ro'.getD i.toNat 0 ∧ ro'.getD i.toNat 0 ≤ 2) ∧ (∀ i : Int, (0 : Int) ≤ i → i < (3 : Int) → 0 ≤ cl_q.getD i.toNat 0 ∧ cl_q.getD i.toNat 0 ≤ 2) ∧ ((0 : Int) ≤ b ∧ b ≤ (1 : Int)) ∧ (b = 1 → ¬ Int64.ofInt sb' = 0) ∧ hfr [66, 84, 85, 86, 87] h h_q) := by
  intro k
  induction k with
  | zero => intro i sb wa s1 t1 x6 x7 u u66 u83 n83 u84 n84 u85 n85 u86 n86 u87 n87 ul F hi w6 w7 hk; omega
  | succ k ih =>
    intro i sb wa s1 t1 x6 x7 u u66 u83 n83 u84 n84 u85 n85 u86 n86 u87 n87 ul F hi w6 w7 hk
    refine ik_Wk 2 (pc_q := 70) (loc_q := [some (.ref 66), some (fI n), some (fI ((va : Nat) : Int)), some (fI ((vb : Nat) : Int)), some (fI sz), some (fI i), x6, x7, none]) (st_q := [fI sz, fI i]) (h_q := u) (cl_q := 0) (sl_q := 0) rfl ?_
    refine fw_ic_ge rfl rfl (by omega) (by omega) (by omega) (by omega) (fun hc1 => ?_) (fun hc1 => ?_)
    · refine ik_Wk 1 (pc_q := 179) (loc_q := [some (.ref 66), some (fI n), some (fI ((va : Nat) : Int)), some (fI ((vb : Nat) : Int)), some (fI sz), some (fI i), x6, x7, none]) (st_q := [.ref 66]) (h_q := u) (cl_q := 0) (sl_q := 0) rfl ?_
      refine fw_gf rfl rfl u66 rfl ?_
      refine fw_lc (z := 0) rfl (by decide +kernel) ?_
      refine fx_lcx rfl (fun zc2 rzc2 szc2 => ?_)
      refine fw_if_ne rfl rfl (by omega) (by omega) (fun hc3 => ?_) (fun hc3 => ?_)
      · refine ik_Wk 1 (pc_q := 188) (loc_q := [some (.ref 66), some (fI n), some (fI ((va : Nat) : Int)), some (fI ((vb : Nat) : Int)), some (fI sz), some (fI i), x6, x7, none]) (st_q := [fI 0]) (h_q := u) (cl_q := 0) (sl_q := 0) rfl ?_
        exact ik_Wret rfl rfl ⟨_, _, rfl, rfl, rfl, rfl, ⟨sb, wa, s1, t1, r1, c1, 0, rfl, u66, u84, n84, u85, n85, u86, n86, u87, n87, hr1, hcl, (by omega), (fun w => absurd w (by decide +kernel)), F⟩⟩
      · refine ik_Wk 1 (pc_q := 190) (loc_q := [some (.ref 66), some (fI n), some (fI ((va : Nat) : Int)), some (fI ((vb : Nat) : Int)), some (fI sz), some (fI i), x6, x7, none]) (st_q := [.ref 66]) (h_q := u) (cl_q := 0) (sl_q := 0) rfl ?_
        refine fw_gf rfl rfl u66 rfl ?_
        refine fw_lc (z := 0) rfl (by decide +kernel) ?_
        refine fx_lcx rfl (fun zc4 rzc4 szc4 => ?_)
        refine fw_if_ge rfl rfl (by omega) (by omega) (fun hc5 => ?_) (fun hc5 => ?_)
        · refine ik_Wk 2 (pc_q := 263) (loc_q := [some (.ref 66), some (fI n), some (fI ((va : Nat) : Int)), some (fI ((vb : Nat) : Int)), some (fI sz), some (fI i), x6, x7, none]) (st_q := [fI n, .ref 66]) (h_q := u) (cl_q := 0) (sl_q := 0) rfl ?_
          refine fw_call 177 2 0 [.ref 66, fI n] [] rfl rfl rfl (Nat.le_of_ble_eq_true rfl) rfl rfl (fw_rec ul (fw_ftx rfl wv_n (wl_c rfl (wl_c rfl (wl_c rfl (wl_c rfl (wl_c rfl (wl_c rfl (wl_c w6 (wl_c w7 (wl_c rfl wl_n)))))))))) u66 rfl (by decide +kernel)) (cr_isAtRest (f := fun j => ((f 0 :: 0 :: 0 :: 0 :: f 4 :: 0 :: 0 :: f 7 :: f 8 :: 0 :: f 10 :: f 11 :: f 12 :: f 13 :: f 14 :: f 15 :: f 16 :: f 17 :: 0 :: 0 :: 0 :: 0 :: 0 :: 0 :: f 24 :: 0 :: 0 :: 0 :: 0 :: 0 :: 0 :: 0 :: sb :: wa :: 0 :: 0 :: f 36 :: 0 :: 0 :: 0 :: 0 :: 0 :: 0 :: []) : List Int).getD j 0) (n := n) (fr := fr) (so := s1) (sw := t1) (by omega) u66 u83 n83 u84 n84 u85 n85 ul) ?_
          rintro _ h_873 ⟨b_873, rfl, p_873_0, F_873⟩
          have k_873 : cL h_873 := F_873.1.trans ul
          have fr_873 := hfr_cb F F_873 rfl
          have g_873_66 := (hfr_g F_873 66 rfl).trans u66
          have g_873_83 := (hfr_g F_873 83 rfl).trans u83
          have g_873_84 := (hfr_g F_873 84 rfl).trans u84
          have g_873_85 := (hfr_g F_873 85 rfl).trans u85
          have g_873_86 := (hfr_g F_873 86 rfl).trans u86
          have g_873_87 := (hfr_g F_873 87 rfl).trans u87
          refine ik_Wk 0 (pc_q := 266) (loc_q := [some (.ref 66), some (fI n), some (fI ((va : Nat) : Int)), some (fI ((vb : Nat) : Int)), some (fI sz), some (fI i), x6, x7, none]) (st_q := [fI b_873]) (h_q := h_873) (cl_q := 0) (sl_q := 0) rfl ?_
          have hz : b_873 = 0 ∨ b_873 = 1 := by omega
          rcases hz with z | z
          · subst z
            exact ik_Wret rfl rfl ⟨_, _, rfl, rfl, rfl, rfl, ⟨sb, wa, s1, t1, r1, c1, 0, rfl, g_873_66, g_873_84, n84, g_873_85, n85, g_873_86, n86, g_873_87, n87, hr1, hcl, (by omega), (fun w => absurd w (by decide +kernel)), fr_873⟩⟩
          · subst z
            have nz : ¬ Int64.ofInt sb = 0 := by rcases szc2 with w | w; omega; exact fun e => w (e.trans (by decide +kernel))
            exact ik_Wret rfl rfl ⟨_, _, rfl, rfl, rfl, rfl, ⟨sb, wa, s1, t1, r1, c1, 1, rfl, g_873_66, g_873_84, n84, g_873_85, n85, g_873_86, n86, g_873_87, n87, hr1, hcl, (by omega), (fun _ => nz), fr_873⟩⟩
        · refine ik_Wk 2 (pc_q := 200) (loc_q := [some (.ref 66), some (fI n), some (fI ((va : Nat) : Int)), some (fI ((vb : Nat) : Int)), some (fI sz), some (fI i), x6, x7, none]) (st_q := [.ref 66, .ref 66]) (h_q := u) (cl_q := 0) (sl_q := 0) rfl ?_
          refine fw_gf rfl rfl u66 rfl ?_
          refine fx_lneg rfl ?_
          refine fx_pf rfl rfl u66 (Nat.le_of_ble_eq_true rfl) rfl rfl ?_
          intro h_874 e_874 f_874 l_874
          have k_874 : cL h_874 := l_874.trans ul
          have fr_874 := hfr_wb F f_874 l_874 rfl
          clear l_874
          have g_874_83 := (f_874 83 (Nat.ne_of_beq_eq_false rfl)).trans u83
          have g_874_84 := (f_874 84 (Nat.ne_of_beq_eq_false rfl)).trans u84
          have g_874_85 := (f_874 85 (Nat.ne_of_beq_eq_false rfl)).trans u85
          have g_874_86 := (f_874 86 (Nat.ne_of_beq_eq_false rfl)).trans u86
          have g_874_87 := (f_874 87 (Nat.ne_of_beq_eq_false rfl)).trans u87
          have g_874_66 : cE h_874 66 (.inr (10, (fI (f 0) :: .ref 67 :: .ref 68 :: .ref 69 :: fI (f 4) :: .ref 70 :: .ref 71 :: fI (f 7) :: fI (f 8) :: .ref 72 :: fI (f 10) :: fI (f 11) :: fI (f 12) :: fJ (f 13) :: fI (f 14) :: fI (f 15) :: fI (f 16) :: fI (f 17) :: .ref 73 :: .ref 74 :: .ref 75 :: .ref 76 :: .ref 77 :: .ref 78 :: fI (f 24) :: .ref 79 :: .ref 80 :: .ref 81 :: .ref 82 :: .ref 83 :: .ref 84 :: .ref 85 :: fJ (-sb) :: fJ wa :: .ref 86 :: .ref 87 :: fI (f 36) :: .ref 88 :: .ref 89 :: .ref 90 :: .ref 91 :: .ref 92 :: .ref 93 :: []))) := e_874
          refine ik_Wk 2 (pc_q := 209) (loc_q := [some (.ref 66), some (fI n), some (fI ((va : Nat) : Int)), some (fI ((vb : Nat) : Int)), some (fI sz), some (fI i), x6, x7, none]) (st_q := [.ref 66, .ref 66]) (h_q := h_874) (cl_q := 0) (sl_q := 0) rfl ?_
          refine fw_gf rfl rfl g_874_66 rfl ?_
          refine fx_lneg rfl ?_
          refine fx_pf rfl rfl g_874_66 (Nat.le_of_ble_eq_true rfl) rfl rfl ?_
          intro h_875 e_875 f_875 l_875
          have k_875 : cL h_875 := l_875.trans k_874
          have fr_875 := hfr_wb fr_874 f_875 l_875 rfl
          clear l_875
          have g_875_83 := (f_875 83 (Nat.ne_of_beq_eq_false rfl)).trans g_874_83
          have g_875_84 := (f_875 84 (Nat.ne_of_beq_eq_false rfl)).trans g_874_84
          have g_875_85 := (f_875 85 (Nat.ne_of_beq_eq_false rfl)).trans g_874_85
          have g_875_86 := (f_875 86 (Nat.ne_of_beq_eq_false rfl)).trans g_874_86
          have g_875_87 := (f_875 87 (Nat.ne_of_beq_eq_false rfl)).trans g_874_87
          have g_875_66 : cE h_875 66 (.inr (10, (fI (f 0) :: .ref 67 :: .ref 68 :: .ref 69 :: fI (f 4) :: .ref 70 :: .ref 71 :: fI (f 7) :: fI (f 8) :: .ref 72 :: fI (f 10) :: fI (f 11) :: fI (f 12) :: fJ (f 13) :: fI (f 14) :: fI (f 15) :: fI (f 16) :: fI (f 17) :: .ref 73 :: .ref 74 :: .ref 75 :: .ref 76 :: .ref 77 :: .ref 78 :: fI (f 24) :: .ref 79 :: .ref 80 :: .ref 81 :: .ref 82 :: .ref 83 :: .ref 84 :: .ref 85 :: fJ (-sb) :: fJ (-wa) :: .ref 86 :: .ref 87 :: fI (f 36) :: .ref 88 :: .ref 89 :: .ref 90 :: .ref 91 :: .ref 92 :: .ref 93 :: []))) := e_875
          refine ik_Wk 4 (pc_q := 222) (loc_q := [some (.ref 66), some (fI n), some (fI ((va : Nat) : Int)), some (fI ((vb : Nat) : Int)), some (fI sz), some (fI 0), x6, x7, none]) (st_q := [fI 3, fI 0]) (h_q := h_875) (cl_q := 0) (sl_q := 0) rfl ?_
          refine fw_ic_ge rfl rfl (by decide +kernel) (by decide +kernel) (by decide +kernel) (by decide +kernel) (fun hc6 => absurd hc6 (by decide +kernel)) (fun hc6 => ?_)
          refine ik_Wk 1 (pc_q := 226) (loc_q := [some (.ref 66), some (fI n), some (fI ((va : Nat) : Int)), some (fI ((vb : Nat) : Int)), some (fI sz), some (fI 0), x6, x7, none]) (st_q := [.ref 66]) (h_q := h_875) (cl_q := 0) (sl_q := 0) rfl ?_
          refine fw_gf rfl rfl g_875_66 rfl ?_
          refine ik_Wk 2 (pc_q := 232) (loc_q := [some (.ref 66), some (fI n), some (fI ((va : Nat) : Int)), some (fI ((vb : Nat) : Int)), some (fI sz), some (fI 0), x6, x7, none]) (st_q := [.ref 66, fI 0, .ref 84]) (h_q := h_875) (cl_q := 0) (sl_q := 0) rfl ?_
          refine fw_gf rfl rfl g_875_66 rfl ?_
          refine ik_Wk 1 (pc_q := 237) (loc_q := [some (.ref 66), some (fI n), some (fI ((va : Nat) : Int)), some (fI ((vb : Nat) : Int)), some (fI sz), some (fI 0), x6, x7, none]) (st_q := [fI 0, .ref 84, fI 0, .ref 84]) (h_q := h_875) (cl_q := 0) (sl_q := 0) rfl ?_
          refine fx_lal rfl g_875_84 (by omega) (by omega) (by omega) ?_
          refine fx_lneg rfl ?_
          have hl7 : (s1.set (0 : Int).toNat (-(s1.getD (0 : Int).toNat 0))).length = 3 := (List.length_set ..).trans n84
          refine fx_las rfl g_875_84 (by omega) (by omega) (by omega) ?_
          intro h_876 e_876 f_876 l_876
          have k_876 : cL h_876 := l_876.trans k_875
          have fr_876 := hfr_wb fr_875 f_876 l_876 rfl
          clear l_876
          have g_876_66 := (f_876 66 (Nat.ne_of_beq_eq_false rfl)).trans g_875_66
          have g_876_83 := (f_876 83 (Nat.ne_of_beq_eq_false rfl)).trans g_875_83
          have g_876_85 := (f_876 85 (Nat.ne_of_beq_eq_false rfl)).trans g_875_85
          have g_876_86 := (f_876 86 (Nat.ne_of_beq_eq_false rfl)).trans g_875_86
          have g_876_87 := (f_876 87 (Nat.ne_of_beq_eq_false rfl)).trans g_875_87
          have g_876_84 : cE h_876 84 (.inl (.long, fL (s1.set (0 : Int).toNat (-(s1.getD (0 : Int).toNat 0))))) := e_876
          refine ik_Wk 1 (pc_q := 241) (loc_q := [some (.ref 66), some (fI n), some (fI ((va : Nat) : Int)), some (fI ((vb : Nat) : Int)), some (fI sz), some (fI 0), x6, x7, none]) (st_q := [.ref 66]) (h_q := h_876) (cl_q := 0) (sl_q := 0) rfl ?_
          refine fw_gf rfl rfl g_876_66 rfl ?_
          refine ik_Wk 2 (pc_q := 247) (loc_q := [some (.ref 66), some (fI n), some (fI ((va : Nat) : Int)), some (fI ((vb : Nat) : Int)), some (fI sz), some (fI 0), x6, x7, none]) (st_q := [.ref 66, fI 0, .ref 85]) (h_q := h_876) (cl_q := 0) (sl_q := 0) rfl ?_
          refine fw_gf rfl rfl g_876_66 rfl ?_
          refine ik_Wk 1 (pc_q := 252) (loc_q := [some (.ref 66), some (fI n), some (fI ((va : Nat) : Int)), some (fI ((vb : Nat) : Int)), some (fI sz), some (fI 0), x6, x7, none]) (st_q := [fI 0, .ref 85, fI 0, .ref 85]) (h_q := h_876) (cl_q := 0) (sl_q := 0) rfl ?_
          refine fx_lal rfl g_876_85 (by omega) (by omega) (by omega) ?_
          refine fx_lneg rfl ?_
          have hl8 : (t1.set (0 : Int).toNat (-(t1.getD (0 : Int).toNat 0))).length = 3 := (List.length_set ..).trans n85
          refine fx_las rfl g_876_85 (by omega) (by omega) (by omega) ?_
          intro h_877 e_877 f_877 l_877
          have k_877 : cL h_877 := l_877.trans k_876
          have fr_877 := hfr_wb fr_876 f_877 l_877 rfl
          clear l_877
          have g_877_66 := (f_877 66 (Nat.ne_of_beq_eq_false rfl)).trans g_876_66
          have g_877_83 := (f_877 83 (Nat.ne_of_beq_eq_false rfl)).trans g_876_83
          have g_877_84 := (f_877 84 (Nat.ne_of_beq_eq_false rfl)).trans g_876_84
          have g_877_86 := (f_877 86 (Nat.ne_of_beq_eq_false rfl)).trans g_876_86
          have g_877_87 := (f_877 87 (Nat.ne_of_beq_eq_false rfl)).trans g_876_87
          have g_877_85 : cE h_877 85 (.inl (.long, fL (t1.set (0 : Int).toNat (-(t1.getD (0 : Int).toNat 0))))) := e_877
          refine fw_inc (a := 0) (loc_q := [some (.ref 66), some (fI n), some (fI ((va : Nat) : Int)), some (fI ((vb : Nat) : Int)), some (fI sz), some (fI 1), x6, x7, none]) rfl rfl (Nat.le_of_ble_eq_true rfl) rfl ?_
          refine ik_Wk 3 (pc_q := 222) (loc_q := [some (.ref 66), some (fI n), some (fI ((va : Nat) : Int)), some (fI ((vb : Nat) : Int)), some (fI sz), some (fI 1), x6, x7, none]) (st_q := [fI 3, fI 1]) (h_q := h_877) (cl_q := 0) (sl_q := 0) rfl ?_
          refine fw_ic_ge rfl rfl (by decide +kernel) (by decide +kernel) (by decide +kernel) (by decide +kernel) (fun hc9 => absurd hc9 (by decide +kernel)) (fun hc9 => ?_)
          refine ik_Wk 1 (pc_q := 226) (loc_q := [some (.ref 66), some (fI n), some (fI ((va : Nat) : Int)), some (fI ((vb : Nat) : Int)), some (fI sz), some (fI 1), x6, x7, none]) (st_q := [.ref 66]) (h_q := h_877) (cl_q := 0) (sl_q := 0) rfl ?_
          refine fw_gf rfl rfl g_877_66 rfl ?_
          refine ik_Wk 2 (pc_q := 232) (loc_q := [some (.ref 66), some (fI n), some (fI ((va : Nat) : Int)), some (fI ((vb : Nat) : Int)), some (fI sz), some (fI 1), x6, x7, none]) (st_q := [.ref 66, fI 1, .ref 84]) (h_q := h_877) (cl_q := 0) (sl_q := 0) rfl ?_
          refine fw_gf rfl rfl g_877_66 rfl ?_
          refine ik_Wk 1 (pc_q := 237) (loc_q := [some (.ref 66), some (fI n), some (fI ((va : Nat) : Int)), some (fI ((vb : Nat) : Int)), some (fI sz), some (fI 1), x6, x7, none]) (st_q := [fI 1, .ref 84, fI 1, .ref 84]) (h_q := h_877) (cl_q := 0) (sl_q := 0) rfl ?_
          refine fx_lal rfl g_877_84 (by omega) (by omega) (by omega) ?_
          refine fx_lneg rfl ?_
          have hl10 : ((s1.set (0 : Int).toNat (-(s1.getD (0 : Int).toNat 0))).set (1 : Int).toNat (-((s1.set (0 : Int).toNat (-(s1.getD (0 : Int).toNat 0))).getD (1 : Int).toNat 0))).length = 3 := (List.length_set ..).trans hl7
          refine fx_las rfl g_877_84 (by omega) (by omega) (by omega) ?_
          intro h_878 e_878 f_878 l_878
          have k_878 : cL h_878 := l_878.trans k_877
          have fr_878 := hfr_wb fr_877 f_878 l_878 rfl
          clear l_878
          have g_878_66 := (f_878 66 (Nat.ne_of_beq_eq_false rfl)).trans g_877_66
          have g_878_83 := (f_878 83 (Nat.ne_of_beq_eq_false rfl)).trans g_877_83
          have g_878_85 := (f_878 85 (Nat.ne_of_beq_eq_false rfl)).trans g_877_85
          have g_878_86 := (f_878 86 (Nat.ne_of_beq_eq_false rfl)).trans g_877_86
          have g_878_87 := (f_878 87 (Nat.ne_of_beq_eq_false rfl)).trans g_877_87
          have g_878_84 : cE h_878 84 (.inl (.long, fL ((s1.set (0 : Int).toNat (-(s1.getD (0 : Int).toNat 0))).set (1 : Int).toNat (-((s1.set (0 : Int).toNat (-(s1.getD (0 : Int).toNat 0))).getD (1 : Int).toNat 0))))) := e_878
          refine ik_Wk 1 (pc_q := 241) (loc_q := [some (.ref 66), some (fI n), some (fI ((va : Nat) : Int)), some (fI ((vb : Nat) : Int)), some (fI sz), some (fI 1), x6, x7, none]) (st_q := [.ref 66]) (h_q := h_878) (cl_q := 0) (sl_q := 0) rfl ?_
          refine fw_gf rfl rfl g_878_66 rfl ?_
          refine ik_Wk 2 (pc_q := 247) (loc_q := [some (.ref 66), some (fI n), some (fI ((va : Nat) : Int)), some (fI ((vb : Nat) : Int)), some (fI sz), some (fI 1), x6, x7, none]) (st_q := [.ref 66, fI 1, .ref 85]) (h_q := h_878) (cl_q := 0) (sl_q := 0) rfl ?_
          refine fw_gf rfl rfl g_878_66 rfl ?_
          refine ik_Wk 1 (pc_q := 252) (loc_q := [some (.ref 66), some (fI n), some (fI ((va : Nat) : Int)), some (fI ((vb : Nat) : Int)), some (fI sz), some (fI 1), x6, x7, none]) (st_q := [fI 1, .ref 85, fI 1, .ref 85]) (h_q := h_878) (cl_q := 0) (sl_q := 0) rfl ?_
          refine fx_lal rfl g_878_85 (by omega) (by omega) (by omega) ?_
          refine fx_lneg rfl ?_
          have hl11 : ((t1.set (0 : Int).toNat (-(t1.getD (0 : Int).toNat 0))).set (1 : Int).toNat (-((t1.set (0 : Int).toNat (-(t1.getD (0 : Int).toNat 0))).getD (1 : Int).toNat 0))).length = 3 := (List.length_set ..).trans hl8
          refine fx_las rfl g_878_85 (by omega) (by omega) (by omega) ?_
          intro h_879 e_879 f_879 l_879
          have k_879 : cL h_879 := l_879.trans k_878
          have fr_879 := hfr_wb fr_878 f_879 l_879 rfl
          clear l_879
          have g_879_66 := (f_879 66 (Nat.ne_of_beq_eq_false rfl)).trans g_878_66
          have g_879_83 := (f_879 83 (Nat.ne_of_beq_eq_false rfl)).trans g_878_83
          have g_879_84 := (f_879 84 (Nat.ne_of_beq_eq_false rfl)).trans g_878_84
          have g_879_86 := (f_879 86 (Nat.ne_of_beq_eq_false rfl)).trans g_878_86
          have g_879_87 := (f_879 87 (Nat.ne_of_beq_eq_false rfl)).trans g_878_87
          have g_879_85 : cE h_879 85 (.inl (.long, fL ((t1.set (0 : Int).toNat (-(t1.getD (0 : Int).toNat 0))).set (1 : Int).toNat (-((t1.set (0 : Int).toNat (-(t1.getD (0 : Int).toNat 0))).getD (1 : Int).toNat 0))))) := e_879
          refine fw_inc (a := 1) (loc_q := [some (.ref 66), some (fI n), some (fI ((va : Nat) : Int)), some (fI ((vb : Nat) : Int)), some (fI sz), some (fI 2), x6, x7, none]) rfl rfl (Nat.le_of_ble_eq_true rfl) rfl ?_
          refine ik_Wk 3 (pc_q := 222) (loc_q := [some (.ref 66), some (fI n), some (fI ((va : Nat) : Int)), some (fI ((vb : Nat) : Int)), some (fI sz), some (fI 2), x6, x7, none]) (st_q := [fI 3, fI 2]) (h_q := h_879) (cl_q := 0) (sl_q := 0) rfl ?_
          refine fw_ic_ge rfl rfl (by decide +kernel) (by decide +kernel) (by decide +kernel) (by decide +kernel) (fun hc12 => absurd hc12 (by decide +kernel)) (fun hc12 => ?_)
          refine ik_Wk 1 (pc_q := 226) (loc_q := [some (.ref 66), some (fI n), some (fI ((va : Nat) : Int)), some (fI ((vb : Nat) : Int)), some (fI sz), some (fI 2), x6, x7, none]) (st_q := [.ref 66]) (h_q := h_879) (cl_q := 0) (sl_q := 0) rfl ?_
          refine fw_gf rfl rfl g_879_66 rfl ?_
          refine ik_Wk 2 (pc_q := 232) (loc_q := [some (.ref 66), some (fI n), some (fI ((va : Nat) : Int)), some (fI ((vb : Nat) : Int)), some (fI sz), some (fI 2), x6, x7, none]) (st_q := [.ref 66, fI 2, .ref 84]) (h_q := h_879) (cl_q := 0) (sl_q := 0) rfl ?_
          refine fw_gf rfl rfl g_879_66 rfl ?_
          refine ik_Wk 1 (pc_q := 237) (loc_q := [some (.ref 66), some (fI n), some (fI ((va : Nat) : Int)), some (fI ((vb : Nat) : Int)), some (fI sz), some (fI 2), x6, x7, none]) (st_q := [fI 2, .ref 84, fI 2, .ref 84]) (h_q := h_879) (cl_q := 0) (sl_q := 0) rfl ?_
          refine fx_lal rfl g_879_84 (by omega) (by omega) (by omega) ?_
          refine fx_lneg rfl ?_
          have hl13 : (((s1.set (0 : Int).toNat (-(s1.getD (0 : Int).toNat 0))).set (1 : Int).toNat (-((s1.set (0 : Int).toNat (-(s1.getD (0 : Int).toNat 0))).getD (1 : Int).toNat 0))).set (2 : Int).toNat (-(((s1.set (0 : Int).toNat (-(s1.getD (0 : Int).toNat 0))).set (1 : Int).toNat (-((s1.set (0 : Int).toNat (-(s1.getD (0 : Int).toNat 0))).getD (1 : Int).toNat 0))).getD (2 : Int).toNat 0))).length = 3 := (List.length_set ..).trans hl10
          refine fx_las rfl g_879_84 (by omega) (by omega) (by omega) ?_
          intro h_880 e_880 f_880 l_880
          have k_880 : cL h_880 := l_880.trans k_879
          have fr_880 := hfr_wb fr_879 f_880 l_880 rfl
          clear l_880
          have g_880_66 := (f_880 66 (Nat.ne_of_beq_eq_false rfl)).trans g_879_66
          have g_880_83 := (f_880 83 (Nat.ne_of_beq_eq_false rfl)).trans g_879_83
          have g_880_85 := (f_880 85 (Nat.ne_of_beq_eq_false rfl)).trans g_879_85
          have g_880_86 := (f_880 86 (Nat.ne_of_beq_eq_false rfl)).trans g_879_86
          have g_880_87 := (f_880 87 (Nat.ne_of_beq_eq_false rfl)).trans g_879_87
          have g_880_84 : cE h_880 84 (.inl (.long, fL (((s1.set (0 : Int).toNat (-(s1.getD (0 : Int).toNat 0))).set (1 : Int).toNat (-((s1.set (0 : Int).toNat (-(s1.getD (0 : Int).toNat 0))).getD (1 : Int).toNat 0))).set (2 : Int).toNat (-(((s1.set (0 : Int).toNat (-(s1.getD (0 : Int).toNat 0))).set (1 : Int).toNat (-((s1.set (0 : Int).toNat (-(s1.getD (0 : Int).toNat 0))).getD (1 : Int).toNat 0))).getD (2 : Int).toNat 0))))) := e_880
          refine ik_Wk 1 (pc_q := 241) (loc_q := [some (.ref 66), some (fI n), some (fI ((va : Nat) : Int)), some (fI ((vb : Nat) : Int)), some (fI sz), some (fI 2), x6, x7, none]) (st_q := [.ref 66]) (h_q := h_880) (cl_q := 0) (sl_q := 0) rfl ?_
          refine fw_gf rfl rfl g_880_66 rfl ?_
          refine ik_Wk 2 (pc_q := 247) (loc_q := [some (.ref 66), some (fI n), some (fI ((va : Nat) : Int)), some (fI ((vb : Nat) : Int)), some (fI sz), some (fI 2), x6, x7, none]) (st_q := [.ref 66, fI 2, .ref 85]) (h_q := h_880) (cl_q := 0) (sl_q := 0) rfl ?_
          refine fw_gf rfl rfl g_880_66 rfl ?_
          refine ik_Wk 1 (pc_q := 252) (loc_q := [some (.ref 66), some (fI n), some (fI ((va : Nat) : Int)), some (fI ((vb : Nat) : Int)), some (fI sz), some (fI 2), x6, x7, none]) (st_q := [fI 2, .ref 85, fI 2, .ref 85]) (h_q := h_880) (cl_q := 0) (sl_q := 0) rfl ?_
          refine fx_lal rfl g_880_85 (by omega) (by omega) (by omega) ?_
          refine fx_lneg rfl ?_
          have hl14 : (((t1.set (0 : Int).toNat (-(t1.getD (0 : Int).toNat 0))).set (1 : Int).toNat (-((t1.set (0 : Int).toNat (-(t1.getD (0 : Int).toNat 0))).getD (1 : Int).toNat 0))).set (2 : Int).toNat (-(((t1.set (0 : Int).toNat (-(t1.getD (0 : Int).toNat 0))).set (1 : Int).toNat (-((t1.set (0 : Int).toNat (-(t1.getD (0 : Int).toNat 0))).getD (1 : Int).toNat 0))).getD (2 : Int).toNat 0))).length = 3 := (List.length_set ..).trans hl11
          refine fx_las rfl g_880_85 (by omega) (by omega) (by omega) ?_
          intro h_881 e_881 f_881 l_881
          have k_881 : cL h_881 := l_881.trans k_880
          have fr_881 := hfr_wb fr_880 f_881 l_881 rfl
          clear l_881
          have g_881_66 := (f_881 66 (Nat.ne_of_beq_eq_false rfl)).trans g_880_66
          have g_881_83 := (f_881 83 (Nat.ne_of_beq_eq_false rfl)).trans g_880_83
          have g_881_84 := (f_881 84 (Nat.ne_of_beq_eq_false rfl)).trans g_880_84
          have g_881_86 := (f_881 86 (Nat.ne_of_beq_eq_false rfl)).trans g_880_86
          have g_881_87 := (f_881 87 (Nat.ne_of_beq_eq_false rfl)).trans g_880_87
          have g_881_85 : cE h_881 85 (.inl (.long, fL (((t1.set (0 : Int).toNat (-(t1.getD (0 : Int).toNat 0))).set (1 : Int).toNat (-((t1.set (0 : Int).toNat (-(t1.getD (0 : Int).toNat 0))).getD (1 : Int).toNat 0))).set (2 : Int).toNat (-(((t1.set (0 : Int).toNat (-(t1.getD (0 : Int).toNat 0))).set (1 : Int).toNat (-((t1.set (0 : Int).toNat (-(t1.getD (0 : Int).toNat 0))).getD (1 : Int).toNat 0))).getD (2 : Int).toNat 0))))) := e_881
          refine fw_inc (a := 2) (loc_q := [some (.ref 66), some (fI n), some (fI ((va : Nat) : Int)), some (fI ((vb : Nat) : Int)), some (fI sz), some (fI 3), x6, x7, none]) rfl rfl (Nat.le_of_ble_eq_true rfl) rfl ?_
          refine ik_Wk 3 (pc_q := 222) (loc_q := [some (.ref 66), some (fI n), some (fI ((va : Nat) : Int)), some (fI ((vb : Nat) : Int)), some (fI sz), some (fI 3), x6, x7, none]) (st_q := [fI 3, fI 3]) (h_q := h_881) (cl_q := 0) (sl_q := 0) rfl ?_
          refine fw_ic_ge rfl rfl (by decide +kernel) (by decide +kernel) (by decide +kernel) (by decide +kernel) (fun hc15 => ?_) (fun hc15 => absurd hc15 (by decide +kernel))
          refine ik_Wk 2 (pc_q := 263) (loc_q := [some (.ref 66), some (fI n), some (fI ((va : Nat) : Int)), some (fI ((vb : Nat) : Int)), some (fI sz), some (fI 3), x6, x7, none]) (st_q := [fI n, .ref 66]) (h_q := h_881) (cl_q := 0) (sl_q := 0) rfl ?_
          refine fw_call 177 2 0 [.ref 66, fI n] [] rfl rfl rfl (Nat.le_of_ble_eq_true rfl) rfl rfl (fw_rec k_881 (fw_ftx rfl wv_n (wl_c rfl (wl_c rfl (wl_c rfl (wl_c rfl (wl_c rfl (wl_c rfl (wl_c w6 (wl_c w7 (wl_c rfl wl_n)))))))))) g_881_66 rfl (by decide +kernel)) (cr_isAtRest (f := fun j => ((f 0 :: 0 :: 0 :: 0 :: f 4 :: 0 :: 0 :: f 7 :: f 8 :: 0 :: f 10 :: f 11 :: f 12 :: f 13 :: f 14 :: f 15 :: f 16 :: f 17 :: 0 :: 0 :: 0 :: 0 :: 0 :: 0 :: f 24 :: 0 :: 0 :: 0 :: 0 :: 0 :: 0 :: 0 :: (-sb) :: (-wa) :: 0 :: 0 :: f 36 :: 0 :: 0 :: 0 :: 0 :: 0 :: 0 :: []) : List Int).getD j 0) (n := n) (fr := fr) (so := ((s1.set (0 : Int).toNat (-(s1.getD (0 : Int).toNat 0))).set (1 : Int).toNat (-((s1.set (0 : Int).toNat (-(s1.getD (0 : Int).toNat 0))).getD (1 : Int).toNat 0))).set (2 : Int).toNat (-(((s1.set (0 : Int).toNat (-(s1.getD (0 : Int).toNat 0))).set (1 : Int).toNat (-((s1.set (0 : Int).toNat (-(s1.getD (0 : Int).toNat 0))).getD (1 : Int).toNat 0))).getD (2 : Int).toNat 0))) (sw := ((t1.set (0 : Int).toNat (-(t1.getD (0 : Int).toNat 0))).set (1 : Int).toNat (-((t1.set (0 : Int).toNat (-(t1.getD (0 : Int).toNat 0))).getD (1 : Int).toNat 0))).set (2 : Int).toNat (-(((t1.set (0 : Int).toNat (-(t1.getD (0 : Int).toNat 0))).set (1 : Int).toNat (-((t1.set (0 : Int).toNat (-(t1.getD (0 : Int).toNat 0))).getD (1 : Int).toNat 0))).getD (2 : Int).toNat 0))) (by omega) g_881_66 g_881_83 n83 g_881_84 hl13 g_881_85 hl14 k_881) ?_
          rintro _ h_882 ⟨b_882, rfl, p_882_0, F_882⟩
          have k_882 : cL h_882 := F_882.1.trans k_881
          have fr_882 := hfr_cb fr_881 F_882 rfl
          have g_882_66 := (hfr_g F_882 66 rfl).trans g_881_66
          have g_882_83 := (hfr_g F_882 83 rfl).trans g_881_83
          have g_882_84 := (hfr_g F_882 84 rfl).trans g_881_84
          have g_882_85 := (hfr_g F_882 85 rfl).trans g_881_85
          have g_882_86 := (hfr_g F_882 86 rfl).trans g_881_86
          have g_882_87 := (hfr_g F_882 87 rfl).trans g_881_87
          refine ik_Wk 0 (pc_q := 266) (loc_q := [some (.ref 66), some (fI n), some (fI ((va : Nat) : Int)), some (fI ((vb : Nat) : Int)), some (fI sz), some (fI 3), x6, x7, none]) (st_q := [fI b_882]) (h_q := h_882) (cl_q := 0) (sl_q := 0) rfl ?_
          have hz : b_882 = 0 ∨ b_882 = 1 := by omega
          rcases hz with z | z
          · subst z
            exact ik_Wret rfl rfl ⟨_, _, rfl, rfl, rfl, rfl, ⟨(-sb), (-wa), (((s1.set (0 : Int).toNat (-(s1.getD (0 : Int).toNat 0))).set (1 : Int).toNat (-((s1.set (0 : Int).toNat (-(s1.getD (0 : Int).toNat 0))).getD (1 : Int).toNat 0))).set (2 : Int).toNat (-(((s1.set (0 : Int).toNat (-(s1.getD (0 : Int).toNat 0))).set (1 : Int).toNat (-((s1.set (0 : Int).toNat (-(s1.getD (0 : Int).toNat 0))).getD (1 : Int).toNat 0))).getD (2 : Int).toNat 0))), (((t1.set (0 : Int).toNat (-(t1.getD (0 : Int).toNat 0))).set (1 : Int).toNat (-((t1.set (0 : Int).toNat (-(t1.getD (0 : Int).toNat 0))).getD (1 : Int).toNat 0))).set (2 : Int).toNat (-(((t1.set (0 : Int).toNat (-(t1.getD (0 : Int).toNat 0))).set (1 : Int).toNat (-((t1.set (0 : Int).toNat (-(t1.getD (0 : Int).toNat 0))).getD (1 : Int).toNat 0))).getD (2 : Int).toNat 0))), r1, c1, 0, rfl, g_882_66, g_882_84, hl13, g_882_85, hl14, g_882_86, n86, g_882_87, n87, hr1, hcl, (by omega), (fun w => absurd w (by decide +kernel)), fr_882⟩⟩
          · subst z
            have nz : ¬ Int64.ofInt sb = 0 := by rcases szc2 with w | w; omega; exact fun e => w (e.trans (by decide +kernel))
            exact ik_Wret rfl rfl ⟨_, _, rfl, rfl, rfl, rfl, ⟨(-sb), (-wa), (((s1.set (0 : Int).toNat (-(s1.getD (0 : Int).toNat 0))).set (1 : Int).toNat (-((s1.set (0 : Int).toNat (-(s1.getD (0 : Int).toNat 0))).getD (1 : Int).toNat 0))).set (2 : Int).toNat (-(((s1.set (0 : Int).toNat (-(s1.getD (0 : Int).toNat 0))).set (1 : Int).toNat (-((s1.set (0 : Int).toNat (-(s1.getD (0 : Int).toNat 0))).getD (1 : Int).toNat 0))).getD (2 : Int).toNat 0))), (((t1.set (0 : Int).toNat (-(t1.getD (0 : Int).toNat 0))).set (1 : Int).toNat (-((t1.set (0 : Int).toNat (-(t1.getD (0 : Int).toNat 0))).getD (1 : Int).toNat 0))).set (2 : Int).toNat (-(((t1.set (0 : Int).toNat (-(t1.getD (0 : Int).toNat 0))).set (1 : Int).toNat (-((t1.set (0 : Int).toNat (-(t1.getD (0 : Int).toNat 0))).getD (1 : Int).toNat 0))).getD (2 : Int).toNat 0))), r1, c1, 1, rfl, g_882_66, g_882_84, hl13, g_882_85, hl14, g_882_86, n86, g_882_87, n87, hr1, hcl, (by omega), (fun _ => fj_neg0 nz), fr_882⟩⟩
    · refine ik_Wk 2 (pc_q := 75) (loc_q := [some (.ref 66), some (fI n), some (fI ((va : Nat) : Int)), some (fI ((vb : Nat) : Int)), some (fI sz), some (fI i), x6, x7, none]) (st_q := [.ref 66, .ref 66]) (h_q := u) (cl_q := 0) (sl_q := 0) rfl ?_
      refine fw_gf rfl rfl u66 rfl ?_
      refine ik_Wk 3 (pc_q := 82) (loc_q := [some (.ref 66), some (fI n), some (fI ((va : Nat) : Int)), some (fI ((vb : Nat) : Int)), some (fI sz), some (fI i), x6, x7, none]) (st_q := [fI i, fI 0, .ref 66, fJ wa, .ref 66]) (h_q := u) (cl_q := 0) (sl_q := 0) rfl ?_
      refine fw_call 174 3 0 [.ref 66, fI 0, fI i] [fJ wa, .ref 66] rfl rfl rfl (Nat.le_of_ble_eq_true rfl) rfl rfl (fw_rec ul (fw_ftx rfl (wv_c rfl (wv_c rfl wv_n)) (wl_c rfl (wl_c rfl (wl_c rfl (wl_c rfl (wl_c rfl (wl_c rfl (wl_c w6 (wl_c w7 (wl_c rfl wl_n)))))))))) u66 rfl (by decide +kernel)) (cr_fear (f := fun j => ((f 0 :: 0 :: 0 :: 0 :: f 4 :: 0 :: 0 :: f 7 :: f 8 :: 0 :: f 10 :: f 11 :: f 12 :: f 13 :: f 14 :: f 15 :: f 16 :: f 17 :: 0 :: 0 :: 0 :: 0 :: 0 :: 0 :: f 24 :: 0 :: 0 :: 0 :: 0 :: 0 :: 0 :: 0 :: sb :: wa :: 0 :: 0 :: f 36 :: 0 :: 0 :: 0 :: 0 :: 0 :: 0 :: []) : List Int).getD j 0) (fr := fr) (ro := r1) (cl := c1) (i := 0) (j := i) (by omega) (by omega) (by omega) (by omega) u66 u83 n83 u86 n86 u87 n87 ul) ?_
      rintro _ h_883 ⟨z_883, rfl, F_883⟩
      have k_883 : cL h_883 := F_883.1.trans ul
      have fr_883 := hfr_cb F F_883 rfl
      have g_883_66 := (hfr_g F_883 66 rfl).trans u66
      have g_883_83 := (hfr_g F_883 83 rfl).trans u83
      have g_883_84 := (hfr_g F_883 84 rfl).trans u84
      have g_883_85 := (hfr_g F_883 85 rfl).trans u85
      have g_883_86 := (hfr_g F_883 86 rfl).trans u86
      have g_883_87 := (hfr_g F_883 87 rfl).trans u87
      refine ik_Wk 0 (pc_q := 85) (loc_q := [some (.ref 66), some (fI n), some (fI ((va : Nat) : Int)), some (fI ((vb : Nat) : Int)), some (fI sz), some (fI i), x6, x7, none]) (st_q := [fJ z_883, fJ wa, .ref 66]) (h_q := h_883) (cl_q := 0) (sl_q := 0) rfl ?_
      refine ik_Wk 4 (pc_q := 91) (loc_q := [some (.ref 66), some (fI n), some (fI ((va : Nat) : Int)), some (fI ((vb : Nat) : Int)), some (fI sz), some (fI i), x6, x7, none]) (st_q := [fI i, fI 0, fI sz, .ref 66, fJ z_883, fJ wa, .ref 66]) (h_q := h_883) (cl_q := 0) (sl_q := 0) rfl ?_
      refine fw_call 175 4 0 [.ref 66, fI sz, fI 0, fI i] [fJ z_883, fJ wa, .ref 66] rfl rfl rfl (Nat.le_of_ble_eq_true rfl) rfl rfl (fw_rec k_883 (fw_ftx rfl (wv_c rfl (wv_c rfl (wv_c rfl wv_n))) (wl_c rfl (wl_c rfl (wl_c rfl (wl_c rfl (wl_c rfl (wl_c rfl (wl_c w6 (wl_c w7 (wl_c rfl wl_n)))))))))) g_883_66 rfl (by decide +kernel)) (cr_without (f := fun j => ((f 0 :: 0 :: 0 :: 0 :: f 4 :: 0 :: 0 :: f 7 :: f 8 :: 0 :: f 10 :: f 11 :: f 12 :: f 13 :: f 14 :: f 15 :: f 16 :: f 17 :: 0 :: 0 :: 0 :: 0 :: 0 :: 0 :: f 24 :: 0 :: 0 :: 0 :: 0 :: 0 :: 0 :: 0 :: sb :: wa :: 0 :: 0 :: f 36 :: 0 :: 0 :: 0 :: 0 :: 0 :: 0 :: []) : List Int).getD j 0) (fr := fr) (ro := r1) (cl := c1) (sz := sz) (i := 0) (j := i) (by omega) (by omega) (by omega) hr1 hcl g_883_66 g_883_83 n83 g_883_86 n86 g_883_87 n87 k_883) ?_
      rintro _ h_884 ⟨z_884, rfl, F_884⟩
      have k_884 : cL h_884 := F_884.1.trans k_883
      have fr_884 := hfr_cb fr_883 F_884 rfl
      have g_884_66 := (hfr_g F_884 66 rfl).trans g_883_66
      have g_884_83 := (hfr_g F_884 83 rfl).trans g_883_83
      have g_884_84 := (hfr_g F_884 84 rfl).trans g_883_84
      have g_884_85 := (hfr_g F_884 85 rfl).trans g_883_85
      have g_884_86 := (hfr_g F_884 86 rfl).trans g_883_86
      have g_884_87 := (hfr_g F_884 87 rfl).trans g_883_87
      refine ik_Wk 0 (pc_q := 94) (loc_q := [some (.ref 66), some (fI n), some (fI ((va : Nat) : Int)), some (fI ((vb : Nat) : Int)), some (fI sz), some (fI i), x6, x7, none]) (st_q := [fJ z_884, fJ z_883, fJ wa, .ref 66]) (h_q := h_884) (cl_q := 0) (sl_q := 0) rfl ?_
      refine fw_lmul rfl ?_
      refine fw_ladd rfl ?_
      refine fx_pf rfl rfl g_884_66 (Nat.le_of_ble_eq_true rfl) rfl rfl ?_
      intro h_885 e_885 f_885 l_885
      have k_885 : cL h_885 := l_885.trans k_884
      have fr_885 := hfr_wb fr_884 f_885 l_885 rfl
      clear l_885
      have g_885_83 := (f_885 83 (Nat.ne_of_beq_eq_false rfl)).trans g_884_83
      have g_885_84 := (f_885 84 (Nat.ne_of_beq_eq_false rfl)).trans g_884_84
      have g_885_85 := (f_885 85 (Nat.ne_of_beq_eq_false rfl)).trans g_884_85
      have g_885_86 := (f_885 86 (Nat.ne_of_beq_eq_false rfl)).trans g_884_86
      have g_885_87 := (f_885 87 (Nat.ne_of_beq_eq_false rfl)).trans g_884_87
      have g_885_66 : cE h_885 66 (.inr (10, (fI (f 0) :: .ref 67 :: .ref 68 :: .ref 69 :: fI (f 4) :: .ref 70 :: .ref 71 :: fI (f 7) :: fI (f 8) :: .ref 72 :: fI (f 10) :: fI (f 11) :: fI (f 12) :: fJ (f 13) :: fI (f 14) :: fI (f 15) :: fI (f 16) :: fI (f 17) :: .ref 73 :: .ref 74 :: .ref 75 :: .ref 76 :: .ref 77 :: .ref 78 :: fI (f 24) :: .ref 79 :: .ref 80 :: .ref 81 :: .ref 82 :: .ref 83 :: .ref 84 :: .ref 85 :: fJ sb :: fJ (wa + (z_883 * z_884)) :: .ref 86 :: .ref 87 :: fI (f 36) :: .ref 88 :: .ref 89 :: .ref 90 :: .ref 91 :: .ref 92 :: .ref 93 :: []))) := e_885
      refine ik_Wk 2 (pc_q := 102) (loc_q := [some (.ref 66), some (fI n), some (fI ((va : Nat) : Int)), some (fI ((vb : Nat) : Int)), some (fI sz), some (fI i), some (fI 0), x7, none]) (st_q := []) (h_q := h_885) (cl_q := 0) (sl_q := 0) rfl ?_
      refine cr_fitsJ (f := f) (n := n) (fr := fr) (so := so) (sw := sw) (ro := ro) (cl := cl) (va := va) (vb := vb) q0 q1 q2 q3 q4 sz hsz r1 c1 hr1 hcl i (by omega) (R := (fun rv h_q => ∃ (sb' : Int) (wa' : Int) (so' : List Int) (sw' : List Int) (ro' : List Int) (cl_q : List Int) (b : Int), rv = [fI b] ∧ cE h_q 66 (.inr (10, (fI (f 0) :: .ref 67 :: .ref 68 :: .ref 69 :: fI (f 4) :: .ref 70 :: .ref 71 :: fI (f 7) :: fI (f 8) :: .ref 72 :: fI (f 10) :: fI (f 11) :: fI (f 12) :: fJ (f 13) :: fI (f 14) :: fI (f 15) :: fI (f 16) :: fI (f 17) :: .ref 73 :: .ref 74 :: .ref 75 :: .ref 76 :: .ref 77 :: .ref 78 :: fI (f 24) :: .ref 79 :: .ref 80 :: .ref 81 :: .ref 82 :: .ref 83 :: .ref 84 :: .ref 85 :: fJ sb' :: fJ wa' :: .ref 86 :: .ref 87 :: fI (f 36) :: .ref 88 :: .ref 89 :: .ref 90 :: .ref 91 :: .ref 92 :: .ref 93 :: []))) ∧ cE h_q 84 (.inl (.long, fL so')) ∧ so'.length = 3 ∧ cE h_q 85 (.inl (.long, fL sw')) ∧ sw'.length = 3 ∧ cE h_q 86 (.inl (.int, fA ro')) ∧ ro'.length = 3 ∧ cE h_q 87 (.inl (.int, fA cl_q)) ∧ cl_q.length = 3 ∧ (∀ i : Int, 0 ≤ i → i < 3 → 0 ≤ ro'.getD i.toNat 0 ∧ ro'.getD i.toNat 0 ≤ 2) ∧ (∀ i : Int, 0 ≤ i → i < 3 → 0 ≤ cl_q.getD i.toNat 0 ∧ cl_q.getD i.toNat 0 ≤ 2) ∧ (0 ≤ b ∧ b ≤ 1) ∧ (b = 1 → ¬ Int64.ofInt sb' = 0) ∧ hfr [66, 84, 85, 86, 87] h h_q)) (fun h_886 j2_886 sb_886 wa_886 s1_886 t1_886 x7_886 g_886_66 g_886_83 m_886_83 g_886_84 m_886_84 g_886_85 m_886_85 g_886_86 m_886_86 g_886_87 m_886_87 k_886 fr_886 w7_886 => ?_) (sz.toNat + 1) 0 sb (wa + (z_883 * z_884)) s1 t1 x7 h_885 g_885_66 g_885_83 n83 g_885_84 n84 g_885_85 n85 g_885_86 n86 g_885_87 n87 k_885 fr_885 (by omega) w7 (by omega)
      refine fw_inc (a := i) (loc_q := [some (.ref 66), some (fI n), some (fI ((va : Nat) : Int)), some (fI ((vb : Nat) : Int)), some (fI sz), some (fI (i + 1)), some (fI j2_886), x7_886, none]) rfl rfl (Nat.le_of_ble_eq_true rfl) rfl ?_
      refine ik_Wk 1 (pc_q := 66) (loc_q := [some (.ref 66), some (fI n), some (fI ((va : Nat) : Int)), some (fI ((vb : Nat) : Int)), some (fI sz), some (fI (i + 1)), some (fI j2_886), x7_886, none]) (st_q := []) (h_q := h_886) (cl_q := 0) (sl_q := 0) rfl ?_
      exact ih  (i + 1) sb_886 wa_886 s1_886 t1_886 (some (fI j2_886)) x7_886 h_886 g_886_66 g_886_83 m_886_83 g_886_84 m_886_84 g_886_85 m_886_85 g_886_86 m_886_86 g_886_87 m_886_87 k_886 fr_886 (by omega) rfl w7_886 (by omega)

theorem cr_fits {h : List ik_E} {f : Nat → Int} {n : Int} {fr : List Int} {so : List Int} {sw : List Int} {ro : List Int} {cl : List Int} {va : Nat} {vb : Nat} (q0 : 1 ≤ n ∧ n ≤ 3) (q1 : va < 8) (q2 : vb < 8) (q3 : ∀ i : Int, (0 : Int) ≤ i → i < (3 : Int) → 0 ≤ ro.getD i.toNat 0 ∧ ro.getD i.toNat 0 ≤ 2) (q4 : ∀ i : Int, (0 : Int) ≤ i → i < (3 : Int) → 0 ≤ cl.getD i.toNat 0 ∧ cl.getD i.toNat 0 ≤ 2) (h66 : cE h 66 (.inr (10, (fI (f 0) :: .ref 67 :: .ref 68 :: .ref 69 :: fI (f 4) :: .ref 70 :: .ref 71 :: fI (f 7) :: fI (f 8) :: .ref 72 :: fI (f 10) :: fI (f 11) :: fI (f 12) :: fJ (f 13) :: fI (f 14) :: fI (f 15) :: fI (f 16) :: fI (f 17) :: .ref 73 :: .ref 74 :: .ref 75 :: .ref 76 :: .ref 77 :: .ref 78 :: fI (f 24) :: .ref 79 :: .ref 80 :: .ref 81 :: .ref 82 :: .ref 83 :: .ref 84 :: .ref 85 :: fJ (f 32) :: fJ (f 33) :: .ref 86 :: .ref 87 :: fI (f 36) :: .ref 88 :: .ref 89 :: .ref 90 :: .ref 91 :: .ref 92 :: .ref 93 :: [])))) (h83 : cE h 83 (.inl (.long, fL fr))) (n83 : fr.length = (9 : Nat)) (h84 : cE h 84 (.inl (.long, fL so))) (n84 : so.length = (3 : Nat)) (h85 : cE h 85 (.inl (.long, fL sw))) (n85 : sw.length = (3 : Nat)) (h86 : cE h 86 (.inl (.int, fA ro))) (n86 : ro.length = (3 : Nat)) (h87 : cE h 87 (.inl (.int, fA cl))) (n87 : cl.length = (3 : Nat)) (hl : h.length = (94 : Nat)) : ik_F 176 [.ref 66, fI n, fI ((va : Nat) : Int), fI ((vb : Nat) : Int)] h (fun rv h_q => ∃ (sb' : Int) (wa' : Int) (so' : List Int) (sw' : List Int) (ro' : List Int) (cl_q : List Int) (b : Int), rv = [fI b] ∧ cE h_q 66 (.inr (10, (fI (f 0) :: .ref 67 :: .ref 68 :: .ref 69 :: fI (f 4) :: .ref 70 :: .ref 71 :: fI (f 7) :: fI (f 8) :: .ref 72 :: fI (f 10) :: fI (f 11) :: fI (f 12) :: fJ (f 13) :: fI (f 14) :: fI (f 15) :: fI (f 16) :: fI (f 17) :: .ref 73 :: .ref 74 :: .ref 75 :: .ref 76 :: .ref 77 :: .ref 78 :: fI (f 24) :: .ref 79 :: .ref 80 :: .ref 81 :: .ref 82 :: .ref 83 :: .ref 84 :: .ref 85 :: fJ sb' :: fJ wa' :: .ref 86 :: .ref 87 :: fI (f 36) :: .ref 88 :: .ref 89 :: .ref 90 :: .ref 91 :: .ref 92 :: .ref 93 :: []))) ∧ cE h_q 84 (.inl (.long, fL so')) ∧ so'.length = (3 : Nat) ∧ cE h_q 85 (.inl (.long, fL sw')) ∧ sw'.length = (3 : Nat) ∧ cE h_q 86 (.inl (.int, fA ro')) ∧ ro'.length = (3 : Nat) ∧ cE h_q 87 (.inl (.int, fA cl_q)) ∧ cl_q.length = (3 : Nat) ∧ (∀ i : Int, (0 : Int) ≤ i → i < (3 : Int) → 0 ≤ ro'.getD i.toNat 0 ∧ ro'.getD i.toNat 0 ≤ 2) ∧ (∀ i : Int, (0 : Int) ≤ i → i < (3 : Int) → 0 ≤ cl_q.getD i.toNat 0 ∧ cl_q.getD i.toNat 0 ≤ 2) ∧ ((0 : Int) ≤ b ∧ b ≤ (1 : Int)) ∧ (b = 1 → ¬ Int64.ofInt sb' = 0) ∧ hfr [66, 84, 85, 86, 87] h h_q) := by
  refine ik_Wk 1 (pc_q := 1) (loc_q := [some (.ref 66), some (fI n), some (fI ((va : Nat) : Int)), some (fI ((vb : Nat) : Int)), none, none, none, none, none]) (st_q := [fI ((va : Nat) : Int)]) (h_q := h) (cl_q := 0) (sl_q := 0) rfl ?_
  refine fw_call 172 1 3 [fI ((va : Nat) : Int)] [] rfl rfl rfl (Nat.le_of_ble_eq_true rfl) rfl rfl (fw_sta hl rfl (by decide +kernel)) (cr_bits (v := va) (by omega)  hl) ?_
  rintro _ h_887 ⟨z_887, rfl, p_887_0, F_887⟩
  have k_887 : cL h_887 := F_887.1.trans hl
  have fr_887 := hfr_cb (hfr_refl [66, 84, 85, 86, 87] h) F_887 rfl
  have g_887_66 := (hfr_g F_887 66 rfl).trans h66
  have g_887_83 := (hfr_g F_887 83 rfl).trans h83
  have g_887_84 := (hfr_g F_887 84 rfl).trans h84
  have g_887_85 := (hfr_g F_887 85 rfl).trans h85
  have g_887_86 := (hfr_g F_887 86 rfl).trans h86
  have g_887_87 := (hfr_g F_887 87 rfl).trans h87
  refine ik_Wk 0 (pc_q := 4) (loc_q := [some (.ref 66), some (fI n), some (fI ((va : Nat) : Int)), some (fI ((vb : Nat) : Int)), none, none, none, none, none]) (st_q := [fI z_887]) (h_q := h_887) (cl_q := 0) (sl_q := 0) rfl ?_
  refine ik_Wk 2 (pc_q := 7) (loc_q := [some (.ref 66), some (fI n), some (fI ((va : Nat) : Int)), some (fI ((vb : Nat) : Int)), some (fI z_887), none, none, none, none]) (st_q := [.ref 66]) (h_q := h_887) (cl_q := 0) (sl_q := 0) rfl ?_
  refine fw_gf rfl rfl g_887_66 rfl ?_
  refine ik_Wk 1 (pc_q := 11) (loc_q := [some (.ref 66), some (fI n), some (fI ((va : Nat) : Int)), some (fI ((vb : Nat) : Int)), some (fI z_887), none, none, none, none]) (st_q := [fI ((va : Nat) : Int), .ref 86]) (h_q := h_887) (cl_q := 0) (sl_q := 0) rfl ?_
  refine fw_call 173 2 3 [.ref 86, fI ((va : Nat) : Int)] [] rfl rfl rfl (Nat.le_of_ble_eq_true rfl) rfl rfl (fw_sta k_887 rfl (by decide +kernel)) (cr_list86 (v := va) (ro := ro) (by omega) q3 g_887_86 n86 k_887) ?_
  rintro _ h_888 ⟨ro'_888, rfl, e_888_86, m_888_86, p_888_0, F_888⟩
  have k_888 : cL h_888 := F_888.1.trans k_887
  have fr_888 := hfr_cb fr_887 F_888 rfl
  have g_888_66 := (hfr_g F_888 66 rfl).trans g_887_66
  have g_888_83 := (hfr_g F_888 83 rfl).trans g_887_83
  have g_888_84 := (hfr_g F_888 84 rfl).trans g_887_84
  have g_888_85 := (hfr_g F_888 85 rfl).trans g_887_85
  have g_888_87 := (hfr_g F_888 87 rfl).trans g_887_87
  have g_888_86 : cE h_888 86 (.inl (.int, fA ro'_888)) := e_888_86
  refine ik_Wk 0 (pc_q := 14) (loc_q := [some (.ref 66), some (fI n), some (fI ((va : Nat) : Int)), some (fI ((vb : Nat) : Int)), some (fI z_887), none, none, none, none]) (st_q := []) (h_q := h_888) (cl_q := 0) (sl_q := 0) rfl ?_
  refine ik_Wk 1 (pc_q := 15) (loc_q := [some (.ref 66), some (fI n), some (fI ((va : Nat) : Int)), some (fI ((vb : Nat) : Int)), some (fI z_887), none, none, none, none]) (st_q := [.ref 66]) (h_q := h_888) (cl_q := 0) (sl_q := 0) rfl ?_
  refine fw_gf rfl rfl g_888_66 rfl ?_
  refine ik_Wk 1 (pc_q := 19) (loc_q := [some (.ref 66), some (fI n), some (fI ((va : Nat) : Int)), some (fI ((vb : Nat) : Int)), some (fI z_887), none, none, none, none]) (st_q := [fI ((vb : Nat) : Int), .ref 87]) (h_q := h_888) (cl_q := 0) (sl_q := 0) rfl ?_
  refine fw_call 173 2 3 [.ref 87, fI ((vb : Nat) : Int)] [] rfl rfl rfl (Nat.le_of_ble_eq_true rfl) rfl rfl (fw_sta k_888 rfl (by decide +kernel)) (cr_list87 (v := vb) (ro := cl) (by omega) q4 g_888_87 n87 k_888) ?_
  rintro _ h_889 ⟨ro'_889, rfl, e_889_87, m_889_87, p_889_0, F_889⟩
  have k_889 : cL h_889 := F_889.1.trans k_888
  have fr_889 := hfr_cb fr_888 F_889 rfl
  have g_889_66 := (hfr_g F_889 66 rfl).trans g_888_66
  have g_889_83 := (hfr_g F_889 83 rfl).trans g_888_83
  have g_889_84 := (hfr_g F_889 84 rfl).trans g_888_84
  have g_889_85 := (hfr_g F_889 85 rfl).trans g_888_85
  have g_889_86 := (hfr_g F_889 86 rfl).trans g_888_86
  have g_889_87 : cE h_889 87 (.inl (.int, fA ro'_889)) := e_889_87
  refine ik_Wk 0 (pc_q := 22) (loc_q := [some (.ref 66), some (fI n), some (fI ((va : Nat) : Int)), some (fI ((vb : Nat) : Int)), some (fI z_887), none, none, none, none]) (st_q := []) (h_q := h_889) (cl_q := 0) (sl_q := 0) rfl ?_
  refine ik_Wk 1 (pc_q := 23) (loc_q := [some (.ref 66), some (fI n), some (fI ((va : Nat) : Int)), some (fI ((vb : Nat) : Int)), some (fI z_887), none, none, none, none]) (st_q := [.ref 66]) (h_q := h_889) (cl_q := 0) (sl_q := 0) rfl ?_
  refine fw_lc (z := 0) rfl (by decide +kernel) ?_
  refine fx_pf rfl rfl g_889_66 (Nat.le_of_ble_eq_true rfl) rfl rfl ?_
  intro h_890 e_890 f_890 l_890
  have k_890 : cL h_890 := l_890.trans k_889
  have fr_890 := hfr_wb fr_889 f_890 l_890 rfl
  clear l_890
  have g_890_83 := (f_890 83 (Nat.ne_of_beq_eq_false rfl)).trans g_889_83
  have g_890_84 := (f_890 84 (Nat.ne_of_beq_eq_false rfl)).trans g_889_84
  have g_890_85 := (f_890 85 (Nat.ne_of_beq_eq_false rfl)).trans g_889_85
  have g_890_86 := (f_890 86 (Nat.ne_of_beq_eq_false rfl)).trans g_889_86
  have g_890_87 := (f_890 87 (Nat.ne_of_beq_eq_false rfl)).trans g_889_87
  have g_890_66 : cE h_890 66 (.inr (10, (fI (f 0) :: .ref 67 :: .ref 68 :: .ref 69 :: fI (f 4) :: .ref 70 :: .ref 71 :: fI (f 7) :: fI (f 8) :: .ref 72 :: fI (f 10) :: fI (f 11) :: fI (f 12) :: fJ (f 13) :: fI (f 14) :: fI (f 15) :: fI (f 16) :: fI (f 17) :: .ref 73 :: .ref 74 :: .ref 75 :: .ref 76 :: .ref 77 :: .ref 78 :: fI (f 24) :: .ref 79 :: .ref 80 :: .ref 81 :: .ref 82 :: .ref 83 :: .ref 84 :: .ref 85 :: fJ 0 :: fJ (f 33) :: .ref 86 :: .ref 87 :: fI (f 36) :: .ref 88 :: .ref 89 :: .ref 90 :: .ref 91 :: .ref 92 :: .ref 93 :: []))) := e_890
  refine ik_Wk 1 (pc_q := 28) (loc_q := [some (.ref 66), some (fI n), some (fI ((va : Nat) : Int)), some (fI ((vb : Nat) : Int)), some (fI z_887), none, none, none, none]) (st_q := [.ref 66]) (h_q := h_890) (cl_q := 0) (sl_q := 0) rfl ?_
  refine fw_lc (z := 0) rfl (by decide +kernel) ?_
  refine fx_pf rfl rfl g_890_66 (Nat.le_of_ble_eq_true rfl) rfl rfl ?_
  intro h_891 e_891 f_891 l_891
  have k_891 : cL h_891 := l_891.trans k_890
  have fr_891 := hfr_wb fr_890 f_891 l_891 rfl
  clear l_891
  have g_891_83 := (f_891 83 (Nat.ne_of_beq_eq_false rfl)).trans g_890_83
  have g_891_84 := (f_891 84 (Nat.ne_of_beq_eq_false rfl)).trans g_890_84
  have g_891_85 := (f_891 85 (Nat.ne_of_beq_eq_false rfl)).trans g_890_85
  have g_891_86 := (f_891 86 (Nat.ne_of_beq_eq_false rfl)).trans g_890_86
  have g_891_87 := (f_891 87 (Nat.ne_of_beq_eq_false rfl)).trans g_890_87
  have g_891_66 : cE h_891 66 (.inr (10, (fI (f 0) :: .ref 67 :: .ref 68 :: .ref 69 :: fI (f 4) :: .ref 70 :: .ref 71 :: fI (f 7) :: fI (f 8) :: .ref 72 :: fI (f 10) :: fI (f 11) :: fI (f 12) :: fJ (f 13) :: fI (f 14) :: fI (f 15) :: fI (f 16) :: fI (f 17) :: .ref 73 :: .ref 74 :: .ref 75 :: .ref 76 :: .ref 77 :: .ref 78 :: fI (f 24) :: .ref 79 :: .ref 80 :: .ref 81 :: .ref 82 :: .ref 83 :: .ref 84 :: .ref 85 :: fJ 0 :: fJ 0 :: .ref 86 :: .ref 87 :: fI (f 36) :: .ref 88 :: .ref 89 :: .ref 90 :: .ref 91 :: .ref 92 :: .ref 93 :: []))) := e_891
  refine ik_Wk 4 (pc_q := 38) (loc_q := [some (.ref 66), some (fI n), some (fI ((va : Nat) : Int)), some (fI ((vb : Nat) : Int)), some (fI z_887), some (fI 0), none, none, none]) (st_q := [fI 3, fI 0]) (h_q := h_891) (cl_q := 0) (sl_q := 0) rfl ?_
  refine fw_ic_ge rfl rfl (by decide +kernel) (by decide +kernel) (by decide +kernel) (by decide +kernel) (fun hc1 => absurd hc1 (by decide +kernel)) (fun hc1 => ?_)
  refine ik_Wk 1 (pc_q := 42) (loc_q := [some (.ref 66), some (fI n), some (fI ((va : Nat) : Int)), some (fI ((vb : Nat) : Int)), some (fI z_887), some (fI 0), none, none, none]) (st_q := [.ref 66]) (h_q := h_891) (cl_q := 0) (sl_q := 0) rfl ?_
  refine fw_gf rfl rfl g_891_66 rfl ?_
  refine ik_Wk 1 (pc_q := 47) (loc_q := [some (.ref 66), some (fI n), some (fI ((va : Nat) : Int)), some (fI ((vb : Nat) : Int)), some (fI z_887), some (fI 0), none, none, none]) (st_q := [fI 0, .ref 84]) (h_q := h_891) (cl_q := 0) (sl_q := 0) rfl ?_
  refine fw_lc (z := 0) rfl (by decide +kernel) ?_
  have hl2 : (so.set (0 : Int).toNat 0).length = 3 := (List.length_set ..).trans n84
  refine fx_las rfl g_891_84 (by omega) (by omega) (by omega) ?_
  intro h_892 e_892 f_892 l_892
  have k_892 : cL h_892 := l_892.trans k_891
  have fr_892 := hfr_wb fr_891 f_892 l_892 rfl
  clear l_892
  have g_892_66 := (f_892 66 (Nat.ne_of_beq_eq_false rfl)).trans g_891_66
  have g_892_83 := (f_892 83 (Nat.ne_of_beq_eq_false rfl)).trans g_891_83
  have g_892_85 := (f_892 85 (Nat.ne_of_beq_eq_false rfl)).trans g_891_85
  have g_892_86 := (f_892 86 (Nat.ne_of_beq_eq_false rfl)).trans g_891_86
  have g_892_87 := (f_892 87 (Nat.ne_of_beq_eq_false rfl)).trans g_891_87
  have g_892_84 : cE h_892 84 (.inl (.long, fL (so.set (0 : Int).toNat 0))) := e_892
  refine ik_Wk 1 (pc_q := 50) (loc_q := [some (.ref 66), some (fI n), some (fI ((va : Nat) : Int)), some (fI ((vb : Nat) : Int)), some (fI z_887), some (fI 0), none, none, none]) (st_q := [.ref 66]) (h_q := h_892) (cl_q := 0) (sl_q := 0) rfl ?_
  refine fw_gf rfl rfl g_892_66 rfl ?_
  refine ik_Wk 1 (pc_q := 55) (loc_q := [some (.ref 66), some (fI n), some (fI ((va : Nat) : Int)), some (fI ((vb : Nat) : Int)), some (fI z_887), some (fI 0), none, none, none]) (st_q := [fI 0, .ref 85]) (h_q := h_892) (cl_q := 0) (sl_q := 0) rfl ?_
  refine fw_lc (z := 0) rfl (by decide +kernel) ?_
  have hl3 : (sw.set (0 : Int).toNat 0).length = 3 := (List.length_set ..).trans n85
  refine fx_las rfl g_892_85 (by omega) (by omega) (by omega) ?_
  intro h_893 e_893 f_893 l_893
  have k_893 : cL h_893 := l_893.trans k_892
  have fr_893 := hfr_wb fr_892 f_893 l_893 rfl
  clear l_893
  have g_893_66 := (f_893 66 (Nat.ne_of_beq_eq_false rfl)).trans g_892_66
  have g_893_83 := (f_893 83 (Nat.ne_of_beq_eq_false rfl)).trans g_892_83
  have g_893_84 := (f_893 84 (Nat.ne_of_beq_eq_false rfl)).trans g_892_84
  have g_893_86 := (f_893 86 (Nat.ne_of_beq_eq_false rfl)).trans g_892_86
  have g_893_87 := (f_893 87 (Nat.ne_of_beq_eq_false rfl)).trans g_892_87
  have g_893_85 : cE h_893 85 (.inl (.long, fL (sw.set (0 : Int).toNat 0))) := e_893
  refine fw_inc (a := 0) (loc_q := [some (.ref 66), some (fI n), some (fI ((va : Nat) : Int)), some (fI ((vb : Nat) : Int)), some (fI z_887), some (fI 1), none, none, none]) rfl rfl (Nat.le_of_ble_eq_true rfl) rfl ?_
  refine ik_Wk 3 (pc_q := 38) (loc_q := [some (.ref 66), some (fI n), some (fI ((va : Nat) : Int)), some (fI ((vb : Nat) : Int)), some (fI z_887), some (fI 1), none, none, none]) (st_q := [fI 3, fI 1]) (h_q := h_893) (cl_q := 0) (sl_q := 0) rfl ?_
  refine fw_ic_ge rfl rfl (by decide +kernel) (by decide +kernel) (by decide +kernel) (by decide +kernel) (fun hc4 => absurd hc4 (by decide +kernel)) (fun hc4 => ?_)
  refine ik_Wk 1 (pc_q := 42) (loc_q := [some (.ref 66), some (fI n), some (fI ((va : Nat) : Int)), some (fI ((vb : Nat) : Int)), some (fI z_887), some (fI 1), none, none, none]) (st_q := [.ref 66]) (h_q := h_893) (cl_q := 0) (sl_q := 0) rfl ?_
  refine fw_gf rfl rfl g_893_66 rfl ?_
  refine ik_Wk 1 (pc_q := 47) (loc_q := [some (.ref 66), some (fI n), some (fI ((va : Nat) : Int)), some (fI ((vb : Nat) : Int)), some (fI z_887), some (fI 1), none, none, none]) (st_q := [fI 1, .ref 84]) (h_q := h_893) (cl_q := 0) (sl_q := 0) rfl ?_
  refine fw_lc (z := 0) rfl (by decide +kernel) ?_
  have hl5 : ((so.set (0 : Int).toNat 0).set (1 : Int).toNat 0).length = 3 := (List.length_set ..).trans hl2
  refine fx_las rfl g_893_84 (by omega) (by omega) (by omega) ?_
  intro h_894 e_894 f_894 l_894
  have k_894 : cL h_894 := l_894.trans k_893
  have fr_894 := hfr_wb fr_893 f_894 l_894 rfl
  clear l_894
  have g_894_66 := (f_894 66 (Nat.ne_of_beq_eq_false rfl)).trans g_893_66
  have g_894_83 := (f_894 83 (Nat.ne_of_beq_eq_false rfl)).trans g_893_83
  have g_894_85 := (f_894 85 (Nat.ne_of_beq_eq_false rfl)).trans g_893_85
  have g_894_86 := (f_894 86 (Nat.ne_of_beq_eq_false rfl)).trans g_893_86
  have g_894_87 := (f_894 87 (Nat.ne_of_beq_eq_false rfl)).trans g_893_87
  have g_894_84 : cE h_894 84 (.inl (.long, fL ((so.set (0 : Int).toNat 0).set (1 : Int).toNat 0))) := e_894
  refine ik_Wk 1 (pc_q := 50) (loc_q := [some (.ref 66), some (fI n), some (fI ((va : Nat) : Int)), some (fI ((vb : Nat) : Int)), some (fI z_887), some (fI 1), none, none, none]) (st_q := [.ref 66]) (h_q := h_894) (cl_q := 0) (sl_q := 0) rfl ?_
  refine fw_gf rfl rfl g_894_66 rfl ?_
  refine ik_Wk 1 (pc_q := 55) (loc_q := [some (.ref 66), some (fI n), some (fI ((va : Nat) : Int)), some (fI ((vb : Nat) : Int)), some (fI z_887), some (fI 1), none, none, none]) (st_q := [fI 1, .ref 85]) (h_q := h_894) (cl_q := 0) (sl_q := 0) rfl ?_
  refine fw_lc (z := 0) rfl (by decide +kernel) ?_
  have hl6 : ((sw.set (0 : Int).toNat 0).set (1 : Int).toNat 0).length = 3 := (List.length_set ..).trans hl3
  refine fx_las rfl g_894_85 (by omega) (by omega) (by omega) ?_
  intro h_895 e_895 f_895 l_895
  have k_895 : cL h_895 := l_895.trans k_894
  have fr_895 := hfr_wb fr_894 f_895 l_895 rfl
  clear l_895
  have g_895_66 := (f_895 66 (Nat.ne_of_beq_eq_false rfl)).trans g_894_66
  have g_895_83 := (f_895 83 (Nat.ne_of_beq_eq_false rfl)).trans g_894_83
  have g_895_84 := (f_895 84 (Nat.ne_of_beq_eq_false rfl)).trans g_894_84
  have g_895_86 := (f_895 86 (Nat.ne_of_beq_eq_false rfl)).trans g_894_86
  have g_895_87 := (f_895 87 (Nat.ne_of_beq_eq_false rfl)).trans g_894_87
  have g_895_85 : cE h_895 85 (.inl (.long, fL ((sw.set (0 : Int).toNat 0).set (1 : Int).toNat 0))) := e_895
  refine fw_inc (a := 1) (loc_q := [some (.ref 66), some (fI n), some (fI ((va : Nat) : Int)), some (fI ((vb : Nat) : Int)), some (fI z_887), some (fI 2), none, none, none]) rfl rfl (Nat.le_of_ble_eq_true rfl) rfl ?_
  refine ik_Wk 3 (pc_q := 38) (loc_q := [some (.ref 66), some (fI n), some (fI ((va : Nat) : Int)), some (fI ((vb : Nat) : Int)), some (fI z_887), some (fI 2), none, none, none]) (st_q := [fI 3, fI 2]) (h_q := h_895) (cl_q := 0) (sl_q := 0) rfl ?_
  refine fw_ic_ge rfl rfl (by decide +kernel) (by decide +kernel) (by decide +kernel) (by decide +kernel) (fun hc7 => absurd hc7 (by decide +kernel)) (fun hc7 => ?_)
  refine ik_Wk 1 (pc_q := 42) (loc_q := [some (.ref 66), some (fI n), some (fI ((va : Nat) : Int)), some (fI ((vb : Nat) : Int)), some (fI z_887), some (fI 2), none, none, none]) (st_q := [.ref 66]) (h_q := h_895) (cl_q := 0) (sl_q := 0) rfl ?_
  refine fw_gf rfl rfl g_895_66 rfl ?_
  refine ik_Wk 1 (pc_q := 47) (loc_q := [some (.ref 66), some (fI n), some (fI ((va : Nat) : Int)), some (fI ((vb : Nat) : Int)), some (fI z_887), some (fI 2), none, none, none]) (st_q := [fI 2, .ref 84]) (h_q := h_895) (cl_q := 0) (sl_q := 0) rfl ?_
  refine fw_lc (z := 0) rfl (by decide +kernel) ?_
  have hl8 : (((so.set (0 : Int).toNat 0).set (1 : Int).toNat 0).set (2 : Int).toNat 0).length = 3 := (List.length_set ..).trans hl5
  refine fx_las rfl g_895_84 (by omega) (by omega) (by omega) ?_
  intro h_896 e_896 f_896 l_896
  have k_896 : cL h_896 := l_896.trans k_895
  have fr_896 := hfr_wb fr_895 f_896 l_896 rfl
  clear l_896
  have g_896_66 := (f_896 66 (Nat.ne_of_beq_eq_false rfl)).trans g_895_66
  have g_896_83 := (f_896 83 (Nat.ne_of_beq_eq_false rfl)).trans g_895_83
  have g_896_85 := (f_896 85 (Nat.ne_of_beq_eq_false rfl)).trans g_895_85
  have g_896_86 := (f_896 86 (Nat.ne_of_beq_eq_false rfl)).trans g_895_86
  have g_896_87 := (f_896 87 (Nat.ne_of_beq_eq_false rfl)).trans g_895_87
  have g_896_84 : cE h_896 84 (.inl (.long, fL (((so.set (0 : Int).toNat 0).set (1 : Int).toNat 0).set (2 : Int).toNat 0))) := e_896
  refine ik_Wk 1 (pc_q := 50) (loc_q := [some (.ref 66), some (fI n), some (fI ((va : Nat) : Int)), some (fI ((vb : Nat) : Int)), some (fI z_887), some (fI 2), none, none, none]) (st_q := [.ref 66]) (h_q := h_896) (cl_q := 0) (sl_q := 0) rfl ?_
  refine fw_gf rfl rfl g_896_66 rfl ?_
  refine ik_Wk 1 (pc_q := 55) (loc_q := [some (.ref 66), some (fI n), some (fI ((va : Nat) : Int)), some (fI ((vb : Nat) : Int)), some (fI z_887), some (fI 2), none, none, none]) (st_q := [fI 2, .ref 85]) (h_q := h_896) (cl_q := 0) (sl_q := 0) rfl ?_
  refine fw_lc (z := 0) rfl (by decide +kernel) ?_
  have hl9 : (((sw.set (0 : Int).toNat 0).set (1 : Int).toNat 0).set (2 : Int).toNat 0).length = 3 := (List.length_set ..).trans hl6
  refine fx_las rfl g_896_85 (by omega) (by omega) (by omega) ?_
  intro h_897 e_897 f_897 l_897
  have k_897 : cL h_897 := l_897.trans k_896
  have fr_897 := hfr_wb fr_896 f_897 l_897 rfl
  clear l_897
  have g_897_66 := (f_897 66 (Nat.ne_of_beq_eq_false rfl)).trans g_896_66
  have g_897_83 := (f_897 83 (Nat.ne_of_beq_eq_false rfl)).trans g_896_83
  have g_897_84 := (f_897 84 (Nat.ne_of_beq_eq_false rfl)).trans g_896_84
  have g_897_86 := (f_897 86 (Nat.ne_of_beq_eq_false rfl)).trans g_896_86
  have g_897_87 := (f_897 87 (Nat.ne_of_beq_eq_false rfl)).trans g_896_87
  have g_897_85 : cE h_897 85 (.inl (.long, fL (((sw.set (0 : Int).toNat 0).set (1 : Int).toNat 0).set (2 : Int).toNat 0))) := e_897
  refine fw_inc (a := 2) (loc_q := [some (.ref 66), some (fI n), some (fI ((va : Nat) : Int)), some (fI ((vb : Nat) : Int)), some (fI z_887), some (fI 3), none, none, none]) rfl rfl (Nat.le_of_ble_eq_true rfl) rfl ?_
  refine ik_Wk 3 (pc_q := 38) (loc_q := [some (.ref 66), some (fI n), some (fI ((va : Nat) : Int)), some (fI ((vb : Nat) : Int)), some (fI z_887), some (fI 3), none, none, none]) (st_q := [fI 3, fI 3]) (h_q := h_897) (cl_q := 0) (sl_q := 0) rfl ?_
  refine fw_ic_ge rfl rfl (by decide +kernel) (by decide +kernel) (by decide +kernel) (by decide +kernel) (fun hc10 => ?_) (fun hc10 => absurd hc10 (by decide +kernel))
  refine ik_Wk 2 (pc_q := 66) (loc_q := [some (.ref 66), some (fI n), some (fI ((va : Nat) : Int)), some (fI ((vb : Nat) : Int)), some (fI z_887), some (fI 0), none, none, none]) (st_q := []) (h_q := h_897) (cl_q := 0) (sl_q := 0) rfl ?_
  exact cr_fitsI (f := f) (n := n) (fr := fr) (so := so) (sw := sw) (ro := ro) (cl := cl) (va := va) (vb := vb) q0 q1 q2 q3 q4 z_887 (by omega) ro'_888 ro'_889 p_888_0 p_889_0 4 0 0 0 (((so.set (0 : Int).toNat 0).set (1 : Int).toNat 0).set (2 : Int).toNat 0) (((sw.set (0 : Int).toNat 0).set (1 : Int).toNat 0).set (2 : Int).toNat 0) none none h_897 g_897_66 g_897_83 n83 g_897_84 hl8 g_897_85 hl9 g_897_86 m_888_86 g_897_87 m_889_87 k_897 fr_897 (by omega) rfl rfl (by omega)

theorem cr_findMixedB {h : List ik_E} {f : Nat → Int} {n : Int} {fr : List Int} {so : List Int} {sw : List Int} {ro : List Int} {cl : List Int} (q0 : 1 ≤ n ∧ n ≤ 3) (q1 : ∀ i : Int, (0 : Int) ≤ i → i < (3 : Int) → 0 ≤ ro.getD i.toNat 0 ∧ ro.getD i.toNat 0 ≤ 2) (q2 : ∀ i : Int, (0 : Int) ≤ i → i < (3 : Int) → 0 ≤ cl.getD i.toNat 0 ∧ cl.getD i.toNat 0 ≤ 2) (sz : Int) (hs : (1 : Int) ≤ sz ∧ sz ≤ (3 : Int)) (va : Nat) (ha : 1 ≤ va ∧ va < 8)  (K : ∀ (w : List ik_E) (vb2 : Nat) (sb : Int) (wa : Int) (s1 : List Int) (t1 : List Int) (r1 : List Int) (c1 : List Int) (w66 : cE w 66 (.inr (10, (fI (f 0) :: .ref 67 :: .ref 68 :: .ref 69 :: fI (f 4) :: .ref 70 :: .ref 71 :: fI (f 7) :: fI (f 8) :: .ref 72 :: fI (f 10) :: fI (f 11) :: fI (f 12) :: fJ (f 13) :: fI (f 14) :: fI (f 15) :: fI (f 16) :: fI (f 17) :: .ref 73 :: .ref 74 :: .ref 75 :: .ref 76 :: .ref 77 :: .ref 78 :: fI (f 24) :: .ref 79 :: .ref 80 :: .ref 81 :: .ref 82 :: .ref 83 :: .ref 84 :: .ref 85 :: fJ sb :: fJ wa :: .ref 86 :: .ref 87 :: fI (f 36) :: .ref 88 :: .ref 89 :: .ref 90 :: .ref 91 :: .ref 92 :: .ref 93 :: [])))) (w83 : cE w 83 (.inl (.long, fL fr))) (nw_83 : fr.length = (9 : Nat)) (w84 : cE w 84 (.inl (.long, fL s1))) (nw_84 : s1.length = (3 : Nat)) (w85 : cE w 85 (.inl (.long, fL t1))) (nw_85 : t1.length = (3 : Nat)) (w86 : cE w 86 (.inl (.int, fA r1))) (nw_86 : r1.length = (3 : Nat)) (w87 : cE w 87 (.inl (.int, fA c1))) (nw_87 : c1.length = (3 : Nat)) (wl : w.length = (94 : Nat)) (F : hfr [66, 84, 85, 86, 87] h w) (hr1 : ∀ i : Int, (0 : Int) ≤ i → i < (3 : Int) → 0 ≤ r1.getD i.toNat 0 ∧ r1.getD i.toNat 0 ≤ 2) (hcl : ∀ i : Int, (0 : Int) ≤ i → i < (3 : Int) → 0 ≤ c1.getD i.toNat 0 ∧ c1.getD i.toNat 0 ≤ 2), ik_G 179 63 [some (.ref 66), some (fI n), some (fI sz), some (fI ((va : Nat) : Int)), some (fI ((vb2 : Nat) : Int))] [] w (fun rv h_q => ∃ (sb' : Int) (wa' : Int) (so' : List Int) (sw' : List Int) (ro' : List Int) (cl_q : List Int) (b : Int), rv = [fI b] ∧ cE h_q 66 (.inr (10, (fI (f 0) :: .ref 67 :: .ref 68 :: .ref 69 :: fI (f 4) :: .ref 70 :: .ref 71 :: fI (f 7) :: fI (f 8) :: .ref 72 :: fI (f 10) :: fI (f 11) :: fI (f 12) :: fJ (f 13) :: fI (f 14) :: fI (f 15) :: fI (f 16) :: fI (f 17) :: .ref 73 :: .ref 74 :: .ref 75 :: .ref 76 :: .ref 77 :: .ref 78 :: fI (f 24) :: .ref 79 :: .ref 80 :: .ref 81 :: .ref 82 :: .ref 83 :: .ref 84 :: .ref 85 :: fJ sb' :: fJ wa' :: .ref 86 :: .ref 87 :: fI (f 36) :: .ref 88 :: .ref 89 :: .ref 90 :: .ref 91 :: .ref 92 :: .ref 93 :: []))) ∧ cE h_q 84 (.inl (.long, fL so')) ∧ so'.length = (3 : Nat) ∧ cE h_q 85 (.inl (.long, fL sw')) ∧ sw'.length = (3 : Nat) ∧ cE h_q 86 (.inl (.int, fA ro')) ∧ ro'.length = (3 : Nat) ∧ cE h_q 87 (.inl (.int, fA cl_q)) ∧ cl_q.length = (3 : Nat) ∧ (∀ i : Int, (0 : Int) ≤ i → i < (3 : Int) → 0 ≤ ro'.getD i.toNat 0 ∧ ro'.getD i.toNat 0 ≤ 2) ∧ (∀ i : Int, (0 : Int) ≤ i → i < (3 : Int) → 0 ≤ cl_q.getD i.toNat 0 ∧ cl_q.getD i.toNat 0 ≤ 2) ∧ ((0 : Int) ≤ b ∧ b ≤ (1 : Int)) ∧ (b = 1 → ¬ Int64.ofInt sb' = 0) ∧ hfr [66, 84, 85, 86, 87] h h_q)) : ∀ (k : Nat) (vb : Nat) (sb : Int) (wa : Int) (s1 : List Int) (t1 : List Int) (r1 : List Int) (c1 : List Int) (u : List ik_E) (u66 : cE u 66 (.inr (10, (fI (f 0) :: .ref 67 :: .ref 68 :: .ref 69 :: fI (f 4) :: .ref 70 :: .ref 71 :: fI (f 7) :: fI (f 8) :: .ref 72 :: fI (f 10) :: fI (f 11) :: fI (f 12) :: fJ (f 13) :: fI (f 14) :: fI (f 15) :: fI (f 16) :: fI (f 17) :: .ref 73 :: .ref 74 :: .ref 75 :: .ref 76 :: .ref 77 :: .ref 78 :: fI (f 24) :: .ref 79 :: .ref 80 :: .ref 81 :: .ref 82 :: .ref 83 :: .ref 84 :: .ref 85 :: fJ sb :: fJ wa :: .ref 86 :: .ref 87 :: fI (f 36) :: .ref 88 :: .ref 89 :: .ref 90 :: .ref 91 :: .ref 92 :: .ref 93 :: [])))) (u83 : cE u 83 (.inl (.long, fL fr))) (n83 : fr.length = (9 : Nat)) (u84 : cE u 84 (.inl (.long, fL s1))) (n84 : s1.length = (3 : Nat)) (u85 : cE u 85 (.inl (.long, fL t1))) (n85 : t1.length = (3 : Nat)) (u86 : cE u 86 (.inl (.int, fA r1))) (n86 : r1.length = (3 : Nat)) (u87 : cE u 87 (.inl (.int, fA c1))) (n87 : c1.length = (3 : Nat)) (ul : u.length = (94 : Nat)) (F : hfr [66, 84, 85, 86, 87] h u) (hb : 1 ≤ vb ∧ vb ≤ 8) (hr1 : ∀ i : Int, (0 : Int) ≤ i → i < (3 : Int) → 0 ≤ r1.getD i.toNat 0 ∧ r1.getD i.toNat 0 ≤ 2) (hcl : ∀ i : Int, (0 : Int) ≤ i → i < (3 : Int) → 0 ≤ c1.getD i.toNat 0 ∧ c1.getD i.toNat 0 ≤ 2) (hk : 8 - (vb : Int) < (k : Int)), ik_G 179 19 [some (.ref 66), some (fI n), some (fI sz), some (fI ((va : Nat) : Int)), some (fI ((vb : Nat) : Int))] [] u (fun rv h_q => ∃ (sb' : Int) (wa' : Int) (so' : List Int) (sw' : List Int) (ro' : List Int) (cl_q : List Int) (b : Int), rv = [fI b] ∧ cE h_q 66 (.inr (10, (fI (f 0) :: .ref 67 :: .ref 68 :: .ref 69 :: fI (f 4) :: .ref 70 :: .ref 71 :: fI (f 7) :: fI (f 8) :: .ref 72 :: fI (f 10) :: fI (f 11) :: fI (f 12) :: fJ (f 13) :: fI (f 14) :: fI (f 15) :: fI (f 16) :: fI (f 17) :: .ref 73 :: .ref 74 :: .ref 75 :: .ref 76 :: .ref 77 :: .ref 78 :: fI (f 24) :: .ref 79 :: .ref 80 :: .ref 81 :: .ref 82 :: .ref 83 :: .ref 84 :: .ref 85 :: fJ sb' :: fJ wa' :: .ref 86 :: .ref 87 :: fI (f 36) :: .ref 88 :: .ref 89 :: .ref 90 :: .ref 91 :: .ref 92 :: .ref 93 :: []))) ∧ cE h_q 84 (.inl (.long, fL so')) ∧ so'.length = (3 : Nat) ∧ cE h_q 85 (.inl (.long, fL sw')) ∧ sw'.length = (3 : Nat) ∧ cE h_q 86 (.inl (.int, fA ro')) ∧ ro'.length = (3 : Nat) ∧ cE h_q 87 (.inl (.int, fA cl_q)) ∧ cl_q.length = (3 : Nat) ∧ (∀ i : Int, (0 : Int) ≤ i → i < (3 : Int) → 0 ≤ ro'.getD i.toNat 0 ∧ ro'.getD i.toNat 0 ≤ 2) ∧ (∀ i : Int, (0 : Int) ≤ i → i < (3 : Int) → 0 ≤ cl_q.getD i.toNat 0 ∧ cl_q.getD i.toNat 0 ≤ 2) ∧ ((0 : Int) ≤ b ∧ b ≤ (1 : Int)) ∧ (b = 1 → ¬ Int64.ofInt sb' = 0) ∧ hfr [66, 84, 85, 86, 87] h h_q) := by
  intro k
  induction k with
  | zero => intro vb sb wa s1 t1 r1 c1 u u66 u83 n83 u84 n84 u85 n85 u86 n86 u87 n87 ul F hb hr1 hcl hk; omega
  | succ k ih =>
    intro vb sb wa s1 t1 r1 c1 u u66 u83 n83 u84 n84 u85 n85 u86 n86 u87 n87 ul F hb hr1 hcl hk
    obtain ⟨nn, hnn⟩ : ∃ m : Nat, m = 1 <<< n.toNat := ⟨_, rfl⟩
    have hn8 : nn ≤ 8 := by rw [hnn]; exact mj_nn q0.2
    refine ik_Wk 3 (pc_q := 23) (loc_q := [some (.ref 66), some (fI n), some (fI sz), some (fI ((va : Nat) : Int)), some (fI ((vb : Nat) : Int))]) (st_q := [fI n, fI 1, fI ((vb : Nat) : Int)]) (h_q := u) (cl_q := 0) (sl_q := 0) rfl ?_
    refine fx_shl rfl (by omega) (by omega) ?_
    rw [← hnn]
    refine fw_ic_ge rfl rfl (by omega) (by omega) (by omega) (by omega) (fun hc1 => ?_) (fun hc1 => ?_)
    · exact K u vb sb wa s1 t1 r1 c1 u66 u83 n83 u84 n84 u85 n85 u86 n86 u87 n87 ul F hr1 hcl
    · refine ik_Wk 1 (pc_q := 28) (loc_q := [some (.ref 66), some (fI n), some (fI sz), some (fI ((va : Nat) : Int)), some (fI ((vb : Nat) : Int))]) (st_q := [fI ((va : Nat) : Int)]) (h_q := u) (cl_q := 0) (sl_q := 0) rfl ?_
      refine fw_call 172 1 3 [fI ((va : Nat) : Int)] [] rfl rfl rfl (Nat.le_of_ble_eq_true rfl) rfl rfl (fw_sta ul rfl (by decide +kernel)) (cr_bits (v := va) (by omega)  ul) ?_
      rintro _ h_898 ⟨z_898, rfl, p_898_0, F_898⟩
      have k_898 : cL h_898 := F_898.1.trans ul
      have fr_898 := hfr_cb F F_898 rfl
      have g_898_66 := (hfr_g F_898 66 rfl).trans u66
      have g_898_83 := (hfr_g F_898 83 rfl).trans u83
      have g_898_84 := (hfr_g F_898 84 rfl).trans u84
      have g_898_85 := (hfr_g F_898 85 rfl).trans u85
      have g_898_86 := (hfr_g F_898 86 rfl).trans u86
      have g_898_87 := (hfr_g F_898 87 rfl).trans u87
      refine ik_Wk 0 (pc_q := 31) (loc_q := [some (.ref 66), some (fI n), some (fI sz), some (fI ((va : Nat) : Int)), some (fI ((vb : Nat) : Int))]) (st_q := [fI z_898]) (h_q := h_898) (cl_q := 0) (sl_q := 0) rfl ?_
      refine ik_Wk 1 (pc_q := 32) (loc_q := [some (.ref 66), some (fI n), some (fI sz), some (fI ((va : Nat) : Int)), some (fI ((vb : Nat) : Int))]) (st_q := [fI sz, fI z_898]) (h_q := h_898) (cl_q := 0) (sl_q := 0) rfl ?_
      refine fw_ic_ne rfl rfl (by omega) (by omega) (by omega) (by omega) (fun hc2 => ?_) (fun hc2 => ?_)
      · refine ik_Wk 1 (pc_q := 37) (loc_q := [some (.ref 66), some (fI n), some (fI sz), some (fI ((va : Nat) : Int)), some (fI ((vb : Nat) : Int))]) (st_q := [fI ((vb : Nat) : Int)]) (h_q := h_898) (cl_q := 0) (sl_q := 0) rfl ?_
        refine fw_call 172 1 3 [fI ((vb : Nat) : Int)] [] rfl rfl rfl (Nat.le_of_ble_eq_true rfl) rfl rfl (fw_sta k_898 rfl (by decide +kernel)) (cr_bits (v := vb) (by omega)  k_898) ?_
        rintro _ h_899 ⟨z_899, rfl, p_899_0, F_899⟩
        have k_899 : cL h_899 := F_899.1.trans k_898
        have fr_899 := hfr_cb fr_898 F_899 rfl
        have g_899_66 := (hfr_g F_899 66 rfl).trans g_898_66
        have g_899_83 := (hfr_g F_899 83 rfl).trans g_898_83
        have g_899_84 := (hfr_g F_899 84 rfl).trans g_898_84
        have g_899_85 := (hfr_g F_899 85 rfl).trans g_898_85
        have g_899_86 := (hfr_g F_899 86 rfl).trans g_898_86
        have g_899_87 := (hfr_g F_899 87 rfl).trans g_898_87
        refine ik_Wk 0 (pc_q := 40) (loc_q := [some (.ref 66), some (fI n), some (fI sz), some (fI ((va : Nat) : Int)), some (fI ((vb : Nat) : Int))]) (st_q := [fI z_899]) (h_q := h_899) (cl_q := 0) (sl_q := 0) rfl ?_
        refine ik_Wk 1 (pc_q := 41) (loc_q := [some (.ref 66), some (fI n), some (fI sz), some (fI ((va : Nat) : Int)), some (fI ((vb : Nat) : Int))]) (st_q := [fI sz, fI z_899]) (h_q := h_899) (cl_q := 0) (sl_q := 0) rfl ?_
        refine fw_ic_ne rfl rfl (by omega) (by omega) (by omega) (by omega) (fun hc3 => ?_) (fun hc3 => ?_)
        · refine ik_Wk 4 (pc_q := 49) (loc_q := [some (.ref 66), some (fI n), some (fI sz), some (fI ((va : Nat) : Int)), some (fI ((vb : Nat) : Int))]) (st_q := [fI ((vb : Nat) : Int), fI ((va : Nat) : Int), fI n, .ref 66]) (h_q := h_899) (cl_q := 0) (sl_q := 0) rfl ?_
          refine fw_call 176 4 0 [.ref 66, fI n, fI ((va : Nat) : Int), fI ((vb : Nat) : Int)] [] rfl rfl rfl (Nat.le_of_ble_eq_true rfl) rfl rfl (fw_rec k_899 rfl g_899_66 rfl (Nat.le_of_ble_eq_true rfl)) (cr_fits (f := fun j => ((f 0 :: 0 :: 0 :: 0 :: f 4 :: 0 :: 0 :: f 7 :: f 8 :: 0 :: f 10 :: f 11 :: f 12 :: f 13 :: f 14 :: f 15 :: f 16 :: f 17 :: 0 :: 0 :: 0 :: 0 :: 0 :: 0 :: f 24 :: 0 :: 0 :: 0 :: 0 :: 0 :: 0 :: 0 :: sb :: wa :: 0 :: 0 :: f 36 :: 0 :: 0 :: 0 :: 0 :: 0 :: 0 :: []) : List Int).getD j 0) (n := n) (fr := fr) (so := s1) (sw := t1) (ro := r1) (cl := c1) (va := va) (vb := vb) (by omega) (by omega) (by omega) hr1 hcl g_899_66 g_899_83 n83 g_899_84 n84 g_899_85 n85 g_899_86 n86 g_899_87 n87 k_899) ?_
          rintro _ h_900 ⟨sb'_900, wa'_900, so'_900, sw'_900, ro'_900, cl'_900, b_900, rfl, e_900_66, e_900_84, m_900_84, e_900_85, m_900_85, e_900_86, m_900_86, e_900_87, m_900_87, p_900_0, p_900_1, p_900_2, p_900_3, F_900⟩
          have k_900 : cL h_900 := F_900.1.trans k_899
          have fr_900 := hfr_cb fr_899 F_900 rfl
          have g_900_83 := (hfr_g F_900 83 rfl).trans g_899_83
          have g_900_66 : cE h_900 66 (.inr (10, (fI (f 0) :: .ref 67 :: .ref 68 :: .ref 69 :: fI (f 4) :: .ref 70 :: .ref 71 :: fI (f 7) :: fI (f 8) :: .ref 72 :: fI (f 10) :: fI (f 11) :: fI (f 12) :: fJ (f 13) :: fI (f 14) :: fI (f 15) :: fI (f 16) :: fI (f 17) :: .ref 73 :: .ref 74 :: .ref 75 :: .ref 76 :: .ref 77 :: .ref 78 :: fI (f 24) :: .ref 79 :: .ref 80 :: .ref 81 :: .ref 82 :: .ref 83 :: .ref 84 :: .ref 85 :: fJ sb'_900 :: fJ wa'_900 :: .ref 86 :: .ref 87 :: fI (f 36) :: .ref 88 :: .ref 89 :: .ref 90 :: .ref 91 :: .ref 92 :: .ref 93 :: []))) := e_900_66
          have g_900_84 : cE h_900 84 (.inl (.long, fL so'_900)) := e_900_84
          have g_900_85 : cE h_900 85 (.inl (.long, fL sw'_900)) := e_900_85
          have g_900_86 : cE h_900 86 (.inl (.int, fA ro'_900)) := e_900_86
          have g_900_87 : cE h_900 87 (.inl (.int, fA cl'_900)) := e_900_87
          refine ik_Wk 0 (pc_q := 52) (loc_q := [some (.ref 66), some (fI n), some (fI sz), some (fI ((va : Nat) : Int)), some (fI ((vb : Nat) : Int))]) (st_q := [fI b_900]) (h_q := h_900) (cl_q := 0) (sl_q := 0) rfl ?_
          refine fw_if_eq rfl rfl (by omega) (by omega) (fun hc4 => ?_) (fun hc4 => ?_)
          · refine fw_inc (a := ((vb : Nat) : Int)) (loc_q := [some (.ref 66), some (fI n), some (fI sz), some (fI ((va : Nat) : Int)), some (fI (((vb : Nat) : Int) + 1))]) rfl rfl (Nat.le_of_ble_eq_true rfl) rfl ?_
            refine ik_Wk 1 (pc_q := 19) (loc_q := [some (.ref 66), some (fI n), some (fI sz), some (fI ((va : Nat) : Int)), some (fI (((vb : Nat) : Int) + 1))]) (st_q := []) (h_q := h_900) (cl_q := 0) (sl_q := 0) rfl ?_
            rw [show ((vb : Nat) : Int) + 1 = ((vb + 1 : Nat) : Int) from rfl]
            exact ih (vb + 1) sb'_900 wa'_900 so'_900 sw'_900 ro'_900 cl'_900 h_900 g_900_66 g_900_83 n83 g_900_84 m_900_84 g_900_85 m_900_85 g_900_86 m_900_86 g_900_87 m_900_87 k_900 fr_900 (by omega) p_900_0 p_900_1 (by omega)
          · refine ik_Wk 1 (pc_q := 56) (loc_q := [some (.ref 66), some (fI n), some (fI sz), some (fI ((va : Nat) : Int)), some (fI ((vb : Nat) : Int))]) (st_q := [fI 1]) (h_q := h_900) (cl_q := 0) (sl_q := 0) rfl ?_
            exact ik_Wret rfl rfl ⟨_, _, rfl, rfl, rfl, rfl, ⟨sb'_900, wa'_900, so'_900, sw'_900, ro'_900, cl'_900, 1, rfl, g_900_66, g_900_84, m_900_84, g_900_85, m_900_85, g_900_86, m_900_86, g_900_87, m_900_87, p_900_0, p_900_1, (by omega), (fun _ => p_900_3 (by omega)), fr_900⟩⟩
        · refine fw_inc (a := ((vb : Nat) : Int)) (loc_q := [some (.ref 66), some (fI n), some (fI sz), some (fI ((va : Nat) : Int)), some (fI (((vb : Nat) : Int) + 1))]) rfl rfl (Nat.le_of_ble_eq_true rfl) rfl ?_
          refine ik_Wk 1 (pc_q := 19) (loc_q := [some (.ref 66), some (fI n), some (fI sz), some (fI ((va : Nat) : Int)), some (fI (((vb : Nat) : Int) + 1))]) (st_q := []) (h_q := h_899) (cl_q := 0) (sl_q := 0) rfl ?_
          rw [show ((vb : Nat) : Int) + 1 = ((vb + 1 : Nat) : Int) from rfl]
          exact ih (vb + 1) sb wa s1 t1 r1 c1 h_899 g_899_66 g_899_83 n83 g_899_84 n84 g_899_85 n85 g_899_86 n86 g_899_87 n87 k_899 fr_899 (by omega) hr1 hcl (by omega)
      · refine fw_inc (a := ((vb : Nat) : Int)) (loc_q := [some (.ref 66), some (fI n), some (fI sz), some (fI ((va : Nat) : Int)), some (fI (((vb : Nat) : Int) + 1))]) rfl rfl (Nat.le_of_ble_eq_true rfl) rfl ?_
        refine ik_Wk 1 (pc_q := 19) (loc_q := [some (.ref 66), some (fI n), some (fI sz), some (fI ((va : Nat) : Int)), some (fI (((vb : Nat) : Int) + 1))]) (st_q := []) (h_q := h_898) (cl_q := 0) (sl_q := 0) rfl ?_
        rw [show ((vb : Nat) : Int) + 1 = ((vb + 1 : Nat) : Int) from rfl]
        exact ih (vb + 1) sb wa s1 t1 r1 c1 h_898 g_898_66 g_898_83 n83 g_898_84 n84 g_898_85 n85 g_898_86 n86 g_898_87 n87 k_898 fr_898 (by omega) hr1 hcl (by omega)

theorem cr_findMixedA {h : List ik_E} {f : Nat → Int} {n : Int} {fr : List Int} {so : List Int} {sw : List Int} {ro : List Int} {cl : List Int} (q0 : 1 ≤ n ∧ n ≤ 3) (q1 : ∀ i : Int, (0 : Int) ≤ i → i < (3 : Int) → 0 ≤ ro.getD i.toNat 0 ∧ ro.getD i.toNat 0 ≤ 2) (q2 : ∀ i : Int, (0 : Int) ≤ i → i < (3 : Int) → 0 ≤ cl.getD i.toNat 0 ∧ cl.getD i.toNat 0 ≤ 2) (sz : Int) (hs : (1 : Int) ≤ sz ∧ sz ≤ (3 : Int))  (K : ∀ (w : List ik_E) (va2 : Nat) (sb : Int) (wa : Int) (s1 : List Int) (t1 : List Int) (r1 : List Int) (c1 : List Int) (x4 : Option Value) (w66 : cE w 66 (.inr (10, (fI (f 0) :: .ref 67 :: .ref 68 :: .ref 69 :: fI (f 4) :: .ref 70 :: .ref 71 :: fI (f 7) :: fI (f 8) :: .ref 72 :: fI (f 10) :: fI (f 11) :: fI (f 12) :: fJ (f 13) :: fI (f 14) :: fI (f 15) :: fI (f 16) :: fI (f 17) :: .ref 73 :: .ref 74 :: .ref 75 :: .ref 76 :: .ref 77 :: .ref 78 :: fI (f 24) :: .ref 79 :: .ref 80 :: .ref 81 :: .ref 82 :: .ref 83 :: .ref 84 :: .ref 85 :: fJ sb :: fJ wa :: .ref 86 :: .ref 87 :: fI (f 36) :: .ref 88 :: .ref 89 :: .ref 90 :: .ref 91 :: .ref 92 :: .ref 93 :: [])))) (w83 : cE w 83 (.inl (.long, fL fr))) (nw_83 : fr.length = (9 : Nat)) (w84 : cE w 84 (.inl (.long, fL s1))) (nw_84 : s1.length = (3 : Nat)) (w85 : cE w 85 (.inl (.long, fL t1))) (nw_85 : t1.length = (3 : Nat)) (w86 : cE w 86 (.inl (.int, fA r1))) (nw_86 : r1.length = (3 : Nat)) (w87 : cE w 87 (.inl (.int, fA c1))) (nw_87 : c1.length = (3 : Nat)) (wl : w.length = (94 : Nat)) (F : hfr [66, 84, 85, 86, 87] h w) (hr1 : ∀ i : Int, (0 : Int) ≤ i → i < (3 : Int) → 0 ≤ r1.getD i.toNat 0 ∧ r1.getD i.toNat 0 ≤ 2) (hcl : ∀ i : Int, (0 : Int) ≤ i → i < (3 : Int) → 0 ≤ c1.getD i.toNat 0 ∧ c1.getD i.toNat 0 ≤ 2) (w4 : ik_wl 94 x4 = true), ik_G 179 69 [some (.ref 66), some (fI n), some (fI sz), some (fI ((va2 : Nat) : Int)), x4] [] w (fun rv h_q => ∃ (sb' : Int) (wa' : Int) (so' : List Int) (sw' : List Int) (ro' : List Int) (cl_q : List Int) (b : Int), rv = [fI b] ∧ cE h_q 66 (.inr (10, (fI (f 0) :: .ref 67 :: .ref 68 :: .ref 69 :: fI (f 4) :: .ref 70 :: .ref 71 :: fI (f 7) :: fI (f 8) :: .ref 72 :: fI (f 10) :: fI (f 11) :: fI (f 12) :: fJ (f 13) :: fI (f 14) :: fI (f 15) :: fI (f 16) :: fI (f 17) :: .ref 73 :: .ref 74 :: .ref 75 :: .ref 76 :: .ref 77 :: .ref 78 :: fI (f 24) :: .ref 79 :: .ref 80 :: .ref 81 :: .ref 82 :: .ref 83 :: .ref 84 :: .ref 85 :: fJ sb' :: fJ wa' :: .ref 86 :: .ref 87 :: fI (f 36) :: .ref 88 :: .ref 89 :: .ref 90 :: .ref 91 :: .ref 92 :: .ref 93 :: []))) ∧ cE h_q 84 (.inl (.long, fL so')) ∧ so'.length = (3 : Nat) ∧ cE h_q 85 (.inl (.long, fL sw')) ∧ sw'.length = (3 : Nat) ∧ cE h_q 86 (.inl (.int, fA ro')) ∧ ro'.length = (3 : Nat) ∧ cE h_q 87 (.inl (.int, fA cl_q)) ∧ cl_q.length = (3 : Nat) ∧ (∀ i : Int, (0 : Int) ≤ i → i < (3 : Int) → 0 ≤ ro'.getD i.toNat 0 ∧ ro'.getD i.toNat 0 ≤ 2) ∧ (∀ i : Int, (0 : Int) ≤ i → i < (3 : Int) → 0 ≤ cl_q.getD i.toNat 0 ∧ cl_q.getD i.toNat 0 ≤ 2) ∧ ((0 : Int) ≤ b ∧ b ≤ (1 : Int)) ∧ (b = 1 → ¬ Int64.ofInt sb' = 0) ∧ hfr [66, 84, 85, 86, 87] h h_q)) : ∀ (k : Nat) (va : Nat) (sb : Int) (wa : Int) (s1 : List Int) (t1 : List Int) (r1 : List Int) (c1 : List Int) (x4 : Option Value) (u : List ik_E) (u66 : cE u 66 (.inr (10, (fI (f 0) :: .ref 67 :: .ref 68 :: .ref 69 :: fI (f 4) :: .ref 70 :: .ref 71 :: fI (f 7) :: fI (f 8) :: .ref 72 :: fI (f 10) :: fI (f 11) :: fI (f 12) :: fJ (f 13) :: fI (f 14) :: fI (f 15) :: fI (f 16) :: fI (f 17) :: .ref 73 :: .ref 74 :: .ref 75 :: .ref 76 :: .ref 77 :: .ref 78 :: fI (f 24) :: .ref 79 :: .ref 80 :: .ref 81 :: .ref 82 :: .ref 83 :: .ref 84 :: .ref 85 :: fJ sb :: fJ wa :: .ref 86 :: .ref 87 :: fI (f 36) :: .ref 88 :: .ref 89 :: .ref 90 :: .ref 91 :: .ref 92 :: .ref 93 :: [])))) (u83 : cE u 83 (.inl (.long, fL fr))) (n83 : fr.length = (9 : Nat)) (u84 : cE u 84 (.inl (.long, fL s1))) (n84 : s1.length = (3 : Nat)) (u85 : cE u 85 (.inl (.long, fL t1))) (n85 : t1.length = (3 : Nat)) (u86 : cE u 86 (.inl (.int, fA r1))) (n86 : r1.length = (3 : Nat)) (u87 : cE u 87 (.inl (.int, fA c1))) (n87 : c1.length = (3 : Nat)) (ul : u.length = (94 : Nat)) (F : hfr [66, 84, 85, 86, 87] h u) (ha : 1 ≤ va ∧ va ≤ 8) (hr1 : ∀ i : Int, (0 : Int) ≤ i → i < (3 : Int) → 0 ≤ r1.getD i.toNat 0 ∧ r1.getD i.toNat 0 ≤ 2) (hcl : ∀ i : Int, (0 : Int) ≤ i → i < (3 : Int) → 0 ≤ c1.getD i.toNat 0 ∧ c1.getD i.toNat 0 ≤ 2) (w4 : ik_wl 94 x4 = true) (hk : 8 - (va : Int) < (k : Int)), ik_G 179 9 [some (.ref 66), some (fI n), some (fI sz), some (fI ((va : Nat) : Int)), x4] [] u (fun rv h_q => ∃ (sb' : Int) (wa' : Int) (so' : List Int) (sw' : List Int) (ro' : List Int) (cl_q : List Int) (b : Int), rv = [fI b] ∧ cE h_q 66 (.inr (10, (fI (f 0) :: .ref 67 :: .ref 68 :: .ref 69 :: fI (f 4) :: .ref 70 :: .ref 71 :: fI (f 7) :: fI (f 8) :: .ref 72 :: fI (f 10) :: fI (f 11) :: fI (f 12) :: fJ (f 13) :: fI (f 14) :: fI (f 15) :: fI (f 16) :: fI (f 17) :: .ref 73 :: .ref 74 :: .ref 75 :: .ref 76 :: .ref 77 :: .ref 78 :: fI (f 24) :: .ref 79 :: .ref 80 :: .ref 81 :: .ref 82 :: .ref 83 :: .ref 84 :: .ref 85 :: fJ sb' :: fJ wa' :: .ref 86 :: .ref 87 :: fI (f 36) :: .ref 88 :: .ref 89 :: .ref 90 :: .ref 91 :: .ref 92 :: .ref 93 :: []))) ∧ cE h_q 84 (.inl (.long, fL so')) ∧ so'.length = (3 : Nat) ∧ cE h_q 85 (.inl (.long, fL sw')) ∧ sw'.length = (3 : Nat) ∧ cE h_q 86 (.inl (.int, fA ro')) ∧ ro'.length = (3 : Nat) ∧ cE h_q 87 (.inl (.int, fA cl_q)) ∧ cl_q.length = (3 : Nat) ∧ (∀ i : Int, (0 : Int) ≤ i → i < (3 : Int) → 0 ≤ ro'.getD i.toNat 0 ∧ ro'.getD i.toNat 0 ≤ 2) ∧ (∀ i : Int, (0 : Int) ≤ i → i < (3 : Int) → 0 ≤ cl_q.getD i.toNat 0 ∧ cl_q.getD i.toNat 0 ≤ 2) ∧ ((0 : Int) ≤ b ∧ b ≤ (1 : Int)) ∧ (b = 1 → ¬ Int64.ofInt sb' = 0) ∧ hfr [66, 84, 85, 86, 87] h h_q) := by
  intro k
  induction k with
  | zero => intro va sb wa s1 t1 r1 c1 x4 u u66 u83 n83 u84 n84 u85 n85 u86 n86 u87 n87 ul F ha hr1 hcl w4 hk; omega
  | succ k ih =>
    intro va sb wa s1 t1 r1 c1 x4 u u66 u83 n83 u84 n84 u85 n85 u86 n86 u87 n87 ul F ha hr1 hcl w4 hk
    obtain ⟨nn, hnn⟩ : ∃ m : Nat, m = 1 <<< n.toNat := ⟨_, rfl⟩
    have hn8 : nn ≤ 8 := by rw [hnn]; exact mj_nn q0.2
    refine ik_Wk 3 (pc_q := 12) (loc_q := [some (.ref 66), some (fI n), some (fI sz), some (fI ((va : Nat) : Int)), x4]) (st_q := [fI n, fI 1, fI ((va : Nat) : Int)]) (h_q := u) (cl_q := 0) (sl_q := 0) rfl ?_
    refine fx_shl rfl (by omega) (by omega) ?_
    rw [← hnn]
    refine fw_ic_ge rfl rfl (by omega) (by omega) (by omega) (by omega) (fun hc1 => ?_) (fun hc1 => ?_)
    · exact K u va sb wa s1 t1 r1 c1 x4 u66 u83 n83 u84 n84 u85 n85 u86 n86 u87 n87 ul F hr1 hcl w4
    · refine ik_Wk 2 (pc_q := 19) (loc_q := [some (.ref 66), some (fI n), some (fI sz), some (fI ((va : Nat) : Int)), some (fI 1)]) (st_q := []) (h_q := u) (cl_q := 0) (sl_q := 0) rfl ?_
      refine cr_findMixedB (f := f) (n := n) (fr := fr) (so := so) (sw := sw) (ro := ro) (cl := cl) q0 q1 q2 sz (by omega) va (by omega)  (fun h_901 vb2_901 sb_901 wa_901 s1_901 t1_901 r1_901 c1_901 g_901_66 g_901_83 m_901_83 g_901_84 m_901_84 g_901_85 m_901_85 g_901_86 m_901_86 g_901_87 m_901_87 k_901 fr_901 hr1_901 hcl_901 => ?_) 9 1 sb wa s1 t1 r1 c1 u u66 u83 n83 u84 n84 u85 n85 u86 n86 u87 n87 ul F (by omega) hr1 hcl (by omega)
      refine fw_inc (a := ((va : Nat) : Int)) (loc_q := [some (.ref 66), some (fI n), some (fI sz), some (fI (((va : Nat) : Int) + 1)), some (fI ((vb2_901 : Nat) : Int))]) rfl rfl (Nat.le_of_ble_eq_true rfl) rfl ?_
      refine ik_Wk 1 (pc_q := 9) (loc_q := [some (.ref 66), some (fI n), some (fI sz), some (fI (((va : Nat) : Int) + 1)), some (fI ((vb2_901 : Nat) : Int))]) (st_q := []) (h_q := h_901) (cl_q := 0) (sl_q := 0) rfl ?_
      rw [show ((va : Nat) : Int) + 1 = ((va + 1 : Nat) : Int) from rfl]
      exact ih (va + 1) sb_901 wa_901 s1_901 t1_901 r1_901 c1_901 (some (fI ((vb2_901 : Nat) : Int))) h_901 g_901_66 g_901_83 m_901_83 g_901_84 m_901_84 g_901_85 m_901_85 g_901_86 m_901_86 g_901_87 m_901_87 k_901 fr_901 (by omega) hr1_901 hcl_901 rfl (by omega)

theorem cr_findMixedS {h : List ik_E} {f : Nat → Int} {n : Int} {fr : List Int} {so : List Int} {sw : List Int} {ro : List Int} {cl : List Int} (q0 : 1 ≤ n ∧ n ≤ 3) (q1 : ∀ i : Int, (0 : Int) ≤ i → i < (3 : Int) → 0 ≤ ro.getD i.toNat 0 ∧ ro.getD i.toNat 0 ≤ 2) (q2 : ∀ i : Int, (0 : Int) ≤ i → i < (3 : Int) → 0 ≤ cl.getD i.toNat 0 ∧ cl.getD i.toNat 0 ≤ 2)  : ∀ (k : Nat) (sz : Int) (sb : Int) (wa : Int) (s1 : List Int) (t1 : List Int) (r1 : List Int) (c1 : List Int) (x3 : Option Value) (x4 : Option Value) (u : List ik_E) (u66 : cE u 66 (.inr (10, (fI (f 0) :: .ref 67 :: .ref 68 :: .ref 69 :: fI (f 4) :: .ref 70 :: .ref 71 :: fI (f 7) :: fI (f 8) :: .ref 72 :: fI (f 10) :: fI (f 11) :: fI (f 12) :: fJ (f 13) :: fI (f 14) :: fI (f 15) :: fI (f 16) :: fI (f 17) :: .ref 73 :: .ref 74 :: .ref 75 :: .ref 76 :: .ref 77 :: .ref 78 :: fI (f 24) :: .ref 79 :: .ref 80 :: .ref 81 :: .ref 82 :: .ref 83 :: .ref 84 :: .ref 85 :: fJ sb :: fJ wa :: .ref 86 :: .ref 87 :: fI (f 36) :: .ref 88 :: .ref 89 :: .ref 90 :: .ref 91 :: .ref 92 :: .ref 93 :: [])))) (u83 : cE u 83 (.inl (.long, fL fr))) (n83 : fr.length = (9 : Nat)) (u84 : cE u 84 (.inl (.long, fL s1))) (n84 : s1.length = (3 : Nat)) (u85 : cE u 85 (.inl (.long, fL t1))) (n85 : t1.length = (3 : Nat)) (u86 : cE u 86 (.inl (.int, fA r1))) (n86 : r1.length = (3 : Nat)) (u87 : cE u 87 (.inl (.int, fA c1))) (n87 : c1.length = (3 : Nat)) (ul : u.length = (94 : Nat)) (F : hfr [66, 84, 85, 86, 87] h u) (hs : (1 : Int) ≤ sz ∧ sz ≤ n + 1) (hr1 : ∀ i : Int, (0 : Int) ≤ i → i < (3 : Int) → 0 ≤ r1.getD i.toNat 0 ∧ r1.getD i.toNat 0 ≤ 2) (hcl : ∀ i : Int, (0 : Int) ≤ i → i < (3 : Int) → 0 ≤ c1.getD i.toNat 0 ∧ c1.getD i.toNat 0 ≤ 2) (w3 : ik_wl 94 x3 = true) (w4 : ik_wl 94 x4 = true) (hk : n + 1 - sz < (k : Int)), ik_G 179 2 [some (.ref 66), some (fI n), some (fI sz), x3, x4] [] u (fun rv h_q => ∃ (sb' : Int) (wa' : Int) (so' : List Int) (sw' : List Int) (ro' : List Int) (cl_q : List Int) (b : Int), rv = [fI b] ∧ cE h_q 66 (.inr (10, (fI (f 0) :: .ref 67 :: .ref 68 :: .ref 69 :: fI (f 4) :: .ref 70 :: .ref 71 :: fI (f 7) :: fI (f 8) :: .ref 72 :: fI (f 10) :: fI (f 11) :: fI (f 12) :: fJ (f 13) :: fI (f 14) :: fI (f 15) :: fI (f 16) :: fI (f 17) :: .ref 73 :: .ref 74 :: .ref 75 :: .ref 76 :: .ref 77 :: .ref 78 :: fI (f 24) :: .ref 79 :: .ref 80 :: .ref 81 :: .ref 82 :: .ref 83 :: .ref 84 :: .ref 85 :: fJ sb' :: fJ wa' :: .ref 86 :: .ref 87 :: fI (f 36) :: .ref 88 :: .ref 89 :: .ref 90 :: .ref 91 :: .ref 92 :: .ref 93 :: []))) ∧ cE h_q 84 (.inl (.long, fL so')) ∧ so'.length = (3 : Nat) ∧ cE h_q 85 (.inl (.long, fL sw')) ∧ sw'.length = (3 : Nat) ∧ cE h_q 86 (.inl (.int, fA ro')) ∧ ro'.length = (3 : Nat) ∧ cE h_q 87 (.inl (.int, fA cl_q)) ∧ cl_q.length = (3 : Nat) ∧ (∀ i : Int, (0 : Int) ≤ i → i < (3 : Int) → 0 ≤ ro'.getD i.toNat 0 ∧ ro'.getD i.toNat 0 ≤ 2) ∧ (∀ i : Int, (0 : Int) ≤ i → i < (3 : Int) → 0 ≤ cl_q.getD i.toNat 0 ∧ cl_q.getD i.toNat 0 ≤ 2) ∧ ((0 : Int) ≤ b ∧ b ≤ (1 : Int)) ∧ (b = 1 → ¬ Int64.ofInt sb' = 0) ∧ hfr [66, 84, 85, 86, 87] h h_q) := by
  intro k
  induction k with
  | zero => intro sz sb wa s1 t1 r1 c1 x3 x4 u u66 u83 n83 u84 n84 u85 n85 u86 n86 u87 n87 ul F hs hr1 hcl w3 w4 hk; omega
  | succ k ih =>
    intro sz sb wa s1 t1 r1 c1 x3 x4 u u66 u83 n83 u84 n84 u85 n85 u86 n86 u87 n87 ul F hs hr1 hcl w3 w4 hk
    refine ik_Wk 2 (pc_q := 4) (loc_q := [some (.ref 66), some (fI n), some (fI sz), x3, x4]) (st_q := [fI n, fI sz]) (h_q := u) (cl_q := 0) (sl_q := 0) rfl ?_
    refine fw_ic_gt rfl rfl (by omega) (by omega) (by omega) (by omega) (fun hc1 => ?_) (fun hc1 => ?_)
    · refine ik_Wk 1 (pc_q := 76) (loc_q := [some (.ref 66), some (fI n), some (fI sz), x3, x4]) (st_q := [fI 0]) (h_q := u) (cl_q := 0) (sl_q := 0) rfl ?_
      exact ik_Wret rfl rfl ⟨_, _, rfl, rfl, rfl, rfl, ⟨sb, wa, s1, t1, r1, c1, 0, rfl, u66, u84, n84, u85, n85, u86, n86, u87, n87, hr1, hcl, (by omega), (fun w => absurd w (by decide +kernel)), F⟩⟩
    · refine ik_Wk 2 (pc_q := 9) (loc_q := [some (.ref 66), some (fI n), some (fI sz), some (fI 1), x4]) (st_q := []) (h_q := u) (cl_q := 0) (sl_q := 0) rfl ?_
      refine cr_findMixedA (f := f) (n := n) (fr := fr) (so := so) (sw := sw) (ro := ro) (cl := cl) q0 q1 q2 sz (by omega)  (fun h_902 va2_902 sb_902 wa_902 s1_902 t1_902 r1_902 c1_902 x4_902 g_902_66 g_902_83 m_902_83 g_902_84 m_902_84 g_902_85 m_902_85 g_902_86 m_902_86 g_902_87 m_902_87 k_902 fr_902 hr1_902 hcl_902 w4_902 => ?_) 9 1 sb wa s1 t1 r1 c1 x4 u u66 u83 n83 u84 n84 u85 n85 u86 n86 u87 n87 ul F (by omega) hr1 hcl w4 (by omega)
      refine fw_inc (a := sz) (loc_q := [some (.ref 66), some (fI n), some (fI (sz + 1)), some (fI ((va2_902 : Nat) : Int)), x4_902]) rfl rfl (Nat.le_of_ble_eq_true rfl) rfl ?_
      refine ik_Wk 1 (pc_q := 2) (loc_q := [some (.ref 66), some (fI n), some (fI (sz + 1)), some (fI ((va2_902 : Nat) : Int)), x4_902]) (st_q := []) (h_q := h_902) (cl_q := 0) (sl_q := 0) rfl ?_
      exact ih  (sz + 1) sb_902 wa_902 s1_902 t1_902 r1_902 c1_902 (some (fI ((va2_902 : Nat) : Int))) x4_902 h_902 g_902_66 g_902_83 m_902_83 g_902_84 m_902_84 g_902_85 m_902_85 g_902_86 m_902_86 g_902_87 m_902_87 k_902 fr_902 (by omega) hr1_902 hcl_902 rfl w4_902 (by omega)

theorem cr_findMixed {h : List ik_E} {f : Nat → Int} {n : Int} {fr : List Int} {so : List Int} {sw : List Int} {ro : List Int} {cl : List Int} (q0 : 1 ≤ n ∧ n ≤ 3) (q1 : ∀ i : Int, (0 : Int) ≤ i → i < (3 : Int) → 0 ≤ ro.getD i.toNat 0 ∧ ro.getD i.toNat 0 ≤ 2) (q2 : ∀ i : Int, (0 : Int) ≤ i → i < (3 : Int) → 0 ≤ cl.getD i.toNat 0 ∧ cl.getD i.toNat 0 ≤ 2) (h66 : cE h 66 (.inr (10, (fI (f 0) :: .ref 67 :: .ref 68 :: .ref 69 :: fI (f 4) :: .ref 70 :: .ref 71 :: fI (f 7) :: fI (f 8) :: .ref 72 :: fI (f 10) :: fI (f 11) :: fI (f 12) :: fJ (f 13) :: fI (f 14) :: fI (f 15) :: fI (f 16) :: fI (f 17) :: .ref 73 :: .ref 74 :: .ref 75 :: .ref 76 :: .ref 77 :: .ref 78 :: fI (f 24) :: .ref 79 :: .ref 80 :: .ref 81 :: .ref 82 :: .ref 83 :: .ref 84 :: .ref 85 :: fJ (f 32) :: fJ (f 33) :: .ref 86 :: .ref 87 :: fI (f 36) :: .ref 88 :: .ref 89 :: .ref 90 :: .ref 91 :: .ref 92 :: .ref 93 :: [])))) (h83 : cE h 83 (.inl (.long, fL fr))) (n83 : fr.length = (9 : Nat)) (h84 : cE h 84 (.inl (.long, fL so))) (n84 : so.length = (3 : Nat)) (h85 : cE h 85 (.inl (.long, fL sw))) (n85 : sw.length = (3 : Nat)) (h86 : cE h 86 (.inl (.int, fA ro))) (n86 : ro.length = (3 : Nat)) (h87 : cE h 87 (.inl (.int, fA cl))) (n87 : cl.length = (3 : Nat)) (hl : h.length = (94 : Nat)) : ik_F 179 [.ref 66, fI n] h (fun rv h_q => ∃ (sb' : Int) (wa' : Int) (so' : List Int) (sw' : List Int) (ro' : List Int) (cl_q : List Int) (b : Int), rv = [fI b] ∧ cE h_q 66 (.inr (10, (fI (f 0) :: .ref 67 :: .ref 68 :: .ref 69 :: fI (f 4) :: .ref 70 :: .ref 71 :: fI (f 7) :: fI (f 8) :: .ref 72 :: fI (f 10) :: fI (f 11) :: fI (f 12) :: fJ (f 13) :: fI (f 14) :: fI (f 15) :: fI (f 16) :: fI (f 17) :: .ref 73 :: .ref 74 :: .ref 75 :: .ref 76 :: .ref 77 :: .ref 78 :: fI (f 24) :: .ref 79 :: .ref 80 :: .ref 81 :: .ref 82 :: .ref 83 :: .ref 84 :: .ref 85 :: fJ sb' :: fJ wa' :: .ref 86 :: .ref 87 :: fI (f 36) :: .ref 88 :: .ref 89 :: .ref 90 :: .ref 91 :: .ref 92 :: .ref 93 :: []))) ∧ cE h_q 84 (.inl (.long, fL so')) ∧ so'.length = (3 : Nat) ∧ cE h_q 85 (.inl (.long, fL sw')) ∧ sw'.length = (3 : Nat) ∧ cE h_q 86 (.inl (.int, fA ro')) ∧ ro'.length = (3 : Nat) ∧ cE h_q 87 (.inl (.int, fA cl_q)) ∧ cl_q.length = (3 : Nat) ∧ (∀ i : Int, (0 : Int) ≤ i → i < (3 : Int) → 0 ≤ ro'.getD i.toNat 0 ∧ ro'.getD i.toNat 0 ≤ 2) ∧ (∀ i : Int, (0 : Int) ≤ i → i < (3 : Int) → 0 ≤ cl_q.getD i.toNat 0 ∧ cl_q.getD i.toNat 0 ≤ 2) ∧ ((0 : Int) ≤ b ∧ b ≤ (1 : Int)) ∧ (b = 1 → ¬ Int64.ofInt sb' = 0) ∧ hfr [66, 84, 85, 86, 87] h h_q) := by
  refine ik_Wk 2 (pc_q := 2) (loc_q := [some (.ref 66), some (fI n), some (fI 1), none, none]) (st_q := []) (h_q := h) (cl_q := 0) (sl_q := 0) rfl ?_
  exact cr_findMixedS (f := f) (n := n) (fr := fr) (so := so) (sw := sw) (ro := ro) (cl := cl) q0 q1 q2  (n.toNat + 1) 1 (f 32) (f 33) so sw ro cl none none h h66 h83 n83 h84 n84 h85 n85 h86 n86 h87 n87 hl (hfr_refl [66, 84, 85, 86, 87] h) (by omega) q1 q2 rfl rfl (by omega)

end